theorem dX0_init_0 : decode cX0_init 0 = .ok (.aload_n 0, 1) := by decide +kernel
theorem dX0_init_1 : decode cX0_init 1 = .ok (.invokespecial 3, 3) := by decide +kernel
theorem dX0_init_4 : decode cX0_init 4 = .ok (.aload_n 0, 1) := by decide +kernel
theorem dX0_init_5 : decode cX0_init 5 = .ok (.bipush 8, 2) := by decide +kernel
theorem dX0_init_7 : decode cX0_init 7 = .ok (.newarray .int, 2) := by decide +kernel
theorem dX0_init_9 : decode cX0_init 9 = .ok (.putfield 9, 3) := by decide +kernel
theorem dX0_init_12 : decode cX0_init 12 = .ok (.aload_n 0, 1) := by decide +kernel
theorem dX0_init_13 : decode cX0_init 13 = .ok (.iconst (-1), 1) := by decide +kernel
theorem dX0_init_14 : decode cX0_init 14 = .ok (.putfield 15, 3) := by decide +kernel
theorem dX0_init_17 : decode cX0_init 17 = .ok (.aload_n 0, 1) := by decide +kernel
theorem dX0_init_18 : decode cX0_init 18 = .ok (.iconst (-1), 1) := by decide +kernel
theorem dX0_init_19 : decode cX0_init 19 = .ok (.putfield 19, 3) := by decide +kernel
theorem dX0_init_22 : decode cX0_init 22 = .ok (.aload_n 0, 1) := by decide +kernel
theorem dX0_init_23 : decode cX0_init 23 = .ok (.aload_n 1, 1) := by decide +kernel
theorem dX0_init_24 : decode cX0_init 24 = .ok (.putfield 22, 3) := by decide +kernel
theorem dX0_init_27 : decode cX0_init 27 = .ok (.aload_n 0, 1) := by decide +kernel
theorem dX0_init_28 : decode cX0_init 28 = .ok (.iload_n 2, 1) := by decide +kernel
theorem dX0_init_29 : decode cX0_init 29 = .ok (.putfield 26, 3) := by decide +kernel
theorem dX0_init_32 : decode cX0_init 32 = .ok (.return_, 1) := by decide +kernel
theorem dX0_isSealed_0 : decode cX0_isSealed 0 = .ok (.aload_n 0, 1) := by decide +kernel
theorem dX0_isSealed_1 : decode cX0_isSealed 1 = .ok (.getfield 19, 3) := by decide +kernel
theorem dX0_isSealed_4 : decode cX0_isSealed 4 = .ok (.iconst (-1), 1) := by decide +kernel
theorem dX0_isSealed_5 : decode cX0_isSealed 5 = .ok (.if_icmp .eq 7, 3) := by decide +kernel
theorem dX0_isSealed_8 : decode cX0_isSealed 8 = .ok (.iconst 1, 1) := by decide +kernel
theorem dX0_isSealed_9 : decode cX0_isSealed 9 = .ok (.goto 4, 3) := by decide +kernel
theorem dX0_isSealed_12 : decode cX0_isSealed 12 = .ok (.iconst 0, 1) := by decide +kernel
theorem dX0_isSealed_13 : decode cX0_isSealed 13 = .ok (.ireturn, 1) := by decide +kernel
theorem dX0_loseSeal_0 : decode cX0_loseSeal 0 = .ok (.aload_n 0, 1) := by decide +kernel
theorem dX0_loseSeal_1 : decode cX0_loseSeal 1 = .ok (.iconst (-1), 1) := by decide +kernel
theorem dX0_loseSeal_2 : decode cX0_loseSeal 2 = .ok (.putfield 15, 3) := by decide +kernel
theorem dX0_loseSeal_5 : decode cX0_loseSeal 5 = .ok (.aload_n 0, 1) := by decide +kernel
theorem dX0_loseSeal_6 : decode cX0_loseSeal 6 = .ok (.iconst (-1), 1) := by decide +kernel
theorem dX0_loseSeal_7 : decode cX0_loseSeal 7 = .ok (.putfield 19, 3) := by decide +kernel
theorem dX0_loseSeal_10 : decode cX0_loseSeal 10 = .ok (.return_, 1) := by decide +kernel
theorem dX0_isReadyToSeal_0 : decode cX0_isReadyToSeal 0 = .ok (.aload_n 0, 1) := by decide +kernel
theorem dX0_isReadyToSeal_1 : decode cX0_isReadyToSeal 1 = .ok (.invokevirtual 29, 3) := by decide +kernel
theorem dX0_isReadyToSeal_4 : decode cX0_isReadyToSeal 4 = .ok (.ifCond .ne 40, 3) := by decide +kernel
theorem dX0_isReadyToSeal_7 : decode cX0_isReadyToSeal 7 = .ok (.aload_n 0, 1) := by decide +kernel
theorem dX0_isReadyToSeal_8 : decode cX0_isReadyToSeal 8 = .ok (.getfield 22, 3) := by decide +kernel
theorem dX0_isReadyToSeal_11 : decode cX0_isReadyToSeal 11 = .ok (.getfield 33, 3) := by decide +kernel
theorem dX0_isReadyToSeal_14 : decode cX0_isReadyToSeal 14 = .ok (.ifCond .ne 30, 3) := by decide +kernel
theorem dX0_isReadyToSeal_17 : decode cX0_isReadyToSeal 17 = .ok (.aload_n 0, 1) := by decide +kernel
theorem dX0_isReadyToSeal_18 : decode cX0_isReadyToSeal 18 = .ok (.getfield 39, 3) := by decide +kernel
theorem dX0_isReadyToSeal_21 : decode cX0_isReadyToSeal 21 = .ok (.ifCond .le 23, 3) := by decide +kernel
theorem dX0_isReadyToSeal_24 : decode cX0_isReadyToSeal 24 = .ok (.aload_n 0, 1) := by decide +kernel
theorem dX0_isReadyToSeal_25 : decode cX0_isReadyToSeal 25 = .ok (.getfield 42, 3) := by decide +kernel
theorem dX0_isReadyToSeal_28 : decode cX0_isReadyToSeal 28 = .ok (.iconst 3, 1) := by decide +kernel
theorem dX0_isReadyToSeal_29 : decode cX0_isReadyToSeal 29 = .ok (.if_icmp .ge 15, 3) := by decide +kernel
theorem dX0_isReadyToSeal_32 : decode cX0_isReadyToSeal 32 = .ok (.aload_n 0, 1) := by decide +kernel
theorem dX0_isReadyToSeal_33 : decode cX0_isReadyToSeal 33 = .ok (.invokevirtual 45, 3) := by decide +kernel
theorem dX0_isReadyToSeal_36 : decode cX0_isReadyToSeal 36 = .ok (.iconst (-1), 1) := by decide +kernel
theorem dX0_isReadyToSeal_37 : decode cX0_isReadyToSeal 37 = .ok (.if_icmp .eq 7, 3) := by decide +kernel
theorem dX0_isReadyToSeal_40 : decode cX0_isReadyToSeal 40 = .ok (.iconst 1, 1) := by decide +kernel
theorem dX0_isReadyToSeal_41 : decode cX0_isReadyToSeal 41 = .ok (.goto 4, 3) := by decide +kernel
theorem dX0_isReadyToSeal_44 : decode cX0_isReadyToSeal 44 = .ok (.iconst 0, 1) := by decide +kernel
theorem dX0_isReadyToSeal_45 : decode cX0_isReadyToSeal 45 = .ok (.ireturn, 1) := by decide +kernel
theorem dX0_roundsToOpen_0 : decode cX0_roundsToOpen 0 = .ok (.iconst 1, 1) := by decide +kernel
theorem dX0_roundsToOpen_1 : decode cX0_roundsToOpen 1 = .ok (.aload_n 0, 1) := by decide +kernel
theorem dX0_roundsToOpen_2 : decode cX0_roundsToOpen 2 = .ok (.getfield 39, 3) := by decide +kernel
theorem dX0_roundsToOpen_5 : decode cX0_roundsToOpen 5 = .ok (.ishl, 1) := by decide +kernel
theorem dX0_roundsToOpen_6 : decode cX0_roundsToOpen 6 = .ok (.iconst 1, 1) := by decide +kernel
theorem dX0_roundsToOpen_7 : decode cX0_roundsToOpen 7 = .ok (.isub, 1) := by decide +kernel
theorem dX0_roundsToOpen_8 : decode cX0_roundsToOpen 8 = .ok (.istore_n 1, 1) := by decide +kernel
theorem dX0_roundsToOpen_9 : decode cX0_roundsToOpen 9 = .ok (.iconst 0, 1) := by decide +kernel
theorem dX0_roundsToOpen_10 : decode cX0_roundsToOpen 10 = .ok (.istore_n 2, 1) := by decide +kernel
theorem dX0_roundsToOpen_11 : decode cX0_roundsToOpen 11 = .ok (.iload_n 2, 1) := by decide +kernel
theorem dX0_roundsToOpen_12 : decode cX0_roundsToOpen 12 = .ok (.bipush 8, 2) := by decide +kernel
theorem dX0_roundsToOpen_14 : decode cX0_roundsToOpen 14 = .ok (.if_icmp .gt 21, 3) := by decide +kernel
theorem dX0_roundsToOpen_17 : decode cX0_roundsToOpen 17 = .ok (.iload_n 1, 1) := by decide +kernel
theorem dX0_roundsToOpen_18 : decode cX0_roundsToOpen 18 = .ok (.ifCond .ne 5, 3) := by decide +kernel
theorem dX0_roundsToOpen_21 : decode cX0_roundsToOpen 21 = .ok (.iload_n 2, 1) := by decide +kernel
theorem dX0_roundsToOpen_22 : decode cX0_roundsToOpen 22 = .ok (.ireturn, 1) := by decide +kernel
theorem dX0_roundsToOpen_23 : decode cX0_roundsToOpen 23 = .ok (.aload_n 0, 1) := by decide +kernel
theorem dX0_roundsToOpen_24 : decode cX0_roundsToOpen 24 = .ok (.iload_n 1, 1) := by decide +kernel
theorem dX0_roundsToOpen_25 : decode cX0_roundsToOpen 25 = .ok (.invokevirtual 49, 3) := by decide +kernel
theorem dX0_roundsToOpen_28 : decode cX0_roundsToOpen 28 = .ok (.istore_n 1, 1) := by decide +kernel
theorem dX0_roundsToOpen_29 : decode cX0_roundsToOpen 29 = .ok (.iinc 2 1, 3) := by decide +kernel
theorem dX0_roundsToOpen_32 : decode cX0_roundsToOpen 32 = .ok (.goto (-21), 3) := by decide +kernel
theorem dX0_roundsToOpen_35 : decode cX0_roundsToOpen 35 = .ok (.iconst (-1), 1) := by decide +kernel
theorem dX0_roundsToOpen_36 : decode cX0_roundsToOpen 36 = .ok (.ireturn, 1) := by decide +kernel
theorem dX0_shutAfterRound_0 : decode cX0_shutAfterRound 0 = .ok (.iload_n 1, 1) := by decide +kernel
theorem dX0_shutAfterRound_1 : decode cX0_shutAfterRound 1 = .ok (.istore_n 2, 1) := by decide +kernel
theorem dX0_shutAfterRound_2 : decode cX0_shutAfterRound 2 = .ok (.iconst 0, 1) := by decide +kernel
theorem dX0_shutAfterRound_3 : decode cX0_shutAfterRound 3 = .ok (.istore_n 3, 1) := by decide +kernel
theorem dX0_shutAfterRound_4 : decode cX0_shutAfterRound 4 = .ok (.iload_n 3, 1) := by decide +kernel
theorem dX0_shutAfterRound_5 : decode cX0_shutAfterRound 5 = .ok (.aload_n 0, 1) := by decide +kernel
theorem dX0_shutAfterRound_6 : decode cX0_shutAfterRound 6 = .ok (.getfield 9, 3) := by decide +kernel
theorem dX0_shutAfterRound_9 : decode cX0_shutAfterRound 9 = .ok (.arraylength, 1) := by decide +kernel
theorem dX0_shutAfterRound_10 : decode cX0_shutAfterRound 10 = .ok (.if_icmp .ge 28, 3) := by decide +kernel
theorem dX0_shutAfterRound_13 : decode cX0_shutAfterRound 13 = .ok (.aload_n 0, 1) := by decide +kernel
theorem dX0_shutAfterRound_14 : decode cX0_shutAfterRound 14 = .ok (.getfield 9, 3) := by decide +kernel
theorem dX0_shutAfterRound_17 : decode cX0_shutAfterRound 17 = .ok (.iload_n 3, 1) := by decide +kernel
theorem dX0_shutAfterRound_18 : decode cX0_shutAfterRound 18 = .ok (.iaload, 1) := by decide +kernel
theorem dX0_shutAfterRound_19 : decode cX0_shutAfterRound 19 = .ok (.iload_n 1, 1) := by decide +kernel
theorem dX0_shutAfterRound_20 : decode cX0_shutAfterRound 20 = .ok (.iand, 1) := by decide +kernel
theorem dX0_shutAfterRound_21 : decode cX0_shutAfterRound 21 = .ok (.ifCond .ne 11, 3) := by decide +kernel
theorem dX0_shutAfterRound_24 : decode cX0_shutAfterRound 24 = .ok (.iload_n 2, 1) := by decide +kernel
theorem dX0_shutAfterRound_25 : decode cX0_shutAfterRound 25 = .ok (.iconst 1, 1) := by decide +kernel
theorem dX0_shutAfterRound_26 : decode cX0_shutAfterRound 26 = .ok (.iload_n 3, 1) := by decide +kernel
theorem dX0_shutAfterRound_27 : decode cX0_shutAfterRound 27 = .ok (.ishl, 1) := by decide +kernel
theorem dX0_shutAfterRound_28 : decode cX0_shutAfterRound 28 = .ok (.iconst (-1), 1) := by decide +kernel
theorem dX0_shutAfterRound_29 : decode cX0_shutAfterRound 29 = .ok (.ixor, 1) := by decide +kernel
theorem dX0_shutAfterRound_30 : decode cX0_shutAfterRound 30 = .ok (.iand, 1) := by decide +kernel
theorem dX0_shutAfterRound_31 : decode cX0_shutAfterRound 31 = .ok (.istore_n 2, 1) := by decide +kernel
theorem dX0_shutAfterRound_32 : decode cX0_shutAfterRound 32 = .ok (.iinc 3 1, 3) := by decide +kernel
theorem dX0_shutAfterRound_35 : decode cX0_shutAfterRound 35 = .ok (.goto (-31), 3) := by decide +kernel
theorem dX0_shutAfterRound_38 : decode cX0_shutAfterRound 38 = .ok (.iload_n 2, 1) := by decide +kernel
theorem dX0_shutAfterRound_39 : decode cX0_shutAfterRound 39 = .ok (.ireturn, 1) := by decide +kernel
theorem dX0_numberOf_0 : decode cX0_numberOf 0 = .ok (.iload_n 1, 1) := by decide +kernel
theorem dX0_numberOf_1 : decode cX0_numberOf 1 = .ok (.tableswitch 60 0 4 #[35, 40, 45, 50, 55], 35) := by decide +kernel
theorem dX0_numberOf_36 : decode cX0_numberOf 36 = .ok (.aload_n 0, 1) := by decide +kernel
theorem dX0_numberOf_37 : decode cX0_numberOf 37 = .ok (.getfield 26, 3) := by decide +kernel
theorem dX0_numberOf_40 : decode cX0_numberOf 40 = .ok (.ireturn, 1) := by decide +kernel
theorem dX0_numberOf_41 : decode cX0_numberOf 41 = .ok (.aload_n 0, 1) := by decide +kernel
theorem dX0_numberOf_42 : decode cX0_numberOf 42 = .ok (.getfield 15, 3) := by decide +kernel
theorem dX0_numberOf_45 : decode cX0_numberOf 45 = .ok (.ireturn, 1) := by decide +kernel
theorem dX0_numberOf_46 : decode cX0_numberOf 46 = .ok (.aload_n 0, 1) := by decide +kernel
theorem dX0_numberOf_47 : decode cX0_numberOf 47 = .ok (.getfield 19, 3) := by decide +kernel
theorem dX0_numberOf_50 : decode cX0_numberOf 50 = .ok (.ireturn, 1) := by decide +kernel
theorem dX0_numberOf_51 : decode cX0_numberOf 51 = .ok (.aload_n 0, 1) := by decide +kernel
theorem dX0_numberOf_52 : decode cX0_numberOf 52 = .ok (.getfield 53, 3) := by decide +kernel
theorem dX0_numberOf_55 : decode cX0_numberOf 55 = .ok (.ireturn, 1) := by decide +kernel
theorem dX0_numberOf_56 : decode cX0_numberOf 56 = .ok (.aload_n 0, 1) := by decide +kernel
theorem dX0_numberOf_57 : decode cX0_numberOf 57 = .ok (.getfield 56, 3) := by decide +kernel
theorem dX0_numberOf_60 : decode cX0_numberOf 60 = .ok (.ireturn, 1) := by decide +kernel
theorem dX0_numberOf_61 : decode cX0_numberOf 61 = .ok (.aload_n 0, 1) := by decide +kernel
theorem dX0_numberOf_62 : decode cX0_numberOf 62 = .ok (.getfield 59, 3) := by decide +kernel
theorem dX0_numberOf_65 : decode cX0_numberOf 65 = .ok (.ireturn, 1) := by decide +kernel
theorem dX1_init_0 : decode cX1_init 0 = .ok (.aload_n 0, 1) := by decide +kernel
theorem dX1_init_1 : decode cX1_init 1 = .ok (.invokespecial 3, 3) := by decide +kernel
theorem dX1_init_4 : decode cX1_init 4 = .ok (.aload_n 0, 1) := by decide +kernel
theorem dX1_init_5 : decode cX1_init 5 = .ok (.sipush 512, 3) := by decide +kernel
theorem dX1_init_8 : decode cX1_init 8 = .ok (.newarray .byte, 2) := by decide +kernel
theorem dX1_init_10 : decode cX1_init 10 = .ok (.putfield 9, 3) := by decide +kernel
theorem dX1_init_13 : decode cX1_init 13 = .ok (.return_, 1) := by decide +kernel
theorem dX1_note_0 : decode cX1_note 0 = .ok (.aload_n 0, 1) := by decide +kernel
theorem dX1_note_1 : decode cX1_note 1 = .ok (.getfield 15, 3) := by decide +kernel
theorem dX1_note_4 : decode cX1_note 4 = .ok (.aload_n 0, 1) := by decide +kernel
theorem dX1_note_5 : decode cX1_note 5 = .ok (.getfield 9, 3) := by decide +kernel
theorem dX1_note_8 : decode cX1_note 8 = .ok (.arraylength, 1) := by decide +kernel
theorem dX1_note_9 : decode cX1_note 9 = .ok (.if_icmp .ge 29, 3) := by decide +kernel
theorem dX1_note_12 : decode cX1_note 12 = .ok (.aload_n 0, 1) := by decide +kernel
theorem dX1_note_13 : decode cX1_note 13 = .ok (.getfield 9, 3) := by decide +kernel
theorem dX1_note_16 : decode cX1_note 16 = .ok (.aload_n 0, 1) := by decide +kernel
theorem dX1_note_17 : decode cX1_note 17 = .ok (.getfield 15, 3) := by decide +kernel
theorem dX1_note_20 : decode cX1_note 20 = .ok (.iload_n 1, 1) := by decide +kernel
theorem dX1_note_21 : decode cX1_note 21 = .ok (.bipush 8, 2) := by decide +kernel
theorem dX1_note_23 : decode cX1_note 23 = .ok (.imul, 1) := by decide +kernel
theorem dX1_note_24 : decode cX1_note 24 = .ok (.iload_n 2, 1) := by decide +kernel
theorem dX1_note_25 : decode cX1_note 25 = .ok (.iadd, 1) := by decide +kernel
theorem dX1_note_26 : decode cX1_note 26 = .ok (.i2b, 1) := by decide +kernel
theorem dX1_note_27 : decode cX1_note 27 = .ok (.bastore, 1) := by decide +kernel
theorem dX1_note_28 : decode cX1_note 28 = .ok (.aload_n 0, 1) := by decide +kernel
theorem dX1_note_29 : decode cX1_note 29 = .ok (.dup, 1) := by decide +kernel
theorem dX1_note_30 : decode cX1_note 30 = .ok (.getfield 15, 3) := by decide +kernel
theorem dX1_note_33 : decode cX1_note 33 = .ok (.iconst 1, 1) := by decide +kernel
theorem dX1_note_34 : decode cX1_note 34 = .ok (.iadd, 1) := by decide +kernel
theorem dX1_note_35 : decode cX1_note 35 = .ok (.putfield 15, 3) := by decide +kernel
theorem dX1_note_38 : decode cX1_note 38 = .ok (.return_, 1) := by decide +kernel
theorem dX1_timesNoted_0 : decode cX1_timesNoted 0 = .ok (.iconst 0, 1) := by decide +kernel
theorem dX1_timesNoted_1 : decode cX1_timesNoted 1 = .ok (.istore_n 3, 1) := by decide +kernel
theorem dX1_timesNoted_2 : decode cX1_timesNoted 2 = .ok (.iconst 0, 1) := by decide +kernel
theorem dX1_timesNoted_3 : decode cX1_timesNoted 3 = .ok (.istore 4, 2) := by decide +kernel
theorem dX1_timesNoted_5 : decode cX1_timesNoted 5 = .ok (.iload 4, 2) := by decide +kernel
theorem dX1_timesNoted_7 : decode cX1_timesNoted 7 = .ok (.aload_n 0, 1) := by decide +kernel
theorem dX1_timesNoted_8 : decode cX1_timesNoted 8 = .ok (.getfield 15, 3) := by decide +kernel
theorem dX1_timesNoted_11 : decode cX1_timesNoted 11 = .ok (.if_icmp .ge 28, 3) := by decide +kernel
theorem dX1_timesNoted_14 : decode cX1_timesNoted 14 = .ok (.aload_n 0, 1) := by decide +kernel
theorem dX1_timesNoted_15 : decode cX1_timesNoted 15 = .ok (.getfield 9, 3) := by decide +kernel
theorem dX1_timesNoted_18 : decode cX1_timesNoted 18 = .ok (.iload 4, 2) := by decide +kernel
theorem dX1_timesNoted_20 : decode cX1_timesNoted 20 = .ok (.baload, 1) := by decide +kernel
theorem dX1_timesNoted_21 : decode cX1_timesNoted 21 = .ok (.iload_n 1, 1) := by decide +kernel
theorem dX1_timesNoted_22 : decode cX1_timesNoted 22 = .ok (.bipush 8, 2) := by decide +kernel
theorem dX1_timesNoted_24 : decode cX1_timesNoted 24 = .ok (.imul, 1) := by decide +kernel
theorem dX1_timesNoted_25 : decode cX1_timesNoted 25 = .ok (.iload_n 2, 1) := by decide +kernel
theorem dX1_timesNoted_26 : decode cX1_timesNoted 26 = .ok (.iadd, 1) := by decide +kernel
theorem dX1_timesNoted_27 : decode cX1_timesNoted 27 = .ok (.if_icmp .ne 6, 3) := by decide +kernel
theorem dX1_timesNoted_30 : decode cX1_timesNoted 30 = .ok (.iinc 3 1, 3) := by decide +kernel
theorem dX1_timesNoted_33 : decode cX1_timesNoted 33 = .ok (.iinc 4 1, 3) := by decide +kernel
theorem dX1_timesNoted_36 : decode cX1_timesNoted 36 = .ok (.goto (-31), 3) := by decide +kernel
theorem dX1_timesNoted_39 : decode cX1_timesNoted 39 = .ok (.iload_n 3, 1) := by decide +kernel
theorem dX1_timesNoted_40 : decode cX1_timesNoted 40 = .ok (.ireturn, 1) := by decide +kernel
theorem dX2_init_0 : decode cX2_init 0 = .ok (.aload_n 0, 1) := by decide +kernel
theorem dX2_init_1 : decode cX2_init 1 = .ok (.invokespecial 3, 3) := by decide +kernel
theorem dX2_init_4 : decode cX2_init 4 = .ok (.aload_n 0, 1) := by decide +kernel
theorem dX2_init_5 : decode cX2_init 5 = .ok (.iload_n 1, 1) := by decide +kernel
theorem dX2_init_6 : decode cX2_init 6 = .ok (.putfield 9, 3) := by decide +kernel
theorem dX2_init_9 : decode cX2_init 9 = .ok (.aload_n 0, 1) := by decide +kernel
theorem dX2_init_10 : decode cX2_init 10 = .ok (.iload_n 2, 1) := by decide +kernel
theorem dX2_init_11 : decode cX2_init 11 = .ok (.putfield 15, 3) := by decide +kernel
theorem dX2_init_14 : decode cX2_init 14 = .ok (.aload_n 0, 1) := by decide +kernel
theorem dX2_init_15 : decode cX2_init 15 = .ok (.iload_n 3, 1) := by decide +kernel
theorem dX2_init_16 : decode cX2_init 16 = .ok (.putfield 18, 3) := by decide +kernel
theorem dX2_init_19 : decode cX2_init 19 = .ok (.return_, 1) := by decide +kernel
theorem dX2_strengthAlong_0 : decode cX2_strengthAlong 0 = .ok (.iload_n 1, 1) := by decide +kernel
theorem dX2_strengthAlong_1 : decode cX2_strengthAlong 1 = .ok (.ifCond .ne 11, 3) := by decide +kernel
theorem dX2_strengthAlong_4 : decode cX2_strengthAlong 4 = .ok (.aload_n 0, 1) := by decide +kernel
theorem dX2_strengthAlong_5 : decode cX2_strengthAlong 5 = .ok (.getfield 9, 3) := by decide +kernel
theorem dX2_strengthAlong_8 : decode cX2_strengthAlong 8 = .ok (.i2l, 1) := by decide +kernel
theorem dX2_strengthAlong_9 : decode cX2_strengthAlong 9 = .ok (.goto 21, 3) := by decide +kernel
theorem dX2_strengthAlong_12 : decode cX2_strengthAlong 12 = .ok (.iload_n 1, 1) := by decide +kernel
theorem dX2_strengthAlong_13 : decode cX2_strengthAlong 13 = .ok (.iconst 1, 1) := by decide +kernel
theorem dX2_strengthAlong_14 : decode cX2_strengthAlong 14 = .ok (.if_icmp .ne 11, 3) := by decide +kernel
theorem dX2_strengthAlong_17 : decode cX2_strengthAlong 17 = .ok (.aload_n 0, 1) := by decide +kernel
theorem dX2_strengthAlong_18 : decode cX2_strengthAlong 18 = .ok (.getfield 15, 3) := by decide +kernel
theorem dX2_strengthAlong_21 : decode cX2_strengthAlong 21 = .ok (.i2l, 1) := by decide +kernel
theorem dX2_strengthAlong_22 : decode cX2_strengthAlong 22 = .ok (.goto 8, 3) := by decide +kernel
theorem dX2_strengthAlong_25 : decode cX2_strengthAlong 25 = .ok (.aload_n 0, 1) := by decide +kernel
theorem dX2_strengthAlong_26 : decode cX2_strengthAlong 26 = .ok (.getfield 18, 3) := by decide +kernel
theorem dX2_strengthAlong_29 : decode cX2_strengthAlong 29 = .ok (.i2l, 1) := by decide +kernel
theorem dX2_strengthAlong_30 : decode cX2_strengthAlong 30 = .ok (.lstore_n 2, 1) := by decide +kernel
theorem dX2_strengthAlong_31 : decode cX2_strengthAlong 31 = .ok (.lload_n 2, 1) := by decide +kernel
theorem dX2_strengthAlong_32 : decode cX2_strengthAlong 32 = .ok (.sipush 1000, 3) := by decide +kernel
theorem dX2_strengthAlong_35 : decode cX2_strengthAlong 35 = .ok (.aload_n 0, 1) := by decide +kernel
theorem dX2_strengthAlong_36 : decode cX2_strengthAlong 36 = .ok (.getfield 21, 3) := by decide +kernel
theorem dX2_strengthAlong_39 : decode cX2_strengthAlong 39 = .ok (.isub, 1) := by decide +kernel
theorem dX2_strengthAlong_40 : decode cX2_strengthAlong 40 = .ok (.bipush 100, 2) := by decide +kernel
theorem dX2_strengthAlong_42 : decode cX2_strengthAlong 42 = .ok (.invokestatic 24, 3) := by decide +kernel
theorem dX2_strengthAlong_45 : decode cX2_strengthAlong 45 = .ok (.i2l, 1) := by decide +kernel
theorem dX2_strengthAlong_46 : decode cX2_strengthAlong 46 = .ok (.lmul, 1) := by decide +kernel
theorem dX2_strengthAlong_47 : decode cX2_strengthAlong 47 = .ok (.ldc2_w 30, 3) := by decide +kernel
theorem dX2_strengthAlong_50 : decode cX2_strengthAlong 50 = .ok (.ldiv, 1) := by decide +kernel
theorem dX2_strengthAlong_51 : decode cX2_strengthAlong 51 = .ok (.lreturn, 1) := by decide +kernel
theorem dX2_layPanel_0 : decode cX2_layPanel 0 = .ok (.iload_n 3, 1) := by decide +kernel
theorem dX2_layPanel_1 : decode cX2_layPanel 1 = .ok (.ifCond .ne 7, 3) := by decide +kernel
theorem dX2_layPanel_4 : decode cX2_layPanel 4 = .ok (.iload_n 1, 1) := by decide +kernel
theorem dX2_layPanel_5 : decode cX2_layPanel 5 = .ok (.goto 15, 3) := by decide +kernel
theorem dX2_layPanel_8 : decode cX2_layPanel 8 = .ok (.iload_n 3, 1) := by decide +kernel
theorem dX2_layPanel_9 : decode cX2_layPanel 9 = .ok (.iconst 1, 1) := by decide +kernel
theorem dX2_layPanel_10 : decode cX2_layPanel 10 = .ok (.if_icmp .ne 7, 3) := by decide +kernel
theorem dX2_layPanel_13 : decode cX2_layPanel 13 = .ok (.iload_n 2, 1) := by decide +kernel
theorem dX2_layPanel_14 : decode cX2_layPanel 14 = .ok (.goto 6, 3) := by decide +kernel
theorem dX2_layPanel_17 : decode cX2_layPanel 17 = .ok (.iload_n 1, 1) := by decide +kernel
theorem dX2_layPanel_18 : decode cX2_layPanel 18 = .ok (.iload_n 2, 1) := by decide +kernel
theorem dX2_layPanel_19 : decode cX2_layPanel 19 = .ok (.iadd, 1) := by decide +kernel
theorem dX2_layPanel_20 : decode cX2_layPanel 20 = .ok (.istore 4, 2) := by decide +kernel
theorem dX2_layPanel_22 : decode cX2_layPanel 22 = .ok (.iload_n 3, 1) := by decide +kernel
theorem dX2_layPanel_23 : decode cX2_layPanel 23 = .ok (.ifCond .ne 7, 3) := by decide +kernel
theorem dX2_layPanel_26 : decode cX2_layPanel 26 = .ok (.iload_n 2, 1) := by decide +kernel
theorem dX2_layPanel_27 : decode cX2_layPanel 27 = .ok (.goto 15, 3) := by decide +kernel
theorem dX2_layPanel_30 : decode cX2_layPanel 30 = .ok (.iload_n 3, 1) := by decide +kernel
theorem dX2_layPanel_31 : decode cX2_layPanel 31 = .ok (.iconst 1, 1) := by decide +kernel
theorem dX2_layPanel_32 : decode cX2_layPanel 32 = .ok (.if_icmp .ne 7, 3) := by decide +kernel
theorem dX2_layPanel_35 : decode cX2_layPanel 35 = .ok (.iload_n 1, 1) := by decide +kernel
theorem dX2_layPanel_36 : decode cX2_layPanel 36 = .ok (.goto 6, 3) := by decide +kernel
theorem dX2_layPanel_39 : decode cX2_layPanel 39 = .ok (.iload_n 1, 1) := by decide +kernel
theorem dX2_layPanel_40 : decode cX2_layPanel 40 = .ok (.iload_n 2, 1) := by decide +kernel
theorem dX2_layPanel_41 : decode cX2_layPanel 41 = .ok (.iadd, 1) := by decide +kernel
theorem dX2_layPanel_42 : decode cX2_layPanel 42 = .ok (.istore 5, 2) := by decide +kernel
theorem dX2_layPanel_44 : decode cX2_layPanel 44 = .ok (.aload_n 0, 1) := by decide +kernel
theorem dX2_layPanel_45 : decode cX2_layPanel 45 = .ok (.getfield 32, 3) := by decide +kernel
theorem dX2_layPanel_48 : decode cX2_layPanel 48 = .ok (.iload 4, 2) := by decide +kernel
theorem dX2_layPanel_50 : decode cX2_layPanel 50 = .ok (.iadd, 1) := by decide +kernel
theorem dX2_layPanel_51 : decode cX2_layPanel 51 = .ok (.sipush 150, 3) := by decide +kernel
theorem dX2_layPanel_54 : decode cX2_layPanel 54 = .ok (.if_icmp .le 26, 3) := by decide +kernel
theorem dX2_layPanel_57 : decode cX2_layPanel 57 = .ok (.aload_n 0, 1) := by decide +kernel
theorem dX2_layPanel_58 : decode cX2_layPanel 58 = .ok (.dup, 1) := by decide +kernel
theorem dX2_layPanel_59 : decode cX2_layPanel 59 = .ok (.getfield 35, 3) := by decide +kernel
theorem dX2_layPanel_62 : decode cX2_layPanel 62 = .ok (.aload_n 0, 1) := by decide +kernel
theorem dX2_layPanel_63 : decode cX2_layPanel 63 = .ok (.getfield 38, 3) := by decide +kernel
theorem dX2_layPanel_66 : decode cX2_layPanel 66 = .ok (.iadd, 1) := by decide +kernel
theorem dX2_layPanel_67 : decode cX2_layPanel 67 = .ok (.putfield 35, 3) := by decide +kernel
theorem dX2_layPanel_70 : decode cX2_layPanel 70 = .ok (.aload_n 0, 1) := by decide +kernel
theorem dX2_layPanel_71 : decode cX2_layPanel 71 = .ok (.iconst 0, 1) := by decide +kernel
theorem dX2_layPanel_72 : decode cX2_layPanel 72 = .ok (.putfield 32, 3) := by decide +kernel
theorem dX2_layPanel_75 : decode cX2_layPanel 75 = .ok (.aload_n 0, 1) := by decide +kernel
theorem dX2_layPanel_76 : decode cX2_layPanel 76 = .ok (.iconst 0, 1) := by decide +kernel
theorem dX2_layPanel_77 : decode cX2_layPanel 77 = .ok (.putfield 38, 3) := by decide +kernel
theorem dX2_layPanel_80 : decode cX2_layPanel 80 = .ok (.aload_n 0, 1) := by decide +kernel
theorem dX2_layPanel_81 : decode cX2_layPanel 81 = .ok (.dup, 1) := by decide +kernel
theorem dX2_layPanel_82 : decode cX2_layPanel 82 = .ok (.getfield 32, 3) := by decide +kernel
theorem dX2_layPanel_85 : decode cX2_layPanel 85 = .ok (.iload 4, 2) := by decide +kernel
theorem dX2_layPanel_87 : decode cX2_layPanel 87 = .ok (.iadd, 1) := by decide +kernel
theorem dX2_layPanel_88 : decode cX2_layPanel 88 = .ok (.putfield 32, 3) := by decide +kernel
theorem dX2_layPanel_91 : decode cX2_layPanel 91 = .ok (.aload_n 0, 1) := by decide +kernel
theorem dX2_layPanel_92 : decode cX2_layPanel 92 = .ok (.aload_n 0, 1) := by decide +kernel
theorem dX2_layPanel_93 : decode cX2_layPanel 93 = .ok (.getfield 38, 3) := by decide +kernel
theorem dX2_layPanel_96 : decode cX2_layPanel 96 = .ok (.iload 5, 2) := by decide +kernel
theorem dX2_layPanel_98 : decode cX2_layPanel 98 = .ok (.invokestatic 24, 3) := by decide +kernel
theorem dX2_layPanel_101 : decode cX2_layPanel 101 = .ok (.putfield 38, 3) := by decide +kernel
theorem dX2_layPanel_104 : decode cX2_layPanel 104 = .ok (.return_, 1) := by decide +kernel
theorem dX2_rolledLength_0 : decode cX2_rolledLength 0 = .ok (.aload_n 0, 1) := by decide +kernel
theorem dX2_rolledLength_1 : decode cX2_rolledLength 1 = .ok (.getfield 35, 3) := by decide +kernel
theorem dX2_rolledLength_4 : decode cX2_rolledLength 4 = .ok (.aload_n 0, 1) := by decide +kernel
theorem dX2_rolledLength_5 : decode cX2_rolledLength 5 = .ok (.getfield 38, 3) := by decide +kernel
theorem dX2_rolledLength_8 : decode cX2_rolledLength 8 = .ok (.iadd, 1) := by decide +kernel
theorem dX2_rolledLength_9 : decode cX2_rolledLength 9 = .ok (.ireturn, 1) := by decide +kernel
theorem dX3_init_0 : decode cX3_init 0 = .ok (.aload_n 0, 1) := by decide +kernel
theorem dX3_init_1 : decode cX3_init 1 = .ok (.invokespecial 3, 3) := by decide +kernel
theorem dX3_init_4 : decode cX3_init 4 = .ok (.aload_n 0, 1) := by decide +kernel
theorem dX3_init_5 : decode cX3_init 5 = .ok (.bipush 36, 2) := by decide +kernel
theorem dX3_init_7 : decode cX3_init 7 = .ok (.newarray .int, 2) := by decide +kernel
theorem dX3_init_9 : decode cX3_init 9 = .ok (.putfield 9, 3) := by decide +kernel
theorem dX3_init_12 : decode cX3_init 12 = .ok (.aload_n 0, 1) := by decide +kernel
theorem dX3_init_13 : decode cX3_init 13 = .ok (.bipush 36, 2) := by decide +kernel
theorem dX3_init_15 : decode cX3_init 15 = .ok (.newarray .int, 2) := by decide +kernel
theorem dX3_init_17 : decode cX3_init 17 = .ok (.putfield 13, 3) := by decide +kernel
theorem dX3_init_20 : decode cX3_init 20 = .ok (.aload_n 0, 1) := by decide +kernel
theorem dX3_init_21 : decode cX3_init 21 = .ok (.bipush 36, 2) := by decide +kernel
theorem dX3_init_23 : decode cX3_init 23 = .ok (.newarray .boolean, 2) := by decide +kernel
theorem dX3_init_25 : decode cX3_init 25 = .ok (.putfield 16, 3) := by decide +kernel
theorem dX3_init_28 : decode cX3_init 28 = .ok (.iconst 0, 1) := by decide +kernel
theorem dX3_init_29 : decode cX3_init 29 = .ok (.istore_n 1, 1) := by decide +kernel
theorem dX3_init_30 : decode cX3_init 30 = .ok (.iload_n 1, 1) := by decide +kernel
theorem dX3_init_31 : decode cX3_init 31 = .ok (.bipush 36, 2) := by decide +kernel
theorem dX3_init_33 : decode cX3_init 33 = .ok (.if_icmp .ge 48, 3) := by decide +kernel
theorem dX3_init_36 : decode cX3_init 36 = .ok (.iload_n 1, 1) := by decide +kernel
theorem dX3_init_37 : decode cX3_init 37 = .ok (.bipush 6, 2) := by decide +kernel
theorem dX3_init_39 : decode cX3_init 39 = .ok (.idiv, 1) := by decide +kernel
theorem dX3_init_40 : decode cX3_init 40 = .ok (.istore_n 2, 1) := by decide +kernel
theorem dX3_init_41 : decode cX3_init 41 = .ok (.iload_n 1, 1) := by decide +kernel
theorem dX3_init_42 : decode cX3_init 42 = .ok (.bipush 6, 2) := by decide +kernel
theorem dX3_init_44 : decode cX3_init 44 = .ok (.irem, 1) := by decide +kernel
theorem dX3_init_45 : decode cX3_init 45 = .ok (.istore_n 3, 1) := by decide +kernel
theorem dX3_init_46 : decode cX3_init 46 = .ok (.aload_n 0, 1) := by decide +kernel
theorem dX3_init_47 : decode cX3_init 47 = .ok (.getfield 16, 3) := by decide +kernel
theorem dX3_init_50 : decode cX3_init 50 = .ok (.iload_n 1, 1) := by decide +kernel
theorem dX3_init_51 : decode cX3_init 51 = .ok (.iload_n 2, 1) := by decide +kernel
theorem dX3_init_52 : decode cX3_init 52 = .ok (.ifCond .eq 17, 3) := by decide +kernel
theorem dX3_init_55 : decode cX3_init 55 = .ok (.iload_n 2, 1) := by decide +kernel
theorem dX3_init_56 : decode cX3_init 56 = .ok (.iconst 5, 1) := by decide +kernel
theorem dX3_init_57 : decode cX3_init 57 = .ok (.if_icmp .eq 12, 3) := by decide +kernel
theorem dX3_init_60 : decode cX3_init 60 = .ok (.iload_n 3, 1) := by decide +kernel
theorem dX3_init_61 : decode cX3_init 61 = .ok (.ifCond .eq 8, 3) := by decide +kernel
theorem dX3_init_64 : decode cX3_init 64 = .ok (.iload_n 3, 1) := by decide +kernel
theorem dX3_init_65 : decode cX3_init 65 = .ok (.iconst 5, 1) := by decide +kernel
theorem dX3_init_66 : decode cX3_init 66 = .ok (.if_icmp .ne 7, 3) := by decide +kernel
theorem dX3_init_69 : decode cX3_init 69 = .ok (.iconst 1, 1) := by decide +kernel
theorem dX3_init_70 : decode cX3_init 70 = .ok (.goto 4, 3) := by decide +kernel
theorem dX3_init_73 : decode cX3_init 73 = .ok (.iconst 0, 1) := by decide +kernel
theorem dX3_init_74 : decode cX3_init 74 = .ok (.bastore, 1) := by decide +kernel
theorem dX3_init_75 : decode cX3_init 75 = .ok (.iinc 1 1, 3) := by decide +kernel
theorem dX3_init_78 : decode cX3_init 78 = .ok (.goto (-48), 3) := by decide +kernel
theorem dX3_init_81 : decode cX3_init 81 = .ok (.return_, 1) := by decide +kernel
theorem dX3_stepMoves_0 : decode cX3_stepMoves 0 = .ok (.aload_n 0, 1) := by decide +kernel
theorem dX3_stepMoves_1 : decode cX3_stepMoves 1 = .ok (.getfield 9, 3) := by decide +kernel
theorem dX3_stepMoves_4 : decode cX3_stepMoves 4 = .ok (.iconst 0, 1) := by decide +kernel
theorem dX3_stepMoves_5 : decode cX3_stepMoves 5 = .ok (.aload_n 0, 1) := by decide +kernel
theorem dX3_stepMoves_6 : decode cX3_stepMoves 6 = .ok (.getfield 13, 3) := by decide +kernel
theorem dX3_stepMoves_9 : decode cX3_stepMoves 9 = .ok (.iconst 0, 1) := by decide +kernel
theorem dX3_stepMoves_10 : decode cX3_stepMoves 10 = .ok (.bipush 36, 2) := by decide +kernel
theorem dX3_stepMoves_12 : decode cX3_stepMoves 12 = .ok (.invokestatic 20, 3) := by decide +kernel
theorem dX3_stepMoves_15 : decode cX3_stepMoves 15 = .ok (.iconst 0, 1) := by decide +kernel
theorem dX3_stepMoves_16 : decode cX3_stepMoves 16 = .ok (.istore_n 1, 1) := by decide +kernel
theorem dX3_stepMoves_17 : decode cX3_stepMoves 17 = .ok (.iconst 0, 1) := by decide +kernel
theorem dX3_stepMoves_18 : decode cX3_stepMoves 18 = .ok (.istore_n 2, 1) := by decide +kernel
theorem dX3_stepMoves_19 : decode cX3_stepMoves 19 = .ok (.iload_n 2, 1) := by decide +kernel
theorem dX3_stepMoves_20 : decode cX3_stepMoves 20 = .ok (.bipush 36, 2) := by decide +kernel
theorem dX3_stepMoves_22 : decode cX3_stepMoves 22 = .ok (.if_icmp .ge 54, 3) := by decide +kernel
theorem dX3_stepMoves_25 : decode cX3_stepMoves 25 = .ok (.aload_n 0, 1) := by decide +kernel
theorem dX3_stepMoves_26 : decode cX3_stepMoves 26 = .ok (.getfield 16, 3) := by decide +kernel
theorem dX3_stepMoves_29 : decode cX3_stepMoves 29 = .ok (.iload_n 2, 1) := by decide +kernel
theorem dX3_stepMoves_30 : decode cX3_stepMoves 30 = .ok (.baload, 1) := by decide +kernel
theorem dX3_stepMoves_31 : decode cX3_stepMoves 31 = .ok (.ifCond .ne 39, 3) := by decide +kernel
theorem dX3_stepMoves_34 : decode cX3_stepMoves 34 = .ok (.aload_n 0, 1) := by decide +kernel
theorem dX3_stepMoves_35 : decode cX3_stepMoves 35 = .ok (.getfield 9, 3) := by decide +kernel
theorem dX3_stepMoves_38 : decode cX3_stepMoves 38 = .ok (.iload_n 2, 1) := by decide +kernel
theorem dX3_stepMoves_39 : decode cX3_stepMoves 39 = .ok (.aload_n 0, 1) := by decide +kernel
theorem dX3_stepMoves_40 : decode cX3_stepMoves 40 = .ok (.iload_n 2, 1) := by decide +kernel
theorem dX3_stepMoves_41 : decode cX3_stepMoves 41 = .ok (.invokevirtual 26, 3) := by decide +kernel
theorem dX3_stepMoves_44 : decode cX3_stepMoves 44 = .ok (.iastore, 1) := by decide +kernel
theorem dX3_stepMoves_45 : decode cX3_stepMoves 45 = .ok (.iload_n 1, 1) := by decide +kernel
theorem dX3_stepMoves_46 : decode cX3_stepMoves 46 = .ok (.ifCond .ne 18, 3) := by decide +kernel
theorem dX3_stepMoves_49 : decode cX3_stepMoves 49 = .ok (.aload_n 0, 1) := by decide +kernel
theorem dX3_stepMoves_50 : decode cX3_stepMoves 50 = .ok (.getfield 9, 3) := by decide +kernel
theorem dX3_stepMoves_53 : decode cX3_stepMoves 53 = .ok (.iload_n 2, 1) := by decide +kernel
theorem dX3_stepMoves_54 : decode cX3_stepMoves 54 = .ok (.iaload, 1) := by decide +kernel
theorem dX3_stepMoves_55 : decode cX3_stepMoves 55 = .ok (.aload_n 0, 1) := by decide +kernel
theorem dX3_stepMoves_56 : decode cX3_stepMoves 56 = .ok (.getfield 13, 3) := by decide +kernel
theorem dX3_stepMoves_59 : decode cX3_stepMoves 59 = .ok (.iload_n 2, 1) := by decide +kernel
theorem dX3_stepMoves_60 : decode cX3_stepMoves 60 = .ok (.iaload, 1) := by decide +kernel
theorem dX3_stepMoves_61 : decode cX3_stepMoves 61 = .ok (.if_icmp .eq 7, 3) := by decide +kernel
theorem dX3_stepMoves_64 : decode cX3_stepMoves 64 = .ok (.iconst 1, 1) := by decide +kernel
theorem dX3_stepMoves_65 : decode cX3_stepMoves 65 = .ok (.goto 4, 3) := by decide +kernel
theorem dX3_stepMoves_68 : decode cX3_stepMoves 68 = .ok (.iconst 0, 1) := by decide +kernel
theorem dX3_stepMoves_69 : decode cX3_stepMoves 69 = .ok (.istore_n 1, 1) := by decide +kernel
theorem dX3_stepMoves_70 : decode cX3_stepMoves 70 = .ok (.iinc 2 1, 3) := by decide +kernel
theorem dX3_stepMoves_73 : decode cX3_stepMoves 73 = .ok (.goto (-54), 3) := by decide +kernel
theorem dX3_stepMoves_76 : decode cX3_stepMoves 76 = .ok (.iload_n 1, 1) := by decide +kernel
theorem dX3_stepMoves_77 : decode cX3_stepMoves 77 = .ok (.ireturn, 1) := by decide +kernel
theorem dX3_pulledHeight_0 : decode cX3_pulledHeight 0 = .ok (.iload_n 1, 1) := by decide +kernel
theorem dX3_pulledHeight_1 : decode cX3_pulledHeight 1 = .ok (.bipush 6, 2) := by decide +kernel
theorem dX3_pulledHeight_3 : decode cX3_pulledHeight 3 = .ok (.idiv, 1) := by decide +kernel
theorem dX3_pulledHeight_4 : decode cX3_pulledHeight 4 = .ok (.istore_n 2, 1) := by decide +kernel
theorem dX3_pulledHeight_5 : decode cX3_pulledHeight 5 = .ok (.iload_n 1, 1) := by decide +kernel
theorem dX3_pulledHeight_6 : decode cX3_pulledHeight 6 = .ok (.bipush 6, 2) := by decide +kernel
theorem dX3_pulledHeight_8 : decode cX3_pulledHeight 8 = .ok (.irem, 1) := by decide +kernel
theorem dX3_pulledHeight_9 : decode cX3_pulledHeight 9 = .ok (.istore_n 3, 1) := by decide +kernel
theorem dX3_pulledHeight_10 : decode cX3_pulledHeight 10 = .ok (.iconst 0, 1) := by decide +kernel
theorem dX3_pulledHeight_11 : decode cX3_pulledHeight 11 = .ok (.istore 4, 2) := by decide +kernel
theorem dX3_pulledHeight_13 : decode cX3_pulledHeight 13 = .ok (.iconst 0, 1) := by decide +kernel
theorem dX3_pulledHeight_14 : decode cX3_pulledHeight 14 = .ok (.istore 5, 2) := by decide +kernel
theorem dX3_pulledHeight_16 : decode cX3_pulledHeight 16 = .ok (.iconst 0, 1) := by decide +kernel
theorem dX3_pulledHeight_17 : decode cX3_pulledHeight 17 = .ok (.istore 6, 2) := by decide +kernel
theorem dX3_pulledHeight_19 : decode cX3_pulledHeight 19 = .ok (.iconst 0, 1) := by decide +kernel
theorem dX3_pulledHeight_20 : decode cX3_pulledHeight 20 = .ok (.istore 7, 2) := by decide +kernel
theorem dX3_pulledHeight_22 : decode cX3_pulledHeight 22 = .ok (.iload 7, 2) := by decide +kernel
theorem dX3_pulledHeight_24 : decode cX3_pulledHeight 24 = .ok (.iconst 4, 1) := by decide +kernel
theorem dX3_pulledHeight_25 : decode cX3_pulledHeight 25 = .ok (.if_icmp .ge 132, 3) := by decide +kernel
theorem dX3_pulledHeight_28 : decode cX3_pulledHeight 28 = .ok (.iload 7, 2) := by decide +kernel
theorem dX3_pulledHeight_30 : decode cX3_pulledHeight 30 = .ok (.ifCond .ne 9, 3) := by decide +kernel
theorem dX3_pulledHeight_33 : decode cX3_pulledHeight 33 = .ok (.iload_n 2, 1) := by decide +kernel
theorem dX3_pulledHeight_34 : decode cX3_pulledHeight 34 = .ok (.iconst 1, 1) := by decide +kernel
theorem dX3_pulledHeight_35 : decode cX3_pulledHeight 35 = .ok (.isub, 1) := by decide +kernel
theorem dX3_pulledHeight_36 : decode cX3_pulledHeight 36 = .ok (.goto 16, 3) := by decide +kernel
theorem dX3_pulledHeight_39 : decode cX3_pulledHeight 39 = .ok (.iload 7, 2) := by decide +kernel
theorem dX3_pulledHeight_41 : decode cX3_pulledHeight 41 = .ok (.iconst 1, 1) := by decide +kernel
theorem dX3_pulledHeight_42 : decode cX3_pulledHeight 42 = .ok (.if_icmp .ne 9, 3) := by decide +kernel
theorem dX3_pulledHeight_45 : decode cX3_pulledHeight 45 = .ok (.iload_n 2, 1) := by decide +kernel
theorem dX3_pulledHeight_46 : decode cX3_pulledHeight 46 = .ok (.iconst 1, 1) := by decide +kernel
theorem dX3_pulledHeight_47 : decode cX3_pulledHeight 47 = .ok (.iadd, 1) := by decide +kernel
theorem dX3_pulledHeight_48 : decode cX3_pulledHeight 48 = .ok (.goto 4, 3) := by decide +kernel
theorem dX3_pulledHeight_51 : decode cX3_pulledHeight 51 = .ok (.iload_n 2, 1) := by decide +kernel
theorem dX3_pulledHeight_52 : decode cX3_pulledHeight 52 = .ok (.istore 8, 2) := by decide +kernel
theorem dX3_pulledHeight_54 : decode cX3_pulledHeight 54 = .ok (.iload 7, 2) := by decide +kernel
theorem dX3_pulledHeight_56 : decode cX3_pulledHeight 56 = .ok (.iconst 2, 1) := by decide +kernel
theorem dX3_pulledHeight_57 : decode cX3_pulledHeight 57 = .ok (.if_icmp .ne 9, 3) := by decide +kernel
theorem dX3_pulledHeight_60 : decode cX3_pulledHeight 60 = .ok (.iload_n 3, 1) := by decide +kernel
theorem dX3_pulledHeight_61 : decode cX3_pulledHeight 61 = .ok (.iconst 1, 1) := by decide +kernel
theorem dX3_pulledHeight_62 : decode cX3_pulledHeight 62 = .ok (.isub, 1) := by decide +kernel
theorem dX3_pulledHeight_63 : decode cX3_pulledHeight 63 = .ok (.goto 16, 3) := by decide +kernel
theorem dX3_pulledHeight_66 : decode cX3_pulledHeight 66 = .ok (.iload 7, 2) := by decide +kernel
theorem dX3_pulledHeight_68 : decode cX3_pulledHeight 68 = .ok (.iconst 3, 1) := by decide +kernel
theorem dX3_pulledHeight_69 : decode cX3_pulledHeight 69 = .ok (.if_icmp .ne 9, 3) := by decide +kernel
theorem dX3_pulledHeight_72 : decode cX3_pulledHeight 72 = .ok (.iload_n 3, 1) := by decide +kernel
theorem dX3_pulledHeight_73 : decode cX3_pulledHeight 73 = .ok (.iconst 1, 1) := by decide +kernel
theorem dX3_pulledHeight_74 : decode cX3_pulledHeight 74 = .ok (.iadd, 1) := by decide +kernel
theorem dX3_pulledHeight_75 : decode cX3_pulledHeight 75 = .ok (.goto 4, 3) := by decide +kernel
theorem dX3_pulledHeight_78 : decode cX3_pulledHeight 78 = .ok (.iload_n 3, 1) := by decide +kernel
theorem dX3_pulledHeight_79 : decode cX3_pulledHeight 79 = .ok (.istore 9, 2) := by decide +kernel
theorem dX3_pulledHeight_81 : decode cX3_pulledHeight 81 = .ok (.iload 8, 2) := by decide +kernel
theorem dX3_pulledHeight_83 : decode cX3_pulledHeight 83 = .ok (.i2l, 1) := by decide +kernel
theorem dX3_pulledHeight_84 : decode cX3_pulledHeight 84 = .ok (.lconst 0, 1) := by decide +kernel
theorem dX3_pulledHeight_85 : decode cX3_pulledHeight 85 = .ok (.ldc2_w 30, 3) := by decide +kernel
theorem dX3_pulledHeight_88 : decode cX3_pulledHeight 88 = .ok (.invokestatic 32, 3) := by decide +kernel
theorem dX3_pulledHeight_91 : decode cX3_pulledHeight 91 = .ok (.ifCond .ne 60, 3) := by decide +kernel
theorem dX3_pulledHeight_94 : decode cX3_pulledHeight 94 = .ok (.iload 9, 2) := by decide +kernel
theorem dX3_pulledHeight_96 : decode cX3_pulledHeight 96 = .ok (.i2l, 1) := by decide +kernel
theorem dX3_pulledHeight_97 : decode cX3_pulledHeight 97 = .ok (.lconst 0, 1) := by decide +kernel
theorem dX3_pulledHeight_98 : decode cX3_pulledHeight 98 = .ok (.ldc2_w 30, 3) := by decide +kernel
theorem dX3_pulledHeight_101 : decode cX3_pulledHeight 101 = .ok (.invokestatic 32, 3) := by decide +kernel
theorem dX3_pulledHeight_104 : decode cX3_pulledHeight 104 = .ok (.ifCond .ne 47, 3) := by decide +kernel
theorem dX3_pulledHeight_107 : decode cX3_pulledHeight 107 = .ok (.aload_n 0, 1) := by decide +kernel
theorem dX3_pulledHeight_108 : decode cX3_pulledHeight 108 = .ok (.getfield 13, 3) := by decide +kernel
theorem dX3_pulledHeight_111 : decode cX3_pulledHeight 111 = .ok (.iload 8, 2) := by decide +kernel
theorem dX3_pulledHeight_113 : decode cX3_pulledHeight 113 = .ok (.bipush 6, 2) := by decide +kernel
theorem dX3_pulledHeight_115 : decode cX3_pulledHeight 115 = .ok (.imul, 1) := by decide +kernel
theorem dX3_pulledHeight_116 : decode cX3_pulledHeight 116 = .ok (.iload 9, 2) := by decide +kernel
theorem dX3_pulledHeight_118 : decode cX3_pulledHeight 118 = .ok (.iadd, 1) := by decide +kernel
theorem dX3_pulledHeight_119 : decode cX3_pulledHeight 119 = .ok (.iaload, 1) := by decide +kernel
theorem dX3_pulledHeight_120 : decode cX3_pulledHeight 120 = .ok (.istore 10, 2) := by decide +kernel
theorem dX3_pulledHeight_122 : decode cX3_pulledHeight 122 = .ok (.iload 5, 2) := by decide +kernel
theorem dX3_pulledHeight_124 : decode cX3_pulledHeight 124 = .ok (.ifCond .ne 8, 3) := by decide +kernel
theorem dX3_pulledHeight_127 : decode cX3_pulledHeight 127 = .ok (.iload 10, 2) := by decide +kernel
theorem dX3_pulledHeight_129 : decode cX3_pulledHeight 129 = .ok (.goto 10, 3) := by decide +kernel
theorem dX3_pulledHeight_132 : decode cX3_pulledHeight 132 = .ok (.iload 6, 2) := by decide +kernel
theorem dX3_pulledHeight_134 : decode cX3_pulledHeight 134 = .ok (.iload 10, 2) := by decide +kernel
theorem dX3_pulledHeight_136 : decode cX3_pulledHeight 136 = .ok (.invokestatic 38, 3) := by decide +kernel
theorem dX3_pulledHeight_139 : decode cX3_pulledHeight 139 = .ok (.istore 6, 2) := by decide +kernel
theorem dX3_pulledHeight_141 : decode cX3_pulledHeight 141 = .ok (.iload 4, 2) := by decide +kernel
theorem dX3_pulledHeight_143 : decode cX3_pulledHeight 143 = .ok (.iload 10, 2) := by decide +kernel
theorem dX3_pulledHeight_145 : decode cX3_pulledHeight 145 = .ok (.iadd, 1) := by decide +kernel
theorem dX3_pulledHeight_146 : decode cX3_pulledHeight 146 = .ok (.istore 4, 2) := by decide +kernel
theorem dX3_pulledHeight_148 : decode cX3_pulledHeight 148 = .ok (.iinc 5 1, 3) := by decide +kernel
theorem dX3_pulledHeight_151 : decode cX3_pulledHeight 151 = .ok (.iinc 7 1, 3) := by decide +kernel
theorem dX3_pulledHeight_154 : decode cX3_pulledHeight 154 = .ok (.goto (-132), 3) := by decide +kernel
theorem dX3_pulledHeight_157 : decode cX3_pulledHeight 157 = .ok (.iload 5, 2) := by decide +kernel
theorem dX3_pulledHeight_159 : decode cX3_pulledHeight 159 = .ok (.ifCond .ne 12, 3) := by decide +kernel
theorem dX3_pulledHeight_162 : decode cX3_pulledHeight 162 = .ok (.aload_n 0, 1) := by decide +kernel
theorem dX3_pulledHeight_163 : decode cX3_pulledHeight 163 = .ok (.getfield 13, 3) := by decide +kernel
theorem dX3_pulledHeight_166 : decode cX3_pulledHeight 166 = .ok (.iload_n 1, 1) := by decide +kernel
theorem dX3_pulledHeight_167 : decode cX3_pulledHeight 167 = .ok (.iaload, 1) := by decide +kernel
theorem dX3_pulledHeight_168 : decode cX3_pulledHeight 168 = .ok (.goto 20, 3) := by decide +kernel
theorem dX3_pulledHeight_171 : decode cX3_pulledHeight 171 = .ok (.iload 4, 2) := by decide +kernel
theorem dX3_pulledHeight_173 : decode cX3_pulledHeight 173 = .ok (.iload 5, 2) := by decide +kernel
theorem dX3_pulledHeight_175 : decode cX3_pulledHeight 175 = .ok (.invokestatic 44, 3) := by decide +kernel
theorem dX3_pulledHeight_178 : decode cX3_pulledHeight 178 = .ok (.aload_n 0, 1) := by decide +kernel
theorem dX3_pulledHeight_179 : decode cX3_pulledHeight 179 = .ok (.getfield 47, 3) := by decide +kernel
theorem dX3_pulledHeight_182 : decode cX3_pulledHeight 182 = .ok (.isub, 1) := by decide +kernel
theorem dX3_pulledHeight_183 : decode cX3_pulledHeight 183 = .ok (.iload 6, 2) := by decide +kernel
theorem dX3_pulledHeight_185 : decode cX3_pulledHeight 185 = .ok (.invokestatic 51, 3) := by decide +kernel
theorem dX3_pulledHeight_188 : decode cX3_pulledHeight 188 = .ok (.ireturn, 1) := by decide +kernel
theorem dX4_init_0 : decode cX4_init 0 = .ok (.aload_n 0, 1) := by decide +kernel
theorem dX4_init_1 : decode cX4_init 1 = .ok (.invokespecial 1, 3) := by decide +kernel
theorem dX4_init_4 : decode cX4_init 4 = .ok (.aload_n 0, 1) := by decide +kernel
theorem dX4_init_5 : decode cX4_init 5 = .ok (.aload_n 1, 1) := by decide +kernel
theorem dX4_init_6 : decode cX4_init 6 = .ok (.putfield 7, 3) := by decide +kernel
theorem dX4_init_9 : decode cX4_init 9 = .ok (.aload_n 0, 1) := by decide +kernel
theorem dX4_init_10 : decode cX4_init 10 = .ok (.iload_n 2, 1) := by decide +kernel
theorem dX4_init_11 : decode cX4_init 11 = .ok (.putfield 13, 3) := by decide +kernel
theorem dX4_init_14 : decode cX4_init 14 = .ok (.aload_n 0, 1) := by decide +kernel
theorem dX4_init_15 : decode cX4_init 15 = .ok (.iload_n 3, 1) := by decide +kernel
theorem dX4_init_16 : decode cX4_init 16 = .ok (.putfield 17, 3) := by decide +kernel
theorem dX4_init_19 : decode cX4_init 19 = .ok (.return_, 1) := by decide +kernel
theorem dX4_strengthNow_0 : decode cX4_strengthNow 0 = .ok (.aload_n 0, 1) := by decide +kernel
theorem dX4_strengthNow_1 : decode cX4_strengthNow 1 = .ok (.getfield 7, 3) := by decide +kernel
theorem dX4_strengthNow_4 : decode cX4_strengthNow 4 = .ok (.aload_n 0, 1) := by decide +kernel
theorem dX4_strengthNow_5 : decode cX4_strengthNow 5 = .ok (.getfield 17, 3) := by decide +kernel
theorem dX4_strengthNow_8 : decode cX4_strengthNow 8 = .ok (.invokevirtual 20, 3) := by decide +kernel
theorem dX4_strengthNow_11 : decode cX4_strengthNow 11 = .ok (.aload_n 0, 1) := by decide +kernel
theorem dX4_strengthNow_12 : decode cX4_strengthNow 12 = .ok (.getfield 13, 3) := by decide +kernel
theorem dX4_strengthNow_15 : decode cX4_strengthNow 15 = .ok (.i2l, 1) := by decide +kernel
theorem dX4_strengthNow_16 : decode cX4_strengthNow 16 = .ok (.lmul, 1) := by decide +kernel
theorem dX4_strengthNow_17 : decode cX4_strengthNow 17 = .ok (.lreturn, 1) := by decide +kernel
theorem dX5_init_0 : decode cX5_init 0 = .ok (.aload_n 0, 1) := by decide +kernel
theorem dX5_init_1 : decode cX5_init 1 = .ok (.invokespecial 1, 3) := by decide +kernel
theorem dX5_init_4 : decode cX5_init 4 = .ok (.aload_n 0, 1) := by decide +kernel
theorem dX5_init_5 : decode cX5_init 5 = .ok (.iconst 1, 1) := by decide +kernel
theorem dX5_init_6 : decode cX5_init 6 = .ok (.putfield 7, 3) := by decide +kernel
theorem dX5_init_9 : decode cX5_init 9 = .ok (.aload_n 0, 1) := by decide +kernel
theorem dX5_init_10 : decode cX5_init 10 = .ok (.lload_n 1, 1) := by decide +kernel
theorem dX5_init_11 : decode cX5_init 11 = .ok (.putfield 13, 3) := by decide +kernel
theorem dX5_init_14 : decode cX5_init 14 = .ok (.aload_n 0, 1) := by decide +kernel
theorem dX5_init_15 : decode cX5_init 15 = .ok (.iload_n 3, 1) := by decide +kernel
theorem dX5_init_16 : decode cX5_init 16 = .ok (.putfield 17, 3) := by decide +kernel
theorem dX5_init_19 : decode cX5_init 19 = .ok (.return_, 1) := by decide +kernel
theorem dX6_init_0 : decode cX6_init 0 = .ok (.aload_n 0, 1) := by decide +kernel
theorem dX6_init_1 : decode cX6_init 1 = .ok (.invokespecial 1, 3) := by decide +kernel
theorem dX6_init_4 : decode cX6_init 4 = .ok (.return_, 1) := by decide +kernel
theorem dX6_draftWith_0 : decode cX6_draftWith 0 = .ok (.ldc 7, 2) := by decide +kernel
theorem dX6_draftWith_2 : decode cX6_draftWith 2 = .ok (.ldc 8, 2) := by decide +kernel
theorem dX6_draftWith_4 : decode cX6_draftWith 4 = .ok (.iload_n 1, 1) := by decide +kernel
theorem dX6_draftWith_5 : decode cX6_draftWith 5 = .ok (.i2f, 1) := by decide +kernel
theorem dX6_draftWith_6 : decode cX6_draftWith 6 = .ok (.fmul, 1) := by decide +kernel
theorem dX6_draftWith_7 : decode cX6_draftWith 7 = .ok (.fsub, 1) := by decide +kernel
theorem dX6_draftWith_8 : decode cX6_draftWith 8 = .ok (.ldc 9, 2) := by decide +kernel
theorem dX6_draftWith_10 : decode cX6_draftWith 10 = .ok (.aload_n 0, 1) := by decide +kernel
theorem dX6_draftWith_11 : decode cX6_draftWith 11 = .ok (.getfield 10, 3) := by decide +kernel
theorem dX6_draftWith_14 : decode cX6_draftWith 14 = .ok (.i2f, 1) := by decide +kernel
theorem dX6_draftWith_15 : decode cX6_draftWith 15 = .ok (.fmul, 1) := by decide +kernel
theorem dX6_draftWith_16 : decode cX6_draftWith 16 = .ok (.fadd, 1) := by decide +kernel
theorem dX6_draftWith_17 : decode cX6_draftWith 17 = .ok (.freturn, 1) := by decide +kernel
theorem dX6_powerWith_0 : decode cX6_powerWith 0 = .ok (.ldc 16, 2) := by decide +kernel
theorem dX6_powerWith_2 : decode cX6_powerWith 2 = .ok (.fconst 1, 1) := by decide +kernel
theorem dX6_powerWith_3 : decode cX6_powerWith 3 = .ok (.aload_n 0, 1) := by decide +kernel
theorem dX6_powerWith_4 : decode cX6_powerWith 4 = .ok (.getfield 17, 3) := by decide +kernel
theorem dX6_powerWith_7 : decode cX6_powerWith 7 = .ok (.i2f, 1) := by decide +kernel
theorem dX6_powerWith_8 : decode cX6_powerWith 8 = .ok (.fadd, 1) := by decide +kernel
theorem dX6_powerWith_9 : decode cX6_powerWith 9 = .ok (.fdiv, 1) := by decide +kernel
theorem dX6_powerWith_10 : decode cX6_powerWith 10 = .ok (.fstore_n 3, 1) := by decide +kernel
theorem dX6_powerWith_11 : decode cX6_powerWith 11 = .ok (.aload_n 0, 1) := by decide +kernel
theorem dX6_powerWith_12 : decode cX6_powerWith 12 = .ok (.iload_n 1, 1) := by decide +kernel
theorem dX6_powerWith_13 : decode cX6_powerWith 13 = .ok (.invokevirtual 20, 3) := by decide +kernel
theorem dX6_powerWith_16 : decode cX6_powerWith 16 = .ok (.fload_n 3, 1) := by decide +kernel
theorem dX6_powerWith_17 : decode cX6_powerWith 17 = .ok (.fmul, 1) := by decide +kernel
theorem dX6_powerWith_18 : decode cX6_powerWith 18 = .ok (.iload_n 2, 1) := by decide +kernel
theorem dX6_powerWith_19 : decode cX6_powerWith 19 = .ok (.i2f, 1) := by decide +kernel
theorem dX6_powerWith_20 : decode cX6_powerWith 20 = .ok (.fmul, 1) := by decide +kernel
theorem dX6_powerWith_21 : decode cX6_powerWith 21 = .ok (.iload_n 2, 1) := by decide +kernel
theorem dX6_powerWith_22 : decode cX6_powerWith 22 = .ok (.i2f, 1) := by decide +kernel
theorem dX6_powerWith_23 : decode cX6_powerWith 23 = .ok (.fmul, 1) := by decide +kernel
theorem dX6_powerWith_24 : decode cX6_powerWith 24 = .ok (.freturn, 1) := by decide +kernel
theorem dX7_init_0 : decode cX7_init 0 = .ok (.aload_n 0, 1) := by decide +kernel
theorem dX7_init_1 : decode cX7_init 1 = .ok (.invokespecial 3, 3) := by decide +kernel
theorem dX7_init_4 : decode cX7_init 4 = .ok (.aload_n 0, 1) := by decide +kernel
theorem dX7_init_5 : decode cX7_init 5 = .ok (.aload_n 1, 1) := by decide +kernel
theorem dX7_init_6 : decode cX7_init 6 = .ok (.putfield 9, 3) := by decide +kernel
theorem dX7_init_9 : decode cX7_init 9 = .ok (.aload_n 0, 1) := by decide +kernel
theorem dX7_init_10 : decode cX7_init 10 = .ok (.aload_n 2, 1) := by decide +kernel
theorem dX7_init_11 : decode cX7_init 11 = .ok (.putfield 15, 3) := by decide +kernel
theorem dX7_init_14 : decode cX7_init 14 = .ok (.aload_n 0, 1) := by decide +kernel
theorem dX7_init_15 : decode cX7_init 15 = .ok (.iload_n 3, 1) := by decide +kernel
theorem dX7_init_16 : decode cX7_init 16 = .ok (.ifCond .ne 8, 3) := by decide +kernel
theorem dX7_init_19 : decode cX7_init 19 = .ok (.bipush 60, 2) := by decide +kernel
theorem dX7_init_21 : decode cX7_init 21 = .ok (.goto 15, 3) := by decide +kernel
theorem dX7_init_24 : decode cX7_init 24 = .ok (.iload_n 3, 1) := by decide +kernel
theorem dX7_init_25 : decode cX7_init 25 = .ok (.iconst 1, 1) := by decide +kernel
theorem dX7_init_26 : decode cX7_init 26 = .ok (.if_icmp .ne 8, 3) := by decide +kernel
theorem dX7_init_29 : decode cX7_init 29 = .ok (.bipush 80, 2) := by decide +kernel
theorem dX7_init_31 : decode cX7_init 31 = .ok (.goto 5, 3) := by decide +kernel
theorem dX7_init_34 : decode cX7_init 34 = .ok (.bipush 40, 2) := by decide +kernel
theorem dX7_init_36 : decode cX7_init 36 = .ok (.putfield 18, 3) := by decide +kernel
theorem dX7_init_39 : decode cX7_init 39 = .ok (.return_, 1) := by decide +kernel
theorem dX7_strengthNow_0 : decode cX7_strengthNow 0 = .ok (.aload_n 0, 1) := by decide +kernel
theorem dX7_strengthNow_1 : decode cX7_strengthNow 1 = .ok (.getfield 9, 3) := by decide +kernel
theorem dX7_strengthNow_4 : decode cX7_strengthNow 4 = .ok (.invokevirtual 22, 3) := by decide +kernel
theorem dX7_strengthNow_7 : decode cX7_strengthNow 7 = .ok (.aload_n 0, 1) := by decide +kernel
theorem dX7_strengthNow_8 : decode cX7_strengthNow 8 = .ok (.getfield 15, 3) := by decide +kernel
theorem dX7_strengthNow_11 : decode cX7_strengthNow 11 = .ok (.invokevirtual 22, 3) := by decide +kernel
theorem dX7_strengthNow_14 : decode cX7_strengthNow 14 = .ok (.invokestatic 28, 3) := by decide +kernel
theorem dX7_strengthNow_17 : decode cX7_strengthNow 17 = .ok (.aload_n 0, 1) := by decide +kernel
theorem dX7_strengthNow_18 : decode cX7_strengthNow 18 = .ok (.getfield 18, 3) := by decide +kernel
theorem dX7_strengthNow_21 : decode cX7_strengthNow 21 = .ok (.i2l, 1) := by decide +kernel
theorem dX7_strengthNow_22 : decode cX7_strengthNow 22 = .ok (.lmul, 1) := by decide +kernel
theorem dX7_strengthNow_23 : decode cX7_strengthNow 23 = .ok (.ldc2_w 34, 3) := by decide +kernel
theorem dX7_strengthNow_26 : decode cX7_strengthNow 26 = .ok (.ldiv, 1) := by decide +kernel
theorem dX7_strengthNow_27 : decode cX7_strengthNow 27 = .ok (.lreturn, 1) := by decide +kernel
theorem dX7_passOnLoad_0 : decode cX7_passOnLoad 0 = .ok (.aload_n 0, 1) := by decide +kernel
theorem dX7_passOnLoad_1 : decode cX7_passOnLoad 1 = .ok (.invokevirtual 36, 3) := by decide +kernel
theorem dX7_passOnLoad_4 : decode cX7_passOnLoad 4 = .ok (.lstore_n 1, 1) := by decide +kernel
theorem dX7_passOnLoad_5 : decode cX7_passOnLoad 5 = .ok (.aload_n 0, 1) := by decide +kernel
theorem dX7_passOnLoad_6 : decode cX7_passOnLoad 6 = .ok (.getfield 15, 3) := by decide +kernel
theorem dX7_passOnLoad_9 : decode cX7_passOnLoad 9 = .ok (.aload_n 0, 1) := by decide +kernel
theorem dX7_passOnLoad_10 : decode cX7_passOnLoad 10 = .ok (.getfield 15, 3) := by decide +kernel
theorem dX7_passOnLoad_13 : decode cX7_passOnLoad 13 = .ok (.getfield 37, 3) := by decide +kernel
theorem dX7_passOnLoad_16 : decode cX7_passOnLoad 16 = .ok (.aload_n 0, 1) := by decide +kernel
theorem dX7_passOnLoad_17 : decode cX7_passOnLoad 17 = .ok (.getfield 9, 3) := by decide +kernel
theorem dX7_passOnLoad_20 : decode cX7_passOnLoad 20 = .ok (.getfield 37, 3) := by decide +kernel
theorem dX7_passOnLoad_23 : decode cX7_passOnLoad 23 = .ok (.lload_n 1, 1) := by decide +kernel
theorem dX7_passOnLoad_24 : decode cX7_passOnLoad 24 = .ok (.invokestatic 28, 3) := by decide +kernel
theorem dX7_passOnLoad_27 : decode cX7_passOnLoad 27 = .ok (.invokestatic 41, 3) := by decide +kernel
theorem dX7_passOnLoad_30 : decode cX7_passOnLoad 30 = .ok (.putfield 37, 3) := by decide +kernel
theorem dX7_passOnLoad_33 : decode cX7_passOnLoad 33 = .ok (.aload_n 0, 1) := by decide +kernel
theorem dX7_passOnLoad_34 : decode cX7_passOnLoad 34 = .ok (.getfield 9, 3) := by decide +kernel
theorem dX7_passOnLoad_37 : decode cX7_passOnLoad 37 = .ok (.aload_n 0, 1) := by decide +kernel
theorem dX7_passOnLoad_38 : decode cX7_passOnLoad 38 = .ok (.getfield 9, 3) := by decide +kernel
theorem dX7_passOnLoad_41 : decode cX7_passOnLoad 41 = .ok (.getfield 37, 3) := by decide +kernel
theorem dX7_passOnLoad_44 : decode cX7_passOnLoad 44 = .ok (.aload_n 0, 1) := by decide +kernel
theorem dX7_passOnLoad_45 : decode cX7_passOnLoad 45 = .ok (.getfield 15, 3) := by decide +kernel
theorem dX7_passOnLoad_48 : decode cX7_passOnLoad 48 = .ok (.getfield 37, 3) := by decide +kernel
theorem dX7_passOnLoad_51 : decode cX7_passOnLoad 51 = .ok (.lload_n 1, 1) := by decide +kernel
theorem dX7_passOnLoad_52 : decode cX7_passOnLoad 52 = .ok (.invokestatic 28, 3) := by decide +kernel
theorem dX7_passOnLoad_55 : decode cX7_passOnLoad 55 = .ok (.invokestatic 41, 3) := by decide +kernel
theorem dX7_passOnLoad_58 : decode cX7_passOnLoad 58 = .ok (.putfield 37, 3) := by decide +kernel
theorem dX7_passOnLoad_61 : decode cX7_passOnLoad 61 = .ok (.return_, 1) := by decide +kernel
theorem dJ9_floorDiv_7cf53_0 : decode cJ9_floorDiv_7cf53 0 = .ok (.iload_n 0, 1) := by decide +kernel
theorem dJ9_floorDiv_7cf53_1 : decode cJ9_floorDiv_7cf53 1 = .ok (.iload_n 1, 1) := by decide +kernel
theorem dJ9_floorDiv_7cf53_2 : decode cJ9_floorDiv_7cf53 2 = .ok (.idiv, 1) := by decide +kernel
theorem dJ9_floorDiv_7cf53_3 : decode cJ9_floorDiv_7cf53 3 = .ok (.istore_n 2, 1) := by decide +kernel
theorem dJ9_floorDiv_7cf53_4 : decode cJ9_floorDiv_7cf53 4 = .ok (.iload_n 0, 1) := by decide +kernel
theorem dJ9_floorDiv_7cf53_5 : decode cJ9_floorDiv_7cf53 5 = .ok (.iload_n 1, 1) := by decide +kernel
theorem dJ9_floorDiv_7cf53_6 : decode cJ9_floorDiv_7cf53 6 = .ok (.ixor, 1) := by decide +kernel
theorem dJ9_floorDiv_7cf53_7 : decode cJ9_floorDiv_7cf53 7 = .ok (.ifCond .ge 14, 3) := by decide +kernel
theorem dJ9_floorDiv_7cf53_10 : decode cJ9_floorDiv_7cf53 10 = .ok (.iload_n 2, 1) := by decide +kernel
theorem dJ9_floorDiv_7cf53_11 : decode cJ9_floorDiv_7cf53 11 = .ok (.iload_n 1, 1) := by decide +kernel
theorem dJ9_floorDiv_7cf53_12 : decode cJ9_floorDiv_7cf53 12 = .ok (.imul, 1) := by decide +kernel
theorem dJ9_floorDiv_7cf53_13 : decode cJ9_floorDiv_7cf53 13 = .ok (.iload_n 0, 1) := by decide +kernel
theorem dJ9_floorDiv_7cf53_14 : decode cJ9_floorDiv_7cf53 14 = .ok (.if_icmp .eq 7, 3) := by decide +kernel
theorem dJ9_floorDiv_7cf53_17 : decode cJ9_floorDiv_7cf53 17 = .ok (.iload_n 2, 1) := by decide +kernel
theorem dJ9_floorDiv_7cf53_18 : decode cJ9_floorDiv_7cf53 18 = .ok (.iconst 1, 1) := by decide +kernel
theorem dJ9_floorDiv_7cf53_19 : decode cJ9_floorDiv_7cf53 19 = .ok (.isub, 1) := by decide +kernel
theorem dJ9_floorDiv_7cf53_20 : decode cJ9_floorDiv_7cf53 20 = .ok (.ireturn, 1) := by decide +kernel
theorem dJ9_floorDiv_7cf53_21 : decode cJ9_floorDiv_7cf53 21 = .ok (.iload_n 2, 1) := by decide +kernel
theorem dJ9_floorDiv_7cf53_22 : decode cJ9_floorDiv_7cf53 22 = .ok (.ireturn, 1) := by decide +kernel
theorem dJ9_max_7cf53_0 : decode cJ9_max_7cf53 0 = .ok (.iload_n 0, 1) := by decide +kernel
theorem dJ9_max_7cf53_1 : decode cJ9_max_7cf53 1 = .ok (.iload_n 1, 1) := by decide +kernel
theorem dJ9_max_7cf53_2 : decode cJ9_max_7cf53 2 = .ok (.if_icmp .lt 7, 3) := by decide +kernel
theorem dJ9_max_7cf53_5 : decode cJ9_max_7cf53 5 = .ok (.iload_n 0, 1) := by decide +kernel
theorem dJ9_max_7cf53_6 : decode cJ9_max_7cf53 6 = .ok (.goto 4, 3) := by decide +kernel
theorem dJ9_max_7cf53_9 : decode cJ9_max_7cf53 9 = .ok (.iload_n 1, 1) := by decide +kernel
theorem dJ9_max_7cf53_10 : decode cJ9_max_7cf53 10 = .ok (.ireturn, 1) := by decide +kernel
theorem dJ9_max_f86c9_0 : decode cJ9_max_f86c9 0 = .ok (.lload_n 0, 1) := by decide +kernel
theorem dJ9_max_f86c9_1 : decode cJ9_max_f86c9 1 = .ok (.lload_n 2, 1) := by decide +kernel
theorem dJ9_max_f86c9_2 : decode cJ9_max_f86c9 2 = .ok (.lcmp, 1) := by decide +kernel
theorem dJ9_max_f86c9_3 : decode cJ9_max_f86c9 3 = .ok (.ifCond .lt 7, 3) := by decide +kernel
theorem dJ9_max_f86c9_6 : decode cJ9_max_f86c9 6 = .ok (.lload_n 0, 1) := by decide +kernel
theorem dJ9_max_f86c9_7 : decode cJ9_max_f86c9 7 = .ok (.goto 4, 3) := by decide +kernel
theorem dJ9_max_f86c9_10 : decode cJ9_max_f86c9 10 = .ok (.lload_n 2, 1) := by decide +kernel
theorem dJ9_max_f86c9_11 : decode cJ9_max_f86c9 11 = .ok (.lreturn, 1) := by decide +kernel
theorem dJ9_min_7cf53_0 : decode cJ9_min_7cf53 0 = .ok (.iload_n 0, 1) := by decide +kernel
theorem dJ9_min_7cf53_1 : decode cJ9_min_7cf53 1 = .ok (.iload_n 1, 1) := by decide +kernel
theorem dJ9_min_7cf53_2 : decode cJ9_min_7cf53 2 = .ok (.if_icmp .gt 7, 3) := by decide +kernel
theorem dJ9_min_7cf53_5 : decode cJ9_min_7cf53 5 = .ok (.iload_n 0, 1) := by decide +kernel
theorem dJ9_min_7cf53_6 : decode cJ9_min_7cf53 6 = .ok (.goto 4, 3) := by decide +kernel
theorem dJ9_min_7cf53_9 : decode cJ9_min_7cf53 9 = .ok (.iload_n 1, 1) := by decide +kernel
theorem dJ9_min_7cf53_10 : decode cJ9_min_7cf53 10 = .ok (.ireturn, 1) := by decide +kernel
theorem dJ9_min_f86c9_0 : decode cJ9_min_f86c9 0 = .ok (.lload_n 0, 1) := by decide +kernel
theorem dJ9_min_f86c9_1 : decode cJ9_min_f86c9 1 = .ok (.lload_n 2, 1) := by decide +kernel
theorem dJ9_min_f86c9_2 : decode cJ9_min_f86c9 2 = .ok (.lcmp, 1) := by decide +kernel
theorem dJ9_min_f86c9_3 : decode cJ9_min_f86c9 3 = .ok (.ifCond .gt 7, 3) := by decide +kernel
theorem dJ9_min_f86c9_6 : decode cJ9_min_f86c9 6 = .ok (.lload_n 0, 1) := by decide +kernel
theorem dJ9_min_f86c9_7 : decode cJ9_min_f86c9 7 = .ok (.goto 4, 3) := by decide +kernel
theorem dJ9_min_f86c9_10 : decode cJ9_min_f86c9 10 = .ok (.lload_n 2, 1) := by decide +kernel
theorem dJ9_min_f86c9_11 : decode cJ9_min_f86c9 11 = .ok (.lreturn, 1) := by decide +kernel
