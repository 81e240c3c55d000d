theorem dX0_init_0 : decode cX0_init 0 = .ok (.aload_n 0, 1) := by decide +kernel
theorem dX0_init_1 : decode cX0_init 1 = .ok (.invokespecial 3, 3) := by decide +kernel
theorem dX0_init_4 : decode cX0_init 4 = .ok (.aload_n 0, 1) := by decide +kernel
theorem dX0_init_5 : decode cX0_init 5 = .ok (.bipush 40, 2) := by decide +kernel
theorem dX0_init_7 : decode cX0_init 7 = .ok (.anewarray 9, 3) := by decide +kernel
theorem dX0_init_10 : decode cX0_init 10 = .ok (.putfield 11, 3) := by decide +kernel
theorem dX0_init_13 : decode cX0_init 13 = .ok (.aload_n 0, 1) := by decide +kernel
theorem dX0_init_14 : decode cX0_init 14 = .ok (.bipush 40, 2) := by decide +kernel
theorem dX0_init_16 : decode cX0_init 16 = .ok (.anewarray 17, 3) := by decide +kernel
theorem dX0_init_19 : decode cX0_init 19 = .ok (.putfield 19, 3) := by decide +kernel
theorem dX0_init_22 : decode cX0_init 22 = .ok (.aload_n 0, 1) := by decide +kernel
theorem dX0_init_23 : decode cX0_init 23 = .ok (.iconst 0, 1) := by decide +kernel
theorem dX0_init_24 : decode cX0_init 24 = .ok (.putfield 23, 3) := by decide +kernel
theorem dX0_init_27 : decode cX0_init 27 = .ok (.return_, 1) := by decide +kernel
theorem dX0_append_0 : decode cX0_append 0 = .ok (.aload_n 0, 1) := by decide +kernel
theorem dX0_append_1 : decode cX0_append 1 = .ok (.getfield 23, 3) := by decide +kernel
theorem dX0_append_4 : decode cX0_append 4 = .ok (.bipush 40, 2) := by decide +kernel
theorem dX0_append_6 : decode cX0_append 6 = .ok (.if_icmp .ge 33, 3) := by decide +kernel
theorem dX0_append_9 : decode cX0_append 9 = .ok (.aload_n 0, 1) := by decide +kernel
theorem dX0_append_10 : decode cX0_append 10 = .ok (.getfield 11, 3) := by decide +kernel
theorem dX0_append_13 : decode cX0_append 13 = .ok (.aload_n 0, 1) := by decide +kernel
theorem dX0_append_14 : decode cX0_append 14 = .ok (.getfield 23, 3) := by decide +kernel
theorem dX0_append_17 : decode cX0_append 17 = .ok (.aload_n 1, 1) := by decide +kernel
theorem dX0_append_18 : decode cX0_append 18 = .ok (.aastore, 1) := by decide +kernel
theorem dX0_append_19 : decode cX0_append 19 = .ok (.aload_n 0, 1) := by decide +kernel
theorem dX0_append_20 : decode cX0_append 20 = .ok (.getfield 19, 3) := by decide +kernel
theorem dX0_append_23 : decode cX0_append 23 = .ok (.aload_n 0, 1) := by decide +kernel
theorem dX0_append_24 : decode cX0_append 24 = .ok (.getfield 23, 3) := by decide +kernel
theorem dX0_append_27 : decode cX0_append 27 = .ok (.aload_n 2, 1) := by decide +kernel
theorem dX0_append_28 : decode cX0_append 28 = .ok (.aastore, 1) := by decide +kernel
theorem dX0_append_29 : decode cX0_append 29 = .ok (.aload_n 0, 1) := by decide +kernel
theorem dX0_append_30 : decode cX0_append 30 = .ok (.dup, 1) := by decide +kernel
theorem dX0_append_31 : decode cX0_append 31 = .ok (.getfield 23, 3) := by decide +kernel
theorem dX0_append_34 : decode cX0_append 34 = .ok (.iconst 1, 1) := by decide +kernel
theorem dX0_append_35 : decode cX0_append 35 = .ok (.iadd, 1) := by decide +kernel
theorem dX0_append_36 : decode cX0_append 36 = .ok (.putfield 23, 3) := by decide +kernel
theorem dX0_append_39 : decode cX0_append 39 = .ok (.return_, 1) := by decide +kernel
theorem dX0_formAt_0 : decode cX0_formAt 0 = .ok (.iload_n 1, 1) := by decide +kernel
theorem dX0_formAt_1 : decode cX0_formAt 1 = .ok (.ifCond .lt 20, 3) := by decide +kernel
theorem dX0_formAt_4 : decode cX0_formAt 4 = .ok (.iload_n 1, 1) := by decide +kernel
theorem dX0_formAt_5 : decode cX0_formAt 5 = .ok (.aload_n 0, 1) := by decide +kernel
theorem dX0_formAt_6 : decode cX0_formAt 6 = .ok (.getfield 23, 3) := by decide +kernel
theorem dX0_formAt_9 : decode cX0_formAt 9 = .ok (.if_icmp .ge 12, 3) := by decide +kernel
theorem dX0_formAt_12 : decode cX0_formAt 12 = .ok (.aload_n 0, 1) := by decide +kernel
theorem dX0_formAt_13 : decode cX0_formAt 13 = .ok (.getfield 11, 3) := by decide +kernel
theorem dX0_formAt_16 : decode cX0_formAt 16 = .ok (.iload_n 1, 1) := by decide +kernel
theorem dX0_formAt_17 : decode cX0_formAt 17 = .ok (.aaload, 1) := by decide +kernel
theorem dX0_formAt_18 : decode cX0_formAt 18 = .ok (.goto 4, 3) := by decide +kernel
theorem dX0_formAt_21 : decode cX0_formAt 21 = .ok (.aconst_null, 1) := by decide +kernel
theorem dX0_formAt_22 : decode cX0_formAt 22 = .ok (.areturn, 1) := by decide +kernel
theorem dX0_ruleAheadOf_0 : decode cX0_ruleAheadOf 0 = .ok (.iload_n 1, 1) := by decide +kernel
theorem dX0_ruleAheadOf_1 : decode cX0_ruleAheadOf 1 = .ok (.ifCond .lt 20, 3) := by decide +kernel
theorem dX0_ruleAheadOf_4 : decode cX0_ruleAheadOf 4 = .ok (.iload_n 1, 1) := by decide +kernel
theorem dX0_ruleAheadOf_5 : decode cX0_ruleAheadOf 5 = .ok (.aload_n 0, 1) := by decide +kernel
theorem dX0_ruleAheadOf_6 : decode cX0_ruleAheadOf 6 = .ok (.getfield 23, 3) := by decide +kernel
theorem dX0_ruleAheadOf_9 : decode cX0_ruleAheadOf 9 = .ok (.if_icmp .ge 12, 3) := by decide +kernel
theorem dX0_ruleAheadOf_12 : decode cX0_ruleAheadOf 12 = .ok (.aload_n 0, 1) := by decide +kernel
theorem dX0_ruleAheadOf_13 : decode cX0_ruleAheadOf 13 = .ok (.getfield 19, 3) := by decide +kernel
theorem dX0_ruleAheadOf_16 : decode cX0_ruleAheadOf 16 = .ok (.iload_n 1, 1) := by decide +kernel
theorem dX0_ruleAheadOf_17 : decode cX0_ruleAheadOf 17 = .ok (.aaload, 1) := by decide +kernel
theorem dX0_ruleAheadOf_18 : decode cX0_ruleAheadOf 18 = .ok (.goto 4, 3) := by decide +kernel
theorem dX0_ruleAheadOf_21 : decode cX0_ruleAheadOf 21 = .ok (.aconst_null, 1) := by decide +kernel
theorem dX0_ruleAheadOf_22 : decode cX0_ruleAheadOf 22 = .ok (.areturn, 1) := by decide +kernel
theorem dX0_last_0 : decode cX0_last 0 = .ok (.aload_n 0, 1) := by decide +kernel
theorem dX0_last_1 : decode cX0_last 1 = .ok (.aload_n 0, 1) := by decide +kernel
theorem dX0_last_2 : decode cX0_last 2 = .ok (.getfield 23, 3) := by decide +kernel
theorem dX0_last_5 : decode cX0_last 5 = .ok (.iconst 1, 1) := by decide +kernel
theorem dX0_last_6 : decode cX0_last 6 = .ok (.isub, 1) := by decide +kernel
theorem dX0_last_7 : decode cX0_last 7 = .ok (.invokevirtual 27, 3) := by decide +kernel
theorem dX0_last_10 : decode cX0_last 10 = .ok (.areturn, 1) := by decide +kernel
theorem dX0_lastCut_0 : decode cX0_lastCut 0 = .ok (.aload_n 0, 1) := by decide +kernel
theorem dX0_lastCut_1 : decode cX0_lastCut 1 = .ok (.aload_n 0, 1) := by decide +kernel
theorem dX0_lastCut_2 : decode cX0_lastCut 2 = .ok (.getfield 23, 3) := by decide +kernel
theorem dX0_lastCut_5 : decode cX0_lastCut 5 = .ok (.iconst 1, 1) := by decide +kernel
theorem dX0_lastCut_6 : decode cX0_lastCut 6 = .ok (.isub, 1) := by decide +kernel
theorem dX0_lastCut_7 : decode cX0_lastCut 7 = .ok (.invokevirtual 31, 3) := by decide +kernel
theorem dX0_lastCut_10 : decode cX0_lastCut 10 = .ok (.ireturn, 1) := by decide +kernel
theorem dX0_cutAtBeginning_0 : decode cX0_cutAtBeginning 0 = .ok (.aload_n 0, 1) := by decide +kernel
theorem dX0_cutAtBeginning_1 : decode cX0_cutAtBeginning 1 = .ok (.iload_n 1, 1) := by decide +kernel
theorem dX0_cutAtBeginning_2 : decode cX0_cutAtBeginning 2 = .ok (.invokevirtual 35, 3) := by decide +kernel
theorem dX0_cutAtBeginning_5 : decode cX0_cutAtBeginning 5 = .ok (.astore_n 2, 1) := by decide +kernel
theorem dX0_cutAtBeginning_6 : decode cX0_cutAtBeginning 6 = .ok (.aload_n 2, 1) := by decide +kernel
theorem dX0_cutAtBeginning_7 : decode cX0_cutAtBeginning 7 = .ok (.ifnonnull 7, 3) := by decide +kernel
theorem dX0_cutAtBeginning_10 : decode cX0_cutAtBeginning 10 = .ok (.iconst 0, 1) := by decide +kernel
theorem dX0_cutAtBeginning_11 : decode cX0_cutAtBeginning 11 = .ok (.goto 7, 3) := by decide +kernel
theorem dX0_cutAtBeginning_14 : decode cX0_cutAtBeginning 14 = .ok (.aload_n 2, 1) := by decide +kernel
theorem dX0_cutAtBeginning_15 : decode cX0_cutAtBeginning 15 = .ok (.getfield 39, 3) := by decide +kernel
theorem dX0_cutAtBeginning_18 : decode cX0_cutAtBeginning 18 = .ok (.ireturn, 1) := by decide +kernel
theorem dX0_cutAtEnd_0 : decode cX0_cutAtEnd 0 = .ok (.aload_n 0, 1) := by decide +kernel
theorem dX0_cutAtEnd_1 : decode cX0_cutAtEnd 1 = .ok (.iload_n 1, 1) := by decide +kernel
theorem dX0_cutAtEnd_2 : decode cX0_cutAtEnd 2 = .ok (.iconst 1, 1) := by decide +kernel
theorem dX0_cutAtEnd_3 : decode cX0_cutAtEnd 3 = .ok (.iadd, 1) := by decide +kernel
theorem dX0_cutAtEnd_4 : decode cX0_cutAtEnd 4 = .ok (.invokevirtual 35, 3) := by decide +kernel
theorem dX0_cutAtEnd_7 : decode cX0_cutAtEnd 7 = .ok (.astore_n 2, 1) := by decide +kernel
theorem dX0_cutAtEnd_8 : decode cX0_cutAtEnd 8 = .ok (.aload_n 2, 1) := by decide +kernel
theorem dX0_cutAtEnd_9 : decode cX0_cutAtEnd 9 = .ok (.ifnonnull 7, 3) := by decide +kernel
theorem dX0_cutAtEnd_12 : decode cX0_cutAtEnd 12 = .ok (.iconst 0, 1) := by decide +kernel
theorem dX0_cutAtEnd_13 : decode cX0_cutAtEnd 13 = .ok (.goto 7, 3) := by decide +kernel
theorem dX0_cutAtEnd_16 : decode cX0_cutAtEnd 16 = .ok (.aload_n 2, 1) := by decide +kernel
theorem dX0_cutAtEnd_17 : decode cX0_cutAtEnd 17 = .ok (.getfield 42, 3) := by decide +kernel
theorem dX0_cutAtEnd_20 : decode cX0_cutAtEnd 20 = .ok (.ireturn, 1) := by decide +kernel
theorem dX0_price_0 : decode cX0_price 0 = .ok (.iconst 0, 1) := by decide +kernel
theorem dX0_price_1 : decode cX0_price 1 = .ok (.istore_n 1, 1) := by decide +kernel
theorem dX0_price_2 : decode cX0_price 2 = .ok (.iconst 0, 1) := by decide +kernel
theorem dX0_price_3 : decode cX0_price 3 = .ok (.istore_n 2, 1) := by decide +kernel
theorem dX0_price_4 : decode cX0_price 4 = .ok (.iload_n 2, 1) := by decide +kernel
theorem dX0_price_5 : decode cX0_price 5 = .ok (.aload_n 0, 1) := by decide +kernel
theorem dX0_price_6 : decode cX0_price 6 = .ok (.getfield 23, 3) := by decide +kernel
theorem dX0_price_9 : decode cX0_price 9 = .ok (.if_icmp .ge 42, 3) := by decide +kernel
theorem dX0_price_12 : decode cX0_price 12 = .ok (.iload_n 1, 1) := by decide +kernel
theorem dX0_price_13 : decode cX0_price 13 = .ok (.aload_n 0, 1) := by decide +kernel
theorem dX0_price_14 : decode cX0_price 14 = .ok (.getfield 11, 3) := by decide +kernel
theorem dX0_price_17 : decode cX0_price 17 = .ok (.iload_n 2, 1) := by decide +kernel
theorem dX0_price_18 : decode cX0_price 18 = .ok (.aaload, 1) := by decide +kernel
theorem dX0_price_19 : decode cX0_price 19 = .ok (.getfield 45, 3) := by decide +kernel
theorem dX0_price_22 : decode cX0_price 22 = .ok (.iadd, 1) := by decide +kernel
theorem dX0_price_23 : decode cX0_price 23 = .ok (.istore_n 1, 1) := by decide +kernel
theorem dX0_price_24 : decode cX0_price 24 = .ok (.aload_n 0, 1) := by decide +kernel
theorem dX0_price_25 : decode cX0_price 25 = .ok (.getfield 19, 3) := by decide +kernel
theorem dX0_price_28 : decode cX0_price 28 = .ok (.iload_n 2, 1) := by decide +kernel
theorem dX0_price_29 : decode cX0_price 29 = .ok (.aaload, 1) := by decide +kernel
theorem dX0_price_30 : decode cX0_price 30 = .ok (.ifnull 15, 3) := by decide +kernel
theorem dX0_price_33 : decode cX0_price 33 = .ok (.iload_n 1, 1) := by decide +kernel
theorem dX0_price_34 : decode cX0_price 34 = .ok (.aload_n 0, 1) := by decide +kernel
theorem dX0_price_35 : decode cX0_price 35 = .ok (.getfield 19, 3) := by decide +kernel
theorem dX0_price_38 : decode cX0_price 38 = .ok (.iload_n 2, 1) := by decide +kernel
theorem dX0_price_39 : decode cX0_price 39 = .ok (.aaload, 1) := by decide +kernel
theorem dX0_price_40 : decode cX0_price 40 = .ok (.getfield 48, 3) := by decide +kernel
theorem dX0_price_43 : decode cX0_price 43 = .ok (.iadd, 1) := by decide +kernel
theorem dX0_price_44 : decode cX0_price 44 = .ok (.istore_n 1, 1) := by decide +kernel
theorem dX0_price_45 : decode cX0_price 45 = .ok (.iinc 2 1, 3) := by decide +kernel
theorem dX0_price_48 : decode cX0_price 48 = .ok (.goto (-44), 3) := by decide +kernel
theorem dX0_price_51 : decode cX0_price 51 = .ok (.iload_n 1, 1) := by decide +kernel
theorem dX0_price_52 : decode cX0_price 52 = .ok (.ireturn, 1) := by decide +kernel
theorem dX0_copyFrom_0 : decode cX0_copyFrom 0 = .ok (.iconst 0, 1) := by decide +kernel
theorem dX0_copyFrom_1 : decode cX0_copyFrom 1 = .ok (.istore_n 2, 1) := by decide +kernel
theorem dX0_copyFrom_2 : decode cX0_copyFrom 2 = .ok (.iload_n 2, 1) := by decide +kernel
theorem dX0_copyFrom_3 : decode cX0_copyFrom 3 = .ok (.aload_n 1, 1) := by decide +kernel
theorem dX0_copyFrom_4 : decode cX0_copyFrom 4 = .ok (.getfield 23, 3) := by decide +kernel
theorem dX0_copyFrom_7 : decode cX0_copyFrom 7 = .ok (.if_icmp .ge 33, 3) := by decide +kernel
theorem dX0_copyFrom_10 : decode cX0_copyFrom 10 = .ok (.aload_n 0, 1) := by decide +kernel
theorem dX0_copyFrom_11 : decode cX0_copyFrom 11 = .ok (.getfield 11, 3) := by decide +kernel
theorem dX0_copyFrom_14 : decode cX0_copyFrom 14 = .ok (.iload_n 2, 1) := by decide +kernel
theorem dX0_copyFrom_15 : decode cX0_copyFrom 15 = .ok (.aload_n 1, 1) := by decide +kernel
theorem dX0_copyFrom_16 : decode cX0_copyFrom 16 = .ok (.getfield 11, 3) := by decide +kernel
theorem dX0_copyFrom_19 : decode cX0_copyFrom 19 = .ok (.iload_n 2, 1) := by decide +kernel
theorem dX0_copyFrom_20 : decode cX0_copyFrom 20 = .ok (.aaload, 1) := by decide +kernel
theorem dX0_copyFrom_21 : decode cX0_copyFrom 21 = .ok (.aastore, 1) := by decide +kernel
theorem dX0_copyFrom_22 : decode cX0_copyFrom 22 = .ok (.aload_n 0, 1) := by decide +kernel
theorem dX0_copyFrom_23 : decode cX0_copyFrom 23 = .ok (.getfield 19, 3) := by decide +kernel
theorem dX0_copyFrom_26 : decode cX0_copyFrom 26 = .ok (.iload_n 2, 1) := by decide +kernel
theorem dX0_copyFrom_27 : decode cX0_copyFrom 27 = .ok (.aload_n 1, 1) := by decide +kernel
theorem dX0_copyFrom_28 : decode cX0_copyFrom 28 = .ok (.getfield 19, 3) := by decide +kernel
theorem dX0_copyFrom_31 : decode cX0_copyFrom 31 = .ok (.iload_n 2, 1) := by decide +kernel
theorem dX0_copyFrom_32 : decode cX0_copyFrom 32 = .ok (.aaload, 1) := by decide +kernel
theorem dX0_copyFrom_33 : decode cX0_copyFrom 33 = .ok (.aastore, 1) := by decide +kernel
theorem dX0_copyFrom_34 : decode cX0_copyFrom 34 = .ok (.iinc 2 1, 3) := by decide +kernel
theorem dX0_copyFrom_37 : decode cX0_copyFrom 37 = .ok (.goto (-35), 3) := by decide +kernel
theorem dX0_copyFrom_40 : decode cX0_copyFrom 40 = .ok (.aload_n 0, 1) := by decide +kernel
theorem dX0_copyFrom_41 : decode cX0_copyFrom 41 = .ok (.aload_n 1, 1) := by decide +kernel
theorem dX0_copyFrom_42 : decode cX0_copyFrom 42 = .ok (.getfield 23, 3) := by decide +kernel
theorem dX0_copyFrom_45 : decode cX0_copyFrom 45 = .ok (.putfield 23, 3) := by decide +kernel
theorem dX0_copyFrom_48 : decode cX0_copyFrom 48 = .ok (.return_, 1) := by decide +kernel
theorem dX1_init_0 : decode cX1_init 0 = .ok (.aload_n 0, 1) := by decide +kernel
theorem dX1_init_1 : decode cX1_init 1 = .ok (.invokespecial 3, 3) := by decide +kernel
theorem dX1_init_4 : decode cX1_init 4 = .ok (.aload_n 0, 1) := by decide +kernel
theorem dX1_init_5 : decode cX1_init 5 = .ok (.bipush 20, 2) := by decide +kernel
theorem dX1_init_7 : decode cX1_init 7 = .ok (.newarray .int, 2) := by decide +kernel
theorem dX1_init_9 : decode cX1_init 9 = .ok (.putfield 9, 3) := by decide +kernel
theorem dX1_init_12 : decode cX1_init 12 = .ok (.aload_n 0, 1) := by decide +kernel
theorem dX1_init_13 : decode cX1_init 13 = .ok (.iconst 0, 1) := by decide +kernel
theorem dX1_init_14 : decode cX1_init 14 = .ok (.putfield 15, 3) := by decide +kernel
theorem dX1_init_17 : decode cX1_init 17 = .ok (.aload_n 0, 1) := by decide +kernel
theorem dX1_init_18 : decode cX1_init 18 = .ok (.bipush 30, 2) := by decide +kernel
theorem dX1_init_20 : decode cX1_init 20 = .ok (.bipush 40, 2) := by decide +kernel
theorem dX1_init_22 : decode cX1_init 22 = .ok (.multianewarray 19 2, 4) := by decide +kernel
theorem dX1_init_26 : decode cX1_init 26 = .ok (.putfield 21, 3) := by decide +kernel
theorem dX1_init_29 : decode cX1_init 29 = .ok (.aload_n 0, 1) := by decide +kernel
theorem dX1_init_30 : decode cX1_init 30 = .ok (.bipush 30, 2) := by decide +kernel
theorem dX1_init_32 : decode cX1_init 32 = .ok (.bipush 20, 2) := by decide +kernel
theorem dX1_init_34 : decode cX1_init 34 = .ok (.multianewarray 19 2, 4) := by decide +kernel
theorem dX1_init_38 : decode cX1_init 38 = .ok (.putfield 24, 3) := by decide +kernel
theorem dX1_init_41 : decode cX1_init 41 = .ok (.aload_n 0, 1) := by decide +kernel
theorem dX1_init_42 : decode cX1_init 42 = .ok (.bipush 30, 2) := by decide +kernel
theorem dX1_init_44 : decode cX1_init 44 = .ok (.newarray .int, 2) := by decide +kernel
theorem dX1_init_46 : decode cX1_init 46 = .ok (.putfield 27, 3) := by decide +kernel
theorem dX1_init_49 : decode cX1_init 49 = .ok (.aload_n 0, 1) := by decide +kernel
theorem dX1_init_50 : decode cX1_init 50 = .ok (.iconst 0, 1) := by decide +kernel
theorem dX1_init_51 : decode cX1_init 51 = .ok (.putfield 30, 3) := by decide +kernel
theorem dX1_init_54 : decode cX1_init 54 = .ok (.return_, 1) := by decide +kernel
theorem dX1_remember_0 : decode cX1_remember 0 = .ok (.aload_n 0, 1) := by decide +kernel
theorem dX1_remember_1 : decode cX1_remember 1 = .ok (.getfield 15, 3) := by decide +kernel
theorem dX1_remember_4 : decode cX1_remember 4 = .ok (.bipush 30, 2) := by decide +kernel
theorem dX1_remember_6 : decode cX1_remember 6 = .ok (.if_icmp .ne 26, 3) := by decide +kernel
theorem dX1_remember_9 : decode cX1_remember 9 = .ok (.aload_n 0, 1) := by decide +kernel
theorem dX1_remember_10 : decode cX1_remember 10 = .ok (.aload_n 0, 1) := by decide +kernel
theorem dX1_remember_11 : decode cX1_remember 11 = .ok (.getfield 30, 3) := by decide +kernel
theorem dX1_remember_14 : decode cX1_remember 14 = .ok (.iconst 1, 1) := by decide +kernel
theorem dX1_remember_15 : decode cX1_remember 15 = .ok (.iadd, 1) := by decide +kernel
theorem dX1_remember_16 : decode cX1_remember 16 = .ok (.bipush 30, 2) := by decide +kernel
theorem dX1_remember_18 : decode cX1_remember 18 = .ok (.irem, 1) := by decide +kernel
theorem dX1_remember_19 : decode cX1_remember 19 = .ok (.putfield 30, 3) := by decide +kernel
theorem dX1_remember_22 : decode cX1_remember 22 = .ok (.aload_n 0, 1) := by decide +kernel
theorem dX1_remember_23 : decode cX1_remember 23 = .ok (.dup, 1) := by decide +kernel
theorem dX1_remember_24 : decode cX1_remember 24 = .ok (.getfield 15, 3) := by decide +kernel
theorem dX1_remember_27 : decode cX1_remember 27 = .ok (.iconst 1, 1) := by decide +kernel
theorem dX1_remember_28 : decode cX1_remember 28 = .ok (.isub, 1) := by decide +kernel
theorem dX1_remember_29 : decode cX1_remember 29 = .ok (.putfield 15, 3) := by decide +kernel
theorem dX1_remember_32 : decode cX1_remember 32 = .ok (.aload_n 0, 1) := by decide +kernel
theorem dX1_remember_33 : decode cX1_remember 33 = .ok (.getfield 30, 3) := by decide +kernel
theorem dX1_remember_36 : decode cX1_remember 36 = .ok (.aload_n 0, 1) := by decide +kernel
theorem dX1_remember_37 : decode cX1_remember 37 = .ok (.getfield 15, 3) := by decide +kernel
theorem dX1_remember_40 : decode cX1_remember 40 = .ok (.iadd, 1) := by decide +kernel
theorem dX1_remember_41 : decode cX1_remember 41 = .ok (.bipush 30, 2) := by decide +kernel
theorem dX1_remember_43 : decode cX1_remember 43 = .ok (.irem, 1) := by decide +kernel
theorem dX1_remember_44 : decode cX1_remember 44 = .ok (.istore_n 2, 1) := by decide +kernel
theorem dX1_remember_45 : decode cX1_remember 45 = .ok (.iconst 0, 1) := by decide +kernel
theorem dX1_remember_46 : decode cX1_remember 46 = .ok (.istore_n 3, 1) := by decide +kernel
theorem dX1_remember_47 : decode cX1_remember 47 = .ok (.iload_n 3, 1) := by decide +kernel
theorem dX1_remember_48 : decode cX1_remember 48 = .ok (.aload_n 1, 1) := by decide +kernel
theorem dX1_remember_49 : decode cX1_remember 49 = .ok (.getfield 33, 3) := by decide +kernel
theorem dX1_remember_52 : decode cX1_remember 52 = .ok (.if_icmp .ge 26, 3) := by decide +kernel
theorem dX1_remember_55 : decode cX1_remember 55 = .ok (.aload_n 0, 1) := by decide +kernel
theorem dX1_remember_56 : decode cX1_remember 56 = .ok (.getfield 21, 3) := by decide +kernel
theorem dX1_remember_59 : decode cX1_remember 59 = .ok (.iload_n 2, 1) := by decide +kernel
theorem dX1_remember_60 : decode cX1_remember 60 = .ok (.aaload, 1) := by decide +kernel
theorem dX1_remember_61 : decode cX1_remember 61 = .ok (.iload_n 3, 1) := by decide +kernel
theorem dX1_remember_62 : decode cX1_remember 62 = .ok (.aload_n 1, 1) := by decide +kernel
theorem dX1_remember_63 : decode cX1_remember 63 = .ok (.getfield 38, 3) := by decide +kernel
theorem dX1_remember_66 : decode cX1_remember 66 = .ok (.iload_n 3, 1) := by decide +kernel
theorem dX1_remember_67 : decode cX1_remember 67 = .ok (.aaload, 1) := by decide +kernel
theorem dX1_remember_68 : decode cX1_remember 68 = .ok (.getfield 42, 3) := by decide +kernel
theorem dX1_remember_71 : decode cX1_remember 71 = .ok (.iastore, 1) := by decide +kernel
theorem dX1_remember_72 : decode cX1_remember 72 = .ok (.iinc 3 1, 3) := by decide +kernel
theorem dX1_remember_75 : decode cX1_remember 75 = .ok (.goto (-28), 3) := by decide +kernel
theorem dX1_remember_78 : decode cX1_remember 78 = .ok (.aload_n 0, 1) := by decide +kernel
theorem dX1_remember_79 : decode cX1_remember 79 = .ok (.getfield 27, 3) := by decide +kernel
theorem dX1_remember_82 : decode cX1_remember 82 = .ok (.iload_n 2, 1) := by decide +kernel
theorem dX1_remember_83 : decode cX1_remember 83 = .ok (.aload_n 1, 1) := by decide +kernel
theorem dX1_remember_84 : decode cX1_remember 84 = .ok (.getfield 33, 3) := by decide +kernel
theorem dX1_remember_87 : decode cX1_remember 87 = .ok (.iastore, 1) := by decide +kernel
theorem dX1_remember_88 : decode cX1_remember 88 = .ok (.aload_n 0, 1) := by decide +kernel
theorem dX1_remember_89 : decode cX1_remember 89 = .ok (.getfield 9, 3) := by decide +kernel
theorem dX1_remember_92 : decode cX1_remember 92 = .ok (.iconst 0, 1) := by decide +kernel
theorem dX1_remember_93 : decode cX1_remember 93 = .ok (.aload_n 0, 1) := by decide +kernel
theorem dX1_remember_94 : decode cX1_remember 94 = .ok (.getfield 24, 3) := by decide +kernel
theorem dX1_remember_97 : decode cX1_remember 97 = .ok (.iload_n 2, 1) := by decide +kernel
theorem dX1_remember_98 : decode cX1_remember 98 = .ok (.aaload, 1) := by decide +kernel
theorem dX1_remember_99 : decode cX1_remember 99 = .ok (.iconst 0, 1) := by decide +kernel
theorem dX1_remember_100 : decode cX1_remember 100 = .ok (.bipush 20, 2) := by decide +kernel
theorem dX1_remember_102 : decode cX1_remember 102 = .ok (.invokestatic 47, 3) := by decide +kernel
theorem dX1_remember_105 : decode cX1_remember 105 = .ok (.aload_n 0, 1) := by decide +kernel
theorem dX1_remember_106 : decode cX1_remember 106 = .ok (.dup, 1) := by decide +kernel
theorem dX1_remember_107 : decode cX1_remember 107 = .ok (.getfield 15, 3) := by decide +kernel
theorem dX1_remember_110 : decode cX1_remember 110 = .ok (.iconst 1, 1) := by decide +kernel
theorem dX1_remember_111 : decode cX1_remember 111 = .ok (.iadd, 1) := by decide +kernel
theorem dX1_remember_112 : decode cX1_remember 112 = .ok (.putfield 15, 3) := by decide +kernel
theorem dX1_remember_115 : decode cX1_remember 115 = .ok (.return_, 1) := by decide +kernel
theorem dX1_learn_0 : decode cX1_learn 0 = .ok (.lconst 0, 1) := by decide +kernel
theorem dX1_learn_1 : decode cX1_learn 1 = .ok (.lstore_n 3, 1) := by decide +kernel
theorem dX1_learn_2 : decode cX1_learn 2 = .ok (.iconst 0, 1) := by decide +kernel
theorem dX1_learn_3 : decode cX1_learn 3 = .ok (.istore 5, 2) := by decide +kernel
theorem dX1_learn_5 : decode cX1_learn 5 = .ok (.iload 5, 2) := by decide +kernel
theorem dX1_learn_7 : decode cX1_learn 7 = .ok (.aload_n 1, 1) := by decide +kernel
theorem dX1_learn_8 : decode cX1_learn 8 = .ok (.getfield 53, 3) := by decide +kernel
theorem dX1_learn_11 : decode cX1_learn 11 = .ok (.if_icmp .ge 72, 3) := by decide +kernel
theorem dX1_learn_14 : decode cX1_learn 14 = .ok (.aload_n 1, 1) := by decide +kernel
theorem dX1_learn_15 : decode cX1_learn 15 = .ok (.getfield 56, 3) := by decide +kernel
theorem dX1_learn_18 : decode cX1_learn 18 = .ok (.iload 5, 2) := by decide +kernel
theorem dX1_learn_20 : decode cX1_learn 20 = .ok (.aaload, 1) := by decide +kernel
theorem dX1_learn_21 : decode cX1_learn 21 = .ok (.astore 6, 2) := by decide +kernel
theorem dX1_learn_23 : decode cX1_learn 23 = .ok (.aload_n 0, 1) := by decide +kernel
theorem dX1_learn_24 : decode cX1_learn 24 = .ok (.getfield 9, 3) := by decide +kernel
theorem dX1_learn_27 : decode cX1_learn 27 = .ok (.aload 6, 2) := by decide +kernel
theorem dX1_learn_29 : decode cX1_learn 29 = .ok (.getfield 57, 3) := by decide +kernel
theorem dX1_learn_32 : decode cX1_learn 32 = .ok (.dup2, 1) := by decide +kernel
theorem dX1_learn_33 : decode cX1_learn 33 = .ok (.iaload, 1) := by decide +kernel
theorem dX1_learn_34 : decode cX1_learn 34 = .ok (.iconst 1, 1) := by decide +kernel
theorem dX1_learn_35 : decode cX1_learn 35 = .ok (.iadd, 1) := by decide +kernel
theorem dX1_learn_36 : decode cX1_learn 36 = .ok (.iastore, 1) := by decide +kernel
theorem dX1_learn_37 : decode cX1_learn 37 = .ok (.lload_n 3, 1) := by decide +kernel
theorem dX1_learn_38 : decode cX1_learn 38 = .ok (.aload 6, 2) := by decide +kernel
theorem dX1_learn_40 : decode cX1_learn 40 = .ok (.getfield 60, 3) := by decide +kernel
theorem dX1_learn_43 : decode cX1_learn 43 = .ok (.lshr, 1) := by decide +kernel
theorem dX1_learn_44 : decode cX1_learn 44 = .ok (.lconst 1, 1) := by decide +kernel
theorem dX1_learn_45 : decode cX1_learn 45 = .ok (.land, 1) := by decide +kernel
theorem dX1_learn_46 : decode cX1_learn 46 = .ok (.lconst 0, 1) := by decide +kernel
theorem dX1_learn_47 : decode cX1_learn 47 = .ok (.lcmp, 1) := by decide +kernel
theorem dX1_learn_48 : decode cX1_learn 48 = .ok (.ifCond .ne 19, 3) := by decide +kernel
theorem dX1_learn_51 : decode cX1_learn 51 = .ok (.aload 6, 2) := by decide +kernel
theorem dX1_learn_53 : decode cX1_learn 53 = .ok (.iconst 0, 1) := by decide +kernel
theorem dX1_learn_54 : decode cX1_learn 54 = .ok (.aload 6, 2) := by decide +kernel
theorem dX1_learn_56 : decode cX1_learn 56 = .ok (.getfield 42, 3) := by decide +kernel
theorem dX1_learn_59 : decode cX1_learn 59 = .ok (.iload_n 2, 1) := by decide +kernel
theorem dX1_learn_60 : decode cX1_learn 60 = .ok (.isub, 1) := by decide +kernel
theorem dX1_learn_61 : decode cX1_learn 61 = .ok (.invokestatic 63, 3) := by decide +kernel
theorem dX1_learn_64 : decode cX1_learn 64 = .ok (.putfield 42, 3) := by decide +kernel
theorem dX1_learn_67 : decode cX1_learn 67 = .ok (.lload_n 3, 1) := by decide +kernel
theorem dX1_learn_68 : decode cX1_learn 68 = .ok (.lconst 1, 1) := by decide +kernel
theorem dX1_learn_69 : decode cX1_learn 69 = .ok (.aload 6, 2) := by decide +kernel
theorem dX1_learn_71 : decode cX1_learn 71 = .ok (.getfield 60, 3) := by decide +kernel
theorem dX1_learn_74 : decode cX1_learn 74 = .ok (.lshl, 1) := by decide +kernel
theorem dX1_learn_75 : decode cX1_learn 75 = .ok (.lor, 1) := by decide +kernel
theorem dX1_learn_76 : decode cX1_learn 76 = .ok (.lstore_n 3, 1) := by decide +kernel
theorem dX1_learn_77 : decode cX1_learn 77 = .ok (.iinc 5 1, 3) := by decide +kernel
theorem dX1_learn_80 : decode cX1_learn 80 = .ok (.goto (-75), 3) := by decide +kernel
theorem dX1_learn_83 : decode cX1_learn 83 = .ok (.return_, 1) := by decide +kernel
theorem dX1_restore_0 : decode cX1_restore 0 = .ok (.aload_n 0, 1) := by decide +kernel
theorem dX1_restore_1 : decode cX1_restore 1 = .ok (.getfield 15, 3) := by decide +kernel
theorem dX1_restore_4 : decode cX1_restore 4 = .ok (.ifCond .ne 5, 3) := by decide +kernel
theorem dX1_restore_7 : decode cX1_restore 7 = .ok (.iconst 0, 1) := by decide +kernel
theorem dX1_restore_8 : decode cX1_restore 8 = .ok (.ireturn, 1) := by decide +kernel
theorem dX1_restore_9 : decode cX1_restore 9 = .ok (.aload_n 0, 1) := by decide +kernel
theorem dX1_restore_10 : decode cX1_restore 10 = .ok (.dup, 1) := by decide +kernel
theorem dX1_restore_11 : decode cX1_restore 11 = .ok (.getfield 15, 3) := by decide +kernel
theorem dX1_restore_14 : decode cX1_restore 14 = .ok (.iconst 1, 1) := by decide +kernel
theorem dX1_restore_15 : decode cX1_restore 15 = .ok (.isub, 1) := by decide +kernel
theorem dX1_restore_16 : decode cX1_restore 16 = .ok (.putfield 15, 3) := by decide +kernel
theorem dX1_restore_19 : decode cX1_restore 19 = .ok (.aload_n 0, 1) := by decide +kernel
theorem dX1_restore_20 : decode cX1_restore 20 = .ok (.getfield 30, 3) := by decide +kernel
theorem dX1_restore_23 : decode cX1_restore 23 = .ok (.aload_n 0, 1) := by decide +kernel
theorem dX1_restore_24 : decode cX1_restore 24 = .ok (.getfield 15, 3) := by decide +kernel
theorem dX1_restore_27 : decode cX1_restore 27 = .ok (.iadd, 1) := by decide +kernel
theorem dX1_restore_28 : decode cX1_restore 28 = .ok (.bipush 30, 2) := by decide +kernel
theorem dX1_restore_30 : decode cX1_restore 30 = .ok (.irem, 1) := by decide +kernel
theorem dX1_restore_31 : decode cX1_restore 31 = .ok (.istore_n 2, 1) := by decide +kernel
theorem dX1_restore_32 : decode cX1_restore 32 = .ok (.iconst 0, 1) := by decide +kernel
theorem dX1_restore_33 : decode cX1_restore 33 = .ok (.istore_n 3, 1) := by decide +kernel
theorem dX1_restore_34 : decode cX1_restore 34 = .ok (.iload_n 3, 1) := by decide +kernel
theorem dX1_restore_35 : decode cX1_restore 35 = .ok (.aload_n 0, 1) := by decide +kernel
theorem dX1_restore_36 : decode cX1_restore 36 = .ok (.getfield 27, 3) := by decide +kernel
theorem dX1_restore_39 : decode cX1_restore 39 = .ok (.iload_n 2, 1) := by decide +kernel
theorem dX1_restore_40 : decode cX1_restore 40 = .ok (.iaload, 1) := by decide +kernel
theorem dX1_restore_41 : decode cX1_restore 41 = .ok (.if_icmp .ge 34, 3) := by decide +kernel
theorem dX1_restore_44 : decode cX1_restore 44 = .ok (.iload_n 3, 1) := by decide +kernel
theorem dX1_restore_45 : decode cX1_restore 45 = .ok (.aload_n 1, 1) := by decide +kernel
theorem dX1_restore_46 : decode cX1_restore 46 = .ok (.getfield 33, 3) := by decide +kernel
theorem dX1_restore_49 : decode cX1_restore 49 = .ok (.if_icmp .ge 26, 3) := by decide +kernel
theorem dX1_restore_52 : decode cX1_restore 52 = .ok (.aload_n 1, 1) := by decide +kernel
theorem dX1_restore_53 : decode cX1_restore 53 = .ok (.getfield 38, 3) := by decide +kernel
theorem dX1_restore_56 : decode cX1_restore 56 = .ok (.iload_n 3, 1) := by decide +kernel
theorem dX1_restore_57 : decode cX1_restore 57 = .ok (.aaload, 1) := by decide +kernel
theorem dX1_restore_58 : decode cX1_restore 58 = .ok (.aload_n 0, 1) := by decide +kernel
theorem dX1_restore_59 : decode cX1_restore 59 = .ok (.getfield 21, 3) := by decide +kernel
theorem dX1_restore_62 : decode cX1_restore 62 = .ok (.iload_n 2, 1) := by decide +kernel
theorem dX1_restore_63 : decode cX1_restore 63 = .ok (.aaload, 1) := by decide +kernel
theorem dX1_restore_64 : decode cX1_restore 64 = .ok (.iload_n 3, 1) := by decide +kernel
theorem dX1_restore_65 : decode cX1_restore 65 = .ok (.iaload, 1) := by decide +kernel
theorem dX1_restore_66 : decode cX1_restore 66 = .ok (.putfield 42, 3) := by decide +kernel
theorem dX1_restore_69 : decode cX1_restore 69 = .ok (.iinc 3 1, 3) := by decide +kernel
theorem dX1_restore_72 : decode cX1_restore 72 = .ok (.goto (-38), 3) := by decide +kernel
theorem dX1_restore_75 : decode cX1_restore 75 = .ok (.aload_n 0, 1) := by decide +kernel
theorem dX1_restore_76 : decode cX1_restore 76 = .ok (.getfield 24, 3) := by decide +kernel
theorem dX1_restore_79 : decode cX1_restore 79 = .ok (.iload_n 2, 1) := by decide +kernel
theorem dX1_restore_80 : decode cX1_restore 80 = .ok (.aaload, 1) := by decide +kernel
theorem dX1_restore_81 : decode cX1_restore 81 = .ok (.iconst 0, 1) := by decide +kernel
theorem dX1_restore_82 : decode cX1_restore 82 = .ok (.aload_n 0, 1) := by decide +kernel
theorem dX1_restore_83 : decode cX1_restore 83 = .ok (.getfield 9, 3) := by decide +kernel
theorem dX1_restore_86 : decode cX1_restore 86 = .ok (.iconst 0, 1) := by decide +kernel
theorem dX1_restore_87 : decode cX1_restore 87 = .ok (.bipush 20, 2) := by decide +kernel
theorem dX1_restore_89 : decode cX1_restore 89 = .ok (.invokestatic 47, 3) := by decide +kernel
theorem dX1_restore_92 : decode cX1_restore 92 = .ok (.iconst 1, 1) := by decide +kernel
theorem dX1_restore_93 : decode cX1_restore 93 = .ok (.ireturn, 1) := by decide +kernel
theorem dX2_init_0 : decode cX2_init 0 = .ok (.aload_n 0, 1) := by decide +kernel
theorem dX2_init_1 : decode cX2_init 1 = .ok (.invokespecial 3, 3) := by decide +kernel
theorem dX2_init_4 : decode cX2_init 4 = .ok (.aload_n 0, 1) := by decide +kernel
theorem dX2_init_5 : decode cX2_init 5 = .ok (.iconst (-1), 1) := by decide +kernel
theorem dX2_init_6 : decode cX2_init 6 = .ok (.putfield 9, 3) := by decide +kernel
theorem dX2_init_9 : decode cX2_init 9 = .ok (.aload_n 0, 1) := by decide +kernel
theorem dX2_init_10 : decode cX2_init 10 = .ok (.iconst 0, 1) := by decide +kernel
theorem dX2_init_11 : decode cX2_init 11 = .ok (.putfield 15, 3) := by decide +kernel
theorem dX2_init_14 : decode cX2_init 14 = .ok (.aload_n 0, 1) := by decide +kernel
theorem dX2_init_15 : decode cX2_init 15 = .ok (.iconst 0, 1) := by decide +kernel
theorem dX2_init_16 : decode cX2_init 16 = .ok (.putfield 18, 3) := by decide +kernel
theorem dX2_init_19 : decode cX2_init 19 = .ok (.aload_n 0, 1) := by decide +kernel
theorem dX2_init_20 : decode cX2_init 20 = .ok (.aload_n 1, 1) := by decide +kernel
theorem dX2_init_21 : decode cX2_init 21 = .ok (.getfield 21, 3) := by decide +kernel
theorem dX2_init_24 : decode cX2_init 24 = .ok (.aload_n 1, 1) := by decide +kernel
theorem dX2_init_25 : decode cX2_init 25 = .ok (.getfield 27, 3) := by decide +kernel
theorem dX2_init_28 : decode cX2_init 28 = .ok (.invokestatic 30, 3) := by decide +kernel
theorem dX2_init_31 : decode cX2_init 31 = .ok (.putfield 36, 3) := by decide +kernel
theorem dX2_init_34 : decode cX2_init 34 = .ok (.aload_n 0, 1) := by decide +kernel
theorem dX2_init_35 : decode cX2_init 35 = .ok (.iload_n 2, 1) := by decide +kernel
theorem dX2_init_36 : decode cX2_init 36 = .ok (.putfield 39, 3) := by decide +kernel
theorem dX2_init_39 : decode cX2_init 39 = .ok (.aload_n 0, 1) := by decide +kernel
theorem dX2_init_40 : decode cX2_init 40 = .ok (.iload_n 3, 1) := by decide +kernel
theorem dX2_init_41 : decode cX2_init 41 = .ok (.putfield 42, 3) := by decide +kernel
theorem dX2_init_44 : decode cX2_init 44 = .ok (.aload_n 0, 1) := by decide +kernel
theorem dX2_init_45 : decode cX2_init 45 = .ok (.iload 4, 2) := by decide +kernel
theorem dX2_init_47 : decode cX2_init 47 = .ok (.putfield 45, 3) := by decide +kernel
theorem dX2_init_50 : decode cX2_init 50 = .ok (.aload_n 0, 1) := by decide +kernel
theorem dX2_init_51 : decode cX2_init 51 = .ok (.iload 5, 2) := by decide +kernel
theorem dX2_init_53 : decode cX2_init 53 = .ok (.putfield 48, 3) := by decide +kernel
theorem dX2_init_56 : decode cX2_init 56 = .ok (.return_, 1) := by decide +kernel
theorem dX5_init_0 : decode cX5_init 0 = .ok (.aload_n 0, 1) := by decide +kernel
theorem dX5_init_1 : decode cX5_init 1 = .ok (.invokespecial 1, 3) := by decide +kernel
theorem dX5_init_4 : decode cX5_init 4 = .ok (.aload_n 0, 1) := by decide +kernel
theorem dX5_init_5 : decode cX5_init 5 = .ok (.new 7, 3) := by decide +kernel
theorem dX5_init_8 : decode cX5_init 8 = .ok (.dup, 1) := by decide +kernel
theorem dX5_init_9 : decode cX5_init 9 = .ok (.invokespecial 9, 3) := by decide +kernel
theorem dX5_init_12 : decode cX5_init 12 = .ok (.putfield 10, 3) := by decide +kernel
theorem dX5_init_15 : decode cX5_init 15 = .ok (.aload_n 0, 1) := by decide +kernel
theorem dX5_init_16 : decode cX5_init 16 = .ok (.iconst 0, 1) := by decide +kernel
theorem dX5_init_17 : decode cX5_init 17 = .ok (.putfield 16, 3) := by decide +kernel
theorem dX5_init_20 : decode cX5_init 20 = .ok (.aload_n 0, 1) := by decide +kernel
theorem dX5_init_21 : decode cX5_init 21 = .ok (.iconst 0, 1) := by decide +kernel
theorem dX5_init_22 : decode cX5_init 22 = .ok (.putfield 20, 3) := by decide +kernel
theorem dX5_init_25 : decode cX5_init 25 = .ok (.aload_n 0, 1) := by decide +kernel
theorem dX5_init_26 : decode cX5_init 26 = .ok (.iconst 0, 1) := by decide +kernel
theorem dX5_init_27 : decode cX5_init 27 = .ok (.putfield 23, 3) := by decide +kernel
theorem dX5_init_30 : decode cX5_init 30 = .ok (.aload_n 0, 1) := by decide +kernel
theorem dX5_init_31 : decode cX5_init 31 = .ok (.iconst 0, 1) := by decide +kernel
theorem dX5_init_32 : decode cX5_init 32 = .ok (.putfield 26, 3) := by decide +kernel
theorem dX5_init_35 : decode cX5_init 35 = .ok (.aload_n 0, 1) := by decide +kernel
theorem dX5_init_36 : decode cX5_init 36 = .ok (.iconst 0, 1) := by decide +kernel
theorem dX5_init_37 : decode cX5_init 37 = .ok (.putfield 30, 3) := by decide +kernel
theorem dX5_init_40 : decode cX5_init 40 = .ok (.return_, 1) := by decide +kernel
theorem dX6_init_0 : decode cX6_init 0 = .ok (.aload_n 0, 1) := by decide +kernel
theorem dX6_init_1 : decode cX6_init 1 = .ok (.invokespecial 3, 3) := by decide +kernel
theorem dX6_init_4 : decode cX6_init 4 = .ok (.aload_n 0, 1) := by decide +kernel
theorem dX6_init_5 : decode cX6_init 5 = .ok (.new 9, 3) := by decide +kernel
theorem dX6_init_8 : decode cX6_init 8 = .ok (.dup, 1) := by decide +kernel
theorem dX6_init_9 : decode cX6_init 9 = .ok (.invokespecial 11, 3) := by decide +kernel
theorem dX6_init_12 : decode cX6_init 12 = .ok (.putfield 12, 3) := by decide +kernel
theorem dX6_init_15 : decode cX6_init 15 = .ok (.aload_n 0, 1) := by decide +kernel
theorem dX6_init_16 : decode cX6_init 16 = .ok (.sipush 480, 3) := by decide +kernel
theorem dX6_init_19 : decode cX6_init 19 = .ok (.newarray .byte, 2) := by decide +kernel
theorem dX6_init_21 : decode cX6_init 21 = .ok (.putfield 18, 3) := by decide +kernel
theorem dX6_init_24 : decode cX6_init 24 = .ok (.aload_n 0, 1) := by decide +kernel
theorem dX6_init_25 : decode cX6_init 25 = .ok (.iconst 0, 1) := by decide +kernel
theorem dX6_init_26 : decode cX6_init 26 = .ok (.putfield 22, 3) := by decide +kernel
theorem dX6_init_29 : decode cX6_init 29 = .ok (.aload_n 0, 1) := by decide +kernel
theorem dX6_init_30 : decode cX6_init 30 = .ok (.iconst 0, 1) := by decide +kernel
theorem dX6_init_31 : decode cX6_init 31 = .ok (.putfield 26, 3) := by decide +kernel
theorem dX6_init_34 : decode cX6_init 34 = .ok (.return_, 1) := by decide +kernel
theorem dX6_join_0 : decode cX6_join 0 = .ok (.aload_n 0, 1) := by decide +kernel
theorem dX6_join_1 : decode cX6_join 1 = .ok (.iconst 0, 1) := by decide +kernel
theorem dX6_join_2 : decode cX6_join 2 = .ok (.putfield 26, 3) := by decide +kernel
theorem dX6_join_5 : decode cX6_join 5 = .ok (.iconst 0, 1) := by decide +kernel
theorem dX6_join_6 : decode cX6_join 6 = .ok (.istore_n 1, 1) := by decide +kernel
theorem dX6_join_7 : decode cX6_join 7 = .ok (.iload_n 1, 1) := by decide +kernel
theorem dX6_join_8 : decode cX6_join 8 = .ok (.aload_n 0, 1) := by decide +kernel
theorem dX6_join_9 : decode cX6_join 9 = .ok (.getfield 12, 3) := by decide +kernel
theorem dX6_join_12 : decode cX6_join 12 = .ok (.getfield 29, 3) := by decide +kernel
theorem dX6_join_15 : decode cX6_join 15 = .ok (.if_icmp .ge 77, 3) := by decide +kernel
theorem dX6_join_18 : decode cX6_join 18 = .ok (.aload_n 0, 1) := by decide +kernel
theorem dX6_join_19 : decode cX6_join 19 = .ok (.getfield 12, 3) := by decide +kernel
theorem dX6_join_22 : decode cX6_join 22 = .ok (.getfield 32, 3) := by decide +kernel
theorem dX6_join_25 : decode cX6_join 25 = .ok (.iload_n 1, 1) := by decide +kernel
theorem dX6_join_26 : decode cX6_join 26 = .ok (.aaload, 1) := by decide +kernel
theorem dX6_join_27 : decode cX6_join 27 = .ok (.astore_n 2, 1) := by decide +kernel
theorem dX6_join_28 : decode cX6_join 28 = .ok (.aload_n 2, 1) := by decide +kernel
theorem dX6_join_29 : decode cX6_join 29 = .ok (.ifnull 20, 3) := by decide +kernel
theorem dX6_join_32 : decode cX6_join 32 = .ok (.aload_n 0, 1) := by decide +kernel
theorem dX6_join_33 : decode cX6_join 33 = .ok (.aload_n 2, 1) := by decide +kernel
theorem dX6_join_34 : decode cX6_join 34 = .ok (.getfield 36, 3) := by decide +kernel
theorem dX6_join_37 : decode cX6_join 37 = .ok (.aload_n 2, 1) := by decide +kernel
theorem dX6_join_38 : decode cX6_join 38 = .ok (.getfield 41, 3) := by decide +kernel
theorem dX6_join_41 : decode cX6_join 41 = .ok (.aload_n 2, 1) := by decide +kernel
theorem dX6_join_42 : decode cX6_join 42 = .ok (.getfield 36, 3) := by decide +kernel
theorem dX6_join_45 : decode cX6_join 45 = .ok (.arraylength, 1) := by decide +kernel
theorem dX6_join_46 : decode cX6_join 46 = .ok (.invokevirtual 44, 3) := by decide +kernel
theorem dX6_join_49 : decode cX6_join 49 = .ok (.aload_n 0, 1) := by decide +kernel
theorem dX6_join_50 : decode cX6_join 50 = .ok (.getfield 12, 3) := by decide +kernel
theorem dX6_join_53 : decode cX6_join 53 = .ok (.getfield 48, 3) := by decide +kernel
theorem dX6_join_56 : decode cX6_join 56 = .ok (.iload_n 1, 1) := by decide +kernel
theorem dX6_join_57 : decode cX6_join 57 = .ok (.aaload, 1) := by decide +kernel
theorem dX6_join_58 : decode cX6_join 58 = .ok (.getfield 52, 3) := by decide +kernel
theorem dX6_join_61 : decode cX6_join 61 = .ok (.astore_n 3, 1) := by decide +kernel
theorem dX6_join_62 : decode cX6_join 62 = .ok (.aload_n 0, 1) := by decide +kernel
theorem dX6_join_63 : decode cX6_join 63 = .ok (.aload_n 3, 1) := by decide +kernel
theorem dX6_join_64 : decode cX6_join 64 = .ok (.aload_n 0, 1) := by decide +kernel
theorem dX6_join_65 : decode cX6_join 65 = .ok (.getfield 12, 3) := by decide +kernel
theorem dX6_join_68 : decode cX6_join 68 = .ok (.iload_n 1, 1) := by decide +kernel
theorem dX6_join_69 : decode cX6_join 69 = .ok (.invokevirtual 55, 3) := by decide +kernel
theorem dX6_join_72 : decode cX6_join 72 = .ok (.aload_n 3, 1) := by decide +kernel
theorem dX6_join_73 : decode cX6_join 73 = .ok (.arraylength, 1) := by decide +kernel
theorem dX6_join_74 : decode cX6_join 74 = .ok (.aload_n 0, 1) := by decide +kernel
theorem dX6_join_75 : decode cX6_join 75 = .ok (.getfield 12, 3) := by decide +kernel
theorem dX6_join_78 : decode cX6_join 78 = .ok (.iload_n 1, 1) := by decide +kernel
theorem dX6_join_79 : decode cX6_join 79 = .ok (.invokevirtual 59, 3) := by decide +kernel
theorem dX6_join_82 : decode cX6_join 82 = .ok (.isub, 1) := by decide +kernel
theorem dX6_join_83 : decode cX6_join 83 = .ok (.invokevirtual 44, 3) := by decide +kernel
theorem dX6_join_86 : decode cX6_join 86 = .ok (.iinc 1 1, 3) := by decide +kernel
theorem dX6_join_89 : decode cX6_join 89 = .ok (.goto (-82), 3) := by decide +kernel
theorem dX6_join_92 : decode cX6_join 92 = .ok (.return_, 1) := by decide +kernel
theorem dX6_write_0 : decode cX6_write 0 = .ok (.iload_n 2, 1) := by decide +kernel
theorem dX6_write_1 : decode cX6_write 1 = .ok (.istore 4, 2) := by decide +kernel
theorem dX6_write_3 : decode cX6_write 3 = .ok (.iload 4, 2) := by decide +kernel
theorem dX6_write_5 : decode cX6_write 5 = .ok (.iload_n 3, 1) := by decide +kernel
theorem dX6_write_6 : decode cX6_write 6 = .ok (.if_icmp .ge 42, 3) := by decide +kernel
theorem dX6_write_9 : decode cX6_write 9 = .ok (.aload_n 0, 1) := by decide +kernel
theorem dX6_write_10 : decode cX6_write 10 = .ok (.getfield 26, 3) := by decide +kernel
theorem dX6_write_13 : decode cX6_write 13 = .ok (.sipush 480, 3) := by decide +kernel
theorem dX6_write_16 : decode cX6_write 16 = .ok (.if_icmp .ge 32, 3) := by decide +kernel
theorem dX6_write_19 : decode cX6_write 19 = .ok (.aload_n 0, 1) := by decide +kernel
theorem dX6_write_20 : decode cX6_write 20 = .ok (.getfield 18, 3) := by decide +kernel
theorem dX6_write_23 : decode cX6_write 23 = .ok (.aload_n 0, 1) := by decide +kernel
theorem dX6_write_24 : decode cX6_write 24 = .ok (.getfield 26, 3) := by decide +kernel
theorem dX6_write_27 : decode cX6_write 27 = .ok (.aload_n 1, 1) := by decide +kernel
theorem dX6_write_28 : decode cX6_write 28 = .ok (.iload 4, 2) := by decide +kernel
theorem dX6_write_30 : decode cX6_write 30 = .ok (.baload, 1) := by decide +kernel
theorem dX6_write_31 : decode cX6_write 31 = .ok (.bastore, 1) := by decide +kernel
theorem dX6_write_32 : decode cX6_write 32 = .ok (.aload_n 0, 1) := by decide +kernel
theorem dX6_write_33 : decode cX6_write 33 = .ok (.dup, 1) := by decide +kernel
theorem dX6_write_34 : decode cX6_write 34 = .ok (.getfield 26, 3) := by decide +kernel
theorem dX6_write_37 : decode cX6_write 37 = .ok (.iconst 1, 1) := by decide +kernel
theorem dX6_write_38 : decode cX6_write 38 = .ok (.iadd, 1) := by decide +kernel
theorem dX6_write_39 : decode cX6_write 39 = .ok (.putfield 26, 3) := by decide +kernel
theorem dX6_write_42 : decode cX6_write 42 = .ok (.iinc 4 1, 3) := by decide +kernel
theorem dX6_write_45 : decode cX6_write 45 = .ok (.goto (-42), 3) := by decide +kernel
theorem dX6_write_48 : decode cX6_write 48 = .ok (.return_, 1) := by decide +kernel
theorem dX7_init_0 : decode cX7_init 0 = .ok (.aload_n 0, 1) := by decide +kernel
theorem dX7_init_1 : decode cX7_init 1 = .ok (.invokespecial 3, 3) := by decide +kernel
theorem dX7_init_4 : decode cX7_init 4 = .ok (.aload_n 0, 1) := by decide +kernel
theorem dX7_init_5 : decode cX7_init 5 = .ok (.iconst (-1), 1) := by decide +kernel
theorem dX7_init_6 : decode cX7_init 6 = .ok (.putfield 9, 3) := by decide +kernel
theorem dX7_init_9 : decode cX7_init 9 = .ok (.aload_n 0, 1) := by decide +kernel
theorem dX7_init_10 : decode cX7_init 10 = .ok (.aload_n 1, 1) := by decide +kernel
theorem dX7_init_11 : decode cX7_init 11 = .ok (.getfield 15, 3) := by decide +kernel
theorem dX7_init_14 : decode cX7_init 14 = .ok (.aload_n 1, 1) := by decide +kernel
theorem dX7_init_15 : decode cX7_init 15 = .ok (.getfield 21, 3) := by decide +kernel
theorem dX7_init_18 : decode cX7_init 18 = .ok (.invokestatic 24, 3) := by decide +kernel
theorem dX7_init_21 : decode cX7_init 21 = .ok (.putfield 30, 3) := by decide +kernel
theorem dX7_init_24 : decode cX7_init 24 = .ok (.aload_n 0, 1) := by decide +kernel
theorem dX7_init_25 : decode cX7_init 25 = .ok (.iload_n 2, 1) := by decide +kernel
theorem dX7_init_26 : decode cX7_init 26 = .ok (.putfield 33, 3) := by decide +kernel
theorem dX7_init_29 : decode cX7_init 29 = .ok (.aload_n 0, 1) := by decide +kernel
theorem dX7_init_30 : decode cX7_init 30 = .ok (.iload_n 3, 1) := by decide +kernel
theorem dX7_init_31 : decode cX7_init 31 = .ok (.putfield 36, 3) := by decide +kernel
theorem dX7_init_34 : decode cX7_init 34 = .ok (.aload_n 0, 1) := by decide +kernel
theorem dX7_init_35 : decode cX7_init 35 = .ok (.iload_n 2, 1) := by decide +kernel
theorem dX7_init_36 : decode cX7_init 36 = .ok (.iload_n 3, 1) := by decide +kernel
theorem dX7_init_37 : decode cX7_init 37 = .ok (.iadd, 1) := by decide +kernel
theorem dX7_init_38 : decode cX7_init 38 = .ok (.putfield 39, 3) := by decide +kernel
theorem dX7_init_41 : decode cX7_init 41 = .ok (.aload_n 0, 1) := by decide +kernel
theorem dX7_init_42 : decode cX7_init 42 = .ok (.aload_n 1, 1) := by decide +kernel
theorem dX7_init_43 : decode cX7_init 43 = .ok (.getfield 21, 3) := by decide +kernel
theorem dX7_init_46 : decode cX7_init 46 = .ok (.aload_n 0, 1) := by decide +kernel
theorem dX7_init_47 : decode cX7_init 47 = .ok (.getfield 39, 3) := by decide +kernel
theorem dX7_init_50 : decode cX7_init 50 = .ok (.isub, 1) := by decide +kernel
theorem dX7_init_51 : decode cX7_init 51 = .ok (.putfield 42, 3) := by decide +kernel
theorem dX7_init_54 : decode cX7_init 54 = .ok (.aload_n 0, 1) := by decide +kernel
theorem dX7_init_55 : decode cX7_init 55 = .ok (.iload 4, 2) := by decide +kernel
theorem dX7_init_57 : decode cX7_init 57 = .ok (.putfield 45, 3) := by decide +kernel
theorem dX7_init_60 : decode cX7_init 60 = .ok (.aload_n 0, 1) := by decide +kernel
theorem dX7_init_61 : decode cX7_init 61 = .ok (.iload 5, 2) := by decide +kernel
theorem dX7_init_63 : decode cX7_init 63 = .ok (.putfield 48, 3) := by decide +kernel
theorem dX7_init_66 : decode cX7_init 66 = .ok (.aload_n 0, 1) := by decide +kernel
theorem dX7_init_67 : decode cX7_init 67 = .ok (.iload 6, 2) := by decide +kernel
theorem dX7_init_69 : decode cX7_init 69 = .ok (.putfield 51, 3) := by decide +kernel
theorem dX7_init_72 : decode cX7_init 72 = .ok (.return_, 1) := by decide +kernel
theorem dX7_isEndOf_0 : decode cX7_isEndOf 0 = .ok (.aload_n 1, 1) := by decide +kernel
theorem dX7_isEndOf_1 : decode cX7_isEndOf 1 = .ok (.getfield 54, 3) := by decide +kernel
theorem dX7_isEndOf_4 : decode cX7_isEndOf 4 = .ok (.arraylength, 1) := by decide +kernel
theorem dX7_isEndOf_5 : decode cX7_isEndOf 5 = .ok (.aload_n 0, 1) := by decide +kernel
theorem dX7_isEndOf_6 : decode cX7_isEndOf 6 = .ok (.getfield 33, 3) := by decide +kernel
theorem dX7_isEndOf_9 : decode cX7_isEndOf 9 = .ok (.isub, 1) := by decide +kernel
theorem dX7_isEndOf_10 : decode cX7_isEndOf 10 = .ok (.istore_n 2, 1) := by decide +kernel
theorem dX7_isEndOf_11 : decode cX7_isEndOf 11 = .ok (.iload_n 2, 1) := by decide +kernel
theorem dX7_isEndOf_12 : decode cX7_isEndOf 12 = .ok (.ifCond .lt 29, 3) := by decide +kernel
theorem dX7_isEndOf_15 : decode cX7_isEndOf 15 = .ok (.aload_n 0, 1) := by decide +kernel
theorem dX7_isEndOf_16 : decode cX7_isEndOf 16 = .ok (.iconst 0, 1) := by decide +kernel
theorem dX7_isEndOf_17 : decode cX7_isEndOf 17 = .ok (.aload_n 0, 1) := by decide +kernel
theorem dX7_isEndOf_18 : decode cX7_isEndOf 18 = .ok (.getfield 33, 3) := by decide +kernel
theorem dX7_isEndOf_21 : decode cX7_isEndOf 21 = .ok (.aload_n 1, 1) := by decide +kernel
theorem dX7_isEndOf_22 : decode cX7_isEndOf 22 = .ok (.getfield 54, 3) := by decide +kernel
theorem dX7_isEndOf_25 : decode cX7_isEndOf 25 = .ok (.aload_n 1, 1) := by decide +kernel
theorem dX7_isEndOf_26 : decode cX7_isEndOf 26 = .ok (.getfield 54, 3) := by decide +kernel
theorem dX7_isEndOf_29 : decode cX7_isEndOf 29 = .ok (.arraylength, 1) := by decide +kernel
theorem dX7_isEndOf_30 : decode cX7_isEndOf 30 = .ok (.iload_n 2, 1) := by decide +kernel
theorem dX7_isEndOf_31 : decode cX7_isEndOf 31 = .ok (.invokevirtual 57, 3) := by decide +kernel
theorem dX7_isEndOf_34 : decode cX7_isEndOf 34 = .ok (.ifCond .eq 7, 3) := by decide +kernel
theorem dX7_isEndOf_37 : decode cX7_isEndOf 37 = .ok (.iconst 1, 1) := by decide +kernel
theorem dX7_isEndOf_38 : decode cX7_isEndOf 38 = .ok (.goto 4, 3) := by decide +kernel
theorem dX7_isEndOf_41 : decode cX7_isEndOf 41 = .ok (.iconst 0, 1) := by decide +kernel
theorem dX7_isEndOf_42 : decode cX7_isEndOf 42 = .ok (.ireturn, 1) := by decide +kernel
theorem dX7_isBeginningOf_0 : decode cX7_isBeginningOf 0 = .ok (.aload_n 0, 1) := by decide +kernel
theorem dX7_isBeginningOf_1 : decode cX7_isBeginningOf 1 = .ok (.aload_n 0, 1) := by decide +kernel
theorem dX7_isBeginningOf_2 : decode cX7_isBeginningOf 2 = .ok (.getfield 33, 3) := by decide +kernel
theorem dX7_isBeginningOf_5 : decode cX7_isBeginningOf 5 = .ok (.aload_n 0, 1) := by decide +kernel
theorem dX7_isBeginningOf_6 : decode cX7_isBeginningOf 6 = .ok (.getfield 36, 3) := by decide +kernel
theorem dX7_isBeginningOf_9 : decode cX7_isBeginningOf 9 = .ok (.aload_n 1, 1) := by decide +kernel
theorem dX7_isBeginningOf_10 : decode cX7_isBeginningOf 10 = .ok (.getfield 54, 3) := by decide +kernel
theorem dX7_isBeginningOf_13 : decode cX7_isBeginningOf 13 = .ok (.aload_n 1, 1) := by decide +kernel
theorem dX7_isBeginningOf_14 : decode cX7_isBeginningOf 14 = .ok (.getfield 54, 3) := by decide +kernel
theorem dX7_isBeginningOf_17 : decode cX7_isBeginningOf 17 = .ok (.arraylength, 1) := by decide +kernel
theorem dX7_isBeginningOf_18 : decode cX7_isBeginningOf 18 = .ok (.iconst 0, 1) := by decide +kernel
theorem dX7_isBeginningOf_19 : decode cX7_isBeginningOf 19 = .ok (.invokevirtual 57, 3) := by decide +kernel
theorem dX7_isBeginningOf_22 : decode cX7_isBeginningOf 22 = .ok (.ireturn, 1) := by decide +kernel
theorem dX7_stands_0 : decode cX7_stands 0 = .ok (.iload_n 2, 1) := by decide +kernel
theorem dX7_stands_1 : decode cX7_stands 1 = .ok (.iload 4, 2) := by decide +kernel
theorem dX7_stands_3 : decode cX7_stands 3 = .ok (.iload 5, 2) := by decide +kernel
theorem dX7_stands_5 : decode cX7_stands 5 = .ok (.isub, 1) := by decide +kernel
theorem dX7_stands_6 : decode cX7_stands 6 = .ok (.if_icmp .le 5, 3) := by decide +kernel
theorem dX7_stands_9 : decode cX7_stands 9 = .ok (.iconst 0, 1) := by decide +kernel
theorem dX7_stands_10 : decode cX7_stands 10 = .ok (.ireturn, 1) := by decide +kernel
theorem dX7_stands_11 : decode cX7_stands 11 = .ok (.iconst 0, 1) := by decide +kernel
theorem dX7_stands_12 : decode cX7_stands 12 = .ok (.istore 6, 2) := by decide +kernel
theorem dX7_stands_14 : decode cX7_stands 14 = .ok (.iload 6, 2) := by decide +kernel
theorem dX7_stands_16 : decode cX7_stands 16 = .ok (.iload_n 2, 1) := by decide +kernel
theorem dX7_stands_17 : decode cX7_stands 17 = .ok (.if_icmp .ge 30, 3) := by decide +kernel
theorem dX7_stands_20 : decode cX7_stands 20 = .ok (.aload_n 0, 1) := by decide +kernel
theorem dX7_stands_21 : decode cX7_stands 21 = .ok (.getfield 30, 3) := by decide +kernel
theorem dX7_stands_24 : decode cX7_stands 24 = .ok (.iload_n 1, 1) := by decide +kernel
theorem dX7_stands_25 : decode cX7_stands 25 = .ok (.iload 6, 2) := by decide +kernel
theorem dX7_stands_27 : decode cX7_stands 27 = .ok (.iadd, 1) := by decide +kernel
theorem dX7_stands_28 : decode cX7_stands 28 = .ok (.baload, 1) := by decide +kernel
theorem dX7_stands_29 : decode cX7_stands 29 = .ok (.aload_n 3, 1) := by decide +kernel
theorem dX7_stands_30 : decode cX7_stands 30 = .ok (.iload 5, 2) := by decide +kernel
theorem dX7_stands_32 : decode cX7_stands 32 = .ok (.iload 6, 2) := by decide +kernel
theorem dX7_stands_34 : decode cX7_stands 34 = .ok (.iadd, 1) := by decide +kernel
theorem dX7_stands_35 : decode cX7_stands 35 = .ok (.baload, 1) := by decide +kernel
theorem dX7_stands_36 : decode cX7_stands 36 = .ok (.if_icmp .eq 5, 3) := by decide +kernel
theorem dX7_stands_39 : decode cX7_stands 39 = .ok (.iconst 0, 1) := by decide +kernel
theorem dX7_stands_40 : decode cX7_stands 40 = .ok (.ireturn, 1) := by decide +kernel
theorem dX7_stands_41 : decode cX7_stands 41 = .ok (.iinc 6 1, 3) := by decide +kernel
theorem dX7_stands_44 : decode cX7_stands 44 = .ok (.goto (-30), 3) := by decide +kernel
theorem dX7_stands_47 : decode cX7_stands 47 = .ok (.iconst 1, 1) := by decide +kernel
theorem dX7_stands_48 : decode cX7_stands 48 = .ok (.ireturn, 1) := by decide +kernel
theorem dX8_init_0 : decode cX8_init 0 = .ok (.aload_n 0, 1) := by decide +kernel
theorem dX8_init_1 : decode cX8_init 1 = .ok (.invokespecial 3, 3) := by decide +kernel
theorem dX8_init_4 : decode cX8_init 4 = .ok (.aload_n 0, 1) := by decide +kernel
theorem dX8_init_5 : decode cX8_init 5 = .ok (.bipush 60, 2) := by decide +kernel
theorem dX8_init_7 : decode cX8_init 7 = .ok (.newarray .byte, 2) := by decide +kernel
theorem dX8_init_9 : decode cX8_init 9 = .ok (.putfield 9, 3) := by decide +kernel
theorem dX8_init_12 : decode cX8_init 12 = .ok (.aload_n 0, 1) := by decide +kernel
theorem dX8_init_13 : decode cX8_init 13 = .ok (.iconst 0, 1) := by decide +kernel
theorem dX8_init_14 : decode cX8_init 14 = .ok (.putfield 15, 3) := by decide +kernel
theorem dX8_init_17 : decode cX8_init 17 = .ok (.return_, 1) := by decide +kernel
theorem dX8_hasRoomFor_0 : decode cX8_hasRoomFor 0 = .ok (.iload_n 1, 1) := by decide +kernel
theorem dX8_hasRoomFor_1 : decode cX8_hasRoomFor 1 = .ok (.bipush 60, 2) := by decide +kernel
theorem dX8_hasRoomFor_3 : decode cX8_hasRoomFor 3 = .ok (.aload_n 0, 1) := by decide +kernel
theorem dX8_hasRoomFor_4 : decode cX8_hasRoomFor 4 = .ok (.getfield 15, 3) := by decide +kernel
theorem dX8_hasRoomFor_7 : decode cX8_hasRoomFor 7 = .ok (.isub, 1) := by decide +kernel
theorem dX8_hasRoomFor_8 : decode cX8_hasRoomFor 8 = .ok (.if_icmp .gt 7, 3) := by decide +kernel
theorem dX8_hasRoomFor_11 : decode cX8_hasRoomFor 11 = .ok (.iconst 1, 1) := by decide +kernel
theorem dX8_hasRoomFor_12 : decode cX8_hasRoomFor 12 = .ok (.goto 4, 3) := by decide +kernel
theorem dX8_hasRoomFor_15 : decode cX8_hasRoomFor 15 = .ok (.iconst 0, 1) := by decide +kernel
theorem dX8_hasRoomFor_16 : decode cX8_hasRoomFor 16 = .ok (.ireturn, 1) := by decide +kernel
theorem dX8_addByte_0 : decode cX8_addByte 0 = .ok (.aload_n 0, 1) := by decide +kernel
theorem dX8_addByte_1 : decode cX8_addByte 1 = .ok (.getfield 15, 3) := by decide +kernel
theorem dX8_addByte_4 : decode cX8_addByte 4 = .ok (.bipush 60, 2) := by decide +kernel
theorem dX8_addByte_6 : decode cX8_addByte 6 = .ok (.if_icmp .ge 24, 3) := by decide +kernel
theorem dX8_addByte_9 : decode cX8_addByte 9 = .ok (.aload_n 0, 1) := by decide +kernel
theorem dX8_addByte_10 : decode cX8_addByte 10 = .ok (.getfield 9, 3) := by decide +kernel
theorem dX8_addByte_13 : decode cX8_addByte 13 = .ok (.aload_n 0, 1) := by decide +kernel
theorem dX8_addByte_14 : decode cX8_addByte 14 = .ok (.getfield 15, 3) := by decide +kernel
theorem dX8_addByte_17 : decode cX8_addByte 17 = .ok (.iload_n 1, 1) := by decide +kernel
theorem dX8_addByte_18 : decode cX8_addByte 18 = .ok (.i2b, 1) := by decide +kernel
theorem dX8_addByte_19 : decode cX8_addByte 19 = .ok (.bastore, 1) := by decide +kernel
theorem dX8_addByte_20 : decode cX8_addByte 20 = .ok (.aload_n 0, 1) := by decide +kernel
theorem dX8_addByte_21 : decode cX8_addByte 21 = .ok (.dup, 1) := by decide +kernel
theorem dX8_addByte_22 : decode cX8_addByte 22 = .ok (.getfield 15, 3) := by decide +kernel
theorem dX8_addByte_25 : decode cX8_addByte 25 = .ok (.iconst 1, 1) := by decide +kernel
theorem dX8_addByte_26 : decode cX8_addByte 26 = .ok (.iadd, 1) := by decide +kernel
theorem dX8_addByte_27 : decode cX8_addByte 27 = .ok (.putfield 15, 3) := by decide +kernel
theorem dX8_addByte_30 : decode cX8_addByte 30 = .ok (.return_, 1) := by decide +kernel
theorem dX8_addNumber_0 : decode cX8_addNumber 0 = .ok (.bipush 24, 2) := by decide +kernel
theorem dX8_addNumber_2 : decode cX8_addNumber 2 = .ok (.istore_n 2, 1) := by decide +kernel
theorem dX8_addNumber_3 : decode cX8_addNumber 3 = .ok (.iload_n 2, 1) := by decide +kernel
theorem dX8_addNumber_4 : decode cX8_addNumber 4 = .ok (.ifCond .lt 16, 3) := by decide +kernel
theorem dX8_addNumber_7 : decode cX8_addNumber 7 = .ok (.aload_n 0, 1) := by decide +kernel
theorem dX8_addNumber_8 : decode cX8_addNumber 8 = .ok (.iload_n 1, 1) := by decide +kernel
theorem dX8_addNumber_9 : decode cX8_addNumber 9 = .ok (.iload_n 2, 1) := by decide +kernel
theorem dX8_addNumber_10 : decode cX8_addNumber 10 = .ok (.ishr, 1) := by decide +kernel
theorem dX8_addNumber_11 : decode cX8_addNumber 11 = .ok (.invokevirtual 19, 3) := by decide +kernel
theorem dX8_addNumber_14 : decode cX8_addNumber 14 = .ok (.iinc 2 (-8), 3) := by decide +kernel
theorem dX8_addNumber_17 : decode cX8_addNumber 17 = .ok (.goto (-14), 3) := by decide +kernel
theorem dX8_addNumber_20 : decode cX8_addNumber 20 = .ok (.return_, 1) := by decide +kernel
theorem dX8_hasOnlyLetters_0 : decode cX8_hasOnlyLetters 0 = .ok (.iconst 0, 1) := by decide +kernel
theorem dX8_hasOnlyLetters_1 : decode cX8_hasOnlyLetters 1 = .ok (.istore_n 1, 1) := by decide +kernel
theorem dX8_hasOnlyLetters_2 : decode cX8_hasOnlyLetters 2 = .ok (.iload_n 1, 1) := by decide +kernel
theorem dX8_hasOnlyLetters_3 : decode cX8_hasOnlyLetters 3 = .ok (.aload_n 0, 1) := by decide +kernel
theorem dX8_hasOnlyLetters_4 : decode cX8_hasOnlyLetters 4 = .ok (.getfield 15, 3) := by decide +kernel
theorem dX8_hasOnlyLetters_7 : decode cX8_hasOnlyLetters 7 = .ok (.if_icmp .ge 33, 3) := by decide +kernel
theorem dX8_hasOnlyLetters_10 : decode cX8_hasOnlyLetters 10 = .ok (.aload_n 0, 1) := by decide +kernel
theorem dX8_hasOnlyLetters_11 : decode cX8_hasOnlyLetters 11 = .ok (.getfield 9, 3) := by decide +kernel
theorem dX8_hasOnlyLetters_14 : decode cX8_hasOnlyLetters 14 = .ok (.iload_n 1, 1) := by decide +kernel
theorem dX8_hasOnlyLetters_15 : decode cX8_hasOnlyLetters 15 = .ok (.baload, 1) := by decide +kernel
theorem dX8_hasOnlyLetters_16 : decode cX8_hasOnlyLetters 16 = .ok (.bipush 97, 2) := by decide +kernel
theorem dX8_hasOnlyLetters_18 : decode cX8_hasOnlyLetters 18 = .ok (.if_icmp .lt 14, 3) := by decide +kernel
theorem dX8_hasOnlyLetters_21 : decode cX8_hasOnlyLetters 21 = .ok (.aload_n 0, 1) := by decide +kernel
theorem dX8_hasOnlyLetters_22 : decode cX8_hasOnlyLetters 22 = .ok (.getfield 9, 3) := by decide +kernel
theorem dX8_hasOnlyLetters_25 : decode cX8_hasOnlyLetters 25 = .ok (.iload_n 1, 1) := by decide +kernel
theorem dX8_hasOnlyLetters_26 : decode cX8_hasOnlyLetters 26 = .ok (.baload, 1) := by decide +kernel
theorem dX8_hasOnlyLetters_27 : decode cX8_hasOnlyLetters 27 = .ok (.bipush 122, 2) := by decide +kernel
theorem dX8_hasOnlyLetters_29 : decode cX8_hasOnlyLetters 29 = .ok (.if_icmp .le 5, 3) := by decide +kernel
theorem dX8_hasOnlyLetters_32 : decode cX8_hasOnlyLetters 32 = .ok (.iconst 0, 1) := by decide +kernel
theorem dX8_hasOnlyLetters_33 : decode cX8_hasOnlyLetters 33 = .ok (.ireturn, 1) := by decide +kernel
theorem dX8_hasOnlyLetters_34 : decode cX8_hasOnlyLetters 34 = .ok (.iinc 1 1, 3) := by decide +kernel
theorem dX8_hasOnlyLetters_37 : decode cX8_hasOnlyLetters 37 = .ok (.goto (-35), 3) := by decide +kernel
theorem dX8_hasOnlyLetters_40 : decode cX8_hasOnlyLetters 40 = .ok (.iconst 1, 1) := by decide +kernel
theorem dX8_hasOnlyLetters_41 : decode cX8_hasOnlyLetters 41 = .ok (.ireturn, 1) := by decide +kernel
theorem dX9_init_0 : decode cX9_init 0 = .ok (.aload_n 0, 1) := by decide +kernel
theorem dX9_init_1 : decode cX9_init 1 = .ok (.invokespecial 3, 3) := by decide +kernel
theorem dX9_init_4 : decode cX9_init 4 = .ok (.aload_n 0, 1) := by decide +kernel
theorem dX9_init_5 : decode cX9_init 5 = .ok (.bipush 40, 2) := by decide +kernel
theorem dX9_init_7 : decode cX9_init 7 = .ok (.anewarray 9, 3) := by decide +kernel
theorem dX9_init_10 : decode cX9_init 10 = .ok (.putfield 11, 3) := by decide +kernel
theorem dX9_init_13 : decode cX9_init 13 = .ok (.aload_n 0, 1) := by decide +kernel
theorem dX9_init_14 : decode cX9_init 14 = .ok (.bipush 24, 2) := by decide +kernel
theorem dX9_init_16 : decode cX9_init 16 = .ok (.anewarray 17, 3) := by decide +kernel
theorem dX9_init_19 : decode cX9_init 19 = .ok (.putfield 19, 3) := by decide +kernel
theorem dX9_init_22 : decode cX9_init 22 = .ok (.aload_n 0, 1) := by decide +kernel
theorem dX9_init_23 : decode cX9_init 23 = .ok (.iconst 0, 1) := by decide +kernel
theorem dX9_init_24 : decode cX9_init 24 = .ok (.putfield 23, 3) := by decide +kernel
theorem dX9_init_27 : decode cX9_init 27 = .ok (.aload_n 0, 1) := by decide +kernel
theorem dX9_init_28 : decode cX9_init 28 = .ok (.iconst 0, 1) := by decide +kernel
theorem dX9_init_29 : decode cX9_init 29 = .ok (.putfield 27, 3) := by decide +kernel
theorem dX9_init_32 : decode cX9_init 32 = .ok (.aload_n 0, 1) := by decide +kernel
theorem dX9_init_33 : decode cX9_init 33 = .ok (.bipush 36, 2) := by decide +kernel
theorem dX9_init_35 : decode cX9_init 35 = .ok (.newarray .boolean, 2) := by decide +kernel
theorem dX9_init_37 : decode cX9_init 37 = .ok (.putfield 30, 3) := by decide +kernel
theorem dX9_init_40 : decode cX9_init 40 = .ok (.return_, 1) := by decide +kernel
theorem dX9_formAt_0 : decode cX9_formAt 0 = .ok (.iload_n 1, 1) := by decide +kernel
theorem dX9_formAt_1 : decode cX9_formAt 1 = .ok (.ifCond .lt 20, 3) := by decide +kernel
theorem dX9_formAt_4 : decode cX9_formAt 4 = .ok (.iload_n 1, 1) := by decide +kernel
theorem dX9_formAt_5 : decode cX9_formAt 5 = .ok (.aload_n 0, 1) := by decide +kernel
theorem dX9_formAt_6 : decode cX9_formAt 6 = .ok (.getfield 23, 3) := by decide +kernel
theorem dX9_formAt_9 : decode cX9_formAt 9 = .ok (.if_icmp .ge 12, 3) := by decide +kernel
theorem dX9_formAt_12 : decode cX9_formAt 12 = .ok (.aload_n 0, 1) := by decide +kernel
theorem dX9_formAt_13 : decode cX9_formAt 13 = .ok (.getfield 11, 3) := by decide +kernel
theorem dX9_formAt_16 : decode cX9_formAt 16 = .ok (.iload_n 1, 1) := by decide +kernel
theorem dX9_formAt_17 : decode cX9_formAt 17 = .ok (.aaload, 1) := by decide +kernel
theorem dX9_formAt_18 : decode cX9_formAt 18 = .ok (.goto 4, 3) := by decide +kernel
theorem dX9_formAt_21 : decode cX9_formAt 21 = .ok (.aconst_null, 1) := by decide +kernel
theorem dX9_formAt_22 : decode cX9_formAt 22 = .ok (.areturn, 1) := by decide +kernel
theorem dX9_ruleAt_0 : decode cX9_ruleAt 0 = .ok (.iload_n 1, 1) := by decide +kernel
theorem dX9_ruleAt_1 : decode cX9_ruleAt 1 = .ok (.ifCond .lt 20, 3) := by decide +kernel
theorem dX9_ruleAt_4 : decode cX9_ruleAt 4 = .ok (.iload_n 1, 1) := by decide +kernel
theorem dX9_ruleAt_5 : decode cX9_ruleAt 5 = .ok (.aload_n 0, 1) := by decide +kernel
theorem dX9_ruleAt_6 : decode cX9_ruleAt 6 = .ok (.getfield 27, 3) := by decide +kernel
theorem dX9_ruleAt_9 : decode cX9_ruleAt 9 = .ok (.if_icmp .ge 12, 3) := by decide +kernel
theorem dX9_ruleAt_12 : decode cX9_ruleAt 12 = .ok (.aload_n 0, 1) := by decide +kernel
theorem dX9_ruleAt_13 : decode cX9_ruleAt 13 = .ok (.getfield 19, 3) := by decide +kernel
theorem dX9_ruleAt_16 : decode cX9_ruleAt 16 = .ok (.iload_n 1, 1) := by decide +kernel
theorem dX9_ruleAt_17 : decode cX9_ruleAt 17 = .ok (.aaload, 1) := by decide +kernel
theorem dX9_ruleAt_18 : decode cX9_ruleAt 18 = .ok (.goto 4, 3) := by decide +kernel
theorem dX9_ruleAt_21 : decode cX9_ruleAt 21 = .ok (.aconst_null, 1) := by decide +kernel
theorem dX9_ruleAt_22 : decode cX9_ruleAt 22 = .ok (.areturn, 1) := by decide +kernel
theorem dX9_addForm_0 : decode cX9_addForm 0 = .ok (.aload_n 0, 1) := by decide +kernel
theorem dX9_addForm_1 : decode cX9_addForm 1 = .ok (.getfield 23, 3) := by decide +kernel
theorem dX9_addForm_4 : decode cX9_addForm 4 = .ok (.bipush 40, 2) := by decide +kernel
theorem dX9_addForm_6 : decode cX9_addForm 6 = .ok (.if_icmp .lt 5, 3) := by decide +kernel
theorem dX9_addForm_9 : decode cX9_addForm 9 = .ok (.iconst (-1), 1) := by decide +kernel
theorem dX9_addForm_10 : decode cX9_addForm 10 = .ok (.ireturn, 1) := by decide +kernel
theorem dX9_addForm_11 : decode cX9_addForm 11 = .ok (.aload_n 1, 1) := by decide +kernel
theorem dX9_addForm_12 : decode cX9_addForm 12 = .ok (.aload_n 0, 1) := by decide +kernel
theorem dX9_addForm_13 : decode cX9_addForm 13 = .ok (.getfield 23, 3) := by decide +kernel
theorem dX9_addForm_16 : decode cX9_addForm 16 = .ok (.putfield 34, 3) := by decide +kernel
theorem dX9_addForm_19 : decode cX9_addForm 19 = .ok (.aload_n 0, 1) := by decide +kernel
theorem dX9_addForm_20 : decode cX9_addForm 20 = .ok (.getfield 11, 3) := by decide +kernel
theorem dX9_addForm_23 : decode cX9_addForm 23 = .ok (.aload_n 0, 1) := by decide +kernel
theorem dX9_addForm_24 : decode cX9_addForm 24 = .ok (.getfield 23, 3) := by decide +kernel
theorem dX9_addForm_27 : decode cX9_addForm 27 = .ok (.aload_n 1, 1) := by decide +kernel
theorem dX9_addForm_28 : decode cX9_addForm 28 = .ok (.aastore, 1) := by decide +kernel
theorem dX9_addForm_29 : decode cX9_addForm 29 = .ok (.aload_n 0, 1) := by decide +kernel
theorem dX9_addForm_30 : decode cX9_addForm 30 = .ok (.dup, 1) := by decide +kernel
theorem dX9_addForm_31 : decode cX9_addForm 31 = .ok (.getfield 23, 3) := by decide +kernel
theorem dX9_addForm_34 : decode cX9_addForm 34 = .ok (.iconst 1, 1) := by decide +kernel
theorem dX9_addForm_35 : decode cX9_addForm 35 = .ok (.iadd, 1) := by decide +kernel
theorem dX9_addForm_36 : decode cX9_addForm 36 = .ok (.putfield 23, 3) := by decide +kernel
theorem dX9_addForm_39 : decode cX9_addForm 39 = .ok (.iconst 0, 1) := by decide +kernel
theorem dX9_addForm_40 : decode cX9_addForm 40 = .ok (.istore_n 2, 1) := by decide +kernel
theorem dX9_addForm_41 : decode cX9_addForm 41 = .ok (.iload_n 2, 1) := by decide +kernel
theorem dX9_addForm_42 : decode cX9_addForm 42 = .ok (.aload_n 0, 1) := by decide +kernel
theorem dX9_addForm_43 : decode cX9_addForm 43 = .ok (.getfield 27, 3) := by decide +kernel
theorem dX9_addForm_46 : decode cX9_addForm 46 = .ok (.if_icmp .ge 20, 3) := by decide +kernel
theorem dX9_addForm_49 : decode cX9_addForm 49 = .ok (.aload_n 0, 1) := by decide +kernel
theorem dX9_addForm_50 : decode cX9_addForm 50 = .ok (.aload_n 1, 1) := by decide +kernel
theorem dX9_addForm_51 : decode cX9_addForm 51 = .ok (.aload_n 0, 1) := by decide +kernel
theorem dX9_addForm_52 : decode cX9_addForm 52 = .ok (.getfield 19, 3) := by decide +kernel
theorem dX9_addForm_55 : decode cX9_addForm 55 = .ok (.iload_n 2, 1) := by decide +kernel
theorem dX9_addForm_56 : decode cX9_addForm 56 = .ok (.aaload, 1) := by decide +kernel
theorem dX9_addForm_57 : decode cX9_addForm 57 = .ok (.invokevirtual 37, 3) := by decide +kernel
theorem dX9_addForm_60 : decode cX9_addForm 60 = .ok (.iinc 2 1, 3) := by decide +kernel
theorem dX9_addForm_63 : decode cX9_addForm 63 = .ok (.goto (-22), 3) := by decide +kernel
theorem dX9_addForm_66 : decode cX9_addForm 66 = .ok (.aload_n 1, 1) := by decide +kernel
theorem dX9_addForm_67 : decode cX9_addForm 67 = .ok (.getfield 34, 3) := by decide +kernel
theorem dX9_addForm_70 : decode cX9_addForm 70 = .ok (.ireturn, 1) := by decide +kernel
theorem dX9_addRule_0 : decode cX9_addRule 0 = .ok (.aload_n 0, 1) := by decide +kernel
theorem dX9_addRule_1 : decode cX9_addRule 1 = .ok (.getfield 27, 3) := by decide +kernel
theorem dX9_addRule_4 : decode cX9_addRule 4 = .ok (.bipush 24, 2) := by decide +kernel
theorem dX9_addRule_6 : decode cX9_addRule 6 = .ok (.if_icmp .lt 5, 3) := by decide +kernel
theorem dX9_addRule_9 : decode cX9_addRule 9 = .ok (.iconst (-1), 1) := by decide +kernel
theorem dX9_addRule_10 : decode cX9_addRule 10 = .ok (.ireturn, 1) := by decide +kernel
theorem dX9_addRule_11 : decode cX9_addRule 11 = .ok (.aload_n 1, 1) := by decide +kernel
theorem dX9_addRule_12 : decode cX9_addRule 12 = .ok (.aload_n 0, 1) := by decide +kernel
theorem dX9_addRule_13 : decode cX9_addRule 13 = .ok (.getfield 27, 3) := by decide +kernel
theorem dX9_addRule_16 : decode cX9_addRule 16 = .ok (.putfield 41, 3) := by decide +kernel
theorem dX9_addRule_19 : decode cX9_addRule 19 = .ok (.aload_n 0, 1) := by decide +kernel
theorem dX9_addRule_20 : decode cX9_addRule 20 = .ok (.getfield 19, 3) := by decide +kernel
theorem dX9_addRule_23 : decode cX9_addRule 23 = .ok (.aload_n 0, 1) := by decide +kernel
theorem dX9_addRule_24 : decode cX9_addRule 24 = .ok (.getfield 27, 3) := by decide +kernel
theorem dX9_addRule_27 : decode cX9_addRule 27 = .ok (.aload_n 1, 1) := by decide +kernel
theorem dX9_addRule_28 : decode cX9_addRule 28 = .ok (.aastore, 1) := by decide +kernel
theorem dX9_addRule_29 : decode cX9_addRule 29 = .ok (.aload_n 0, 1) := by decide +kernel
theorem dX9_addRule_30 : decode cX9_addRule 30 = .ok (.dup, 1) := by decide +kernel
theorem dX9_addRule_31 : decode cX9_addRule 31 = .ok (.getfield 27, 3) := by decide +kernel
theorem dX9_addRule_34 : decode cX9_addRule 34 = .ok (.iconst 1, 1) := by decide +kernel
theorem dX9_addRule_35 : decode cX9_addRule 35 = .ok (.iadd, 1) := by decide +kernel
theorem dX9_addRule_36 : decode cX9_addRule 36 = .ok (.putfield 27, 3) := by decide +kernel
theorem dX9_addRule_39 : decode cX9_addRule 39 = .ok (.iconst 0, 1) := by decide +kernel
theorem dX9_addRule_40 : decode cX9_addRule 40 = .ok (.istore_n 2, 1) := by decide +kernel
theorem dX9_addRule_41 : decode cX9_addRule 41 = .ok (.iload_n 2, 1) := by decide +kernel
theorem dX9_addRule_42 : decode cX9_addRule 42 = .ok (.aload_n 0, 1) := by decide +kernel
theorem dX9_addRule_43 : decode cX9_addRule 43 = .ok (.getfield 23, 3) := by decide +kernel
theorem dX9_addRule_46 : decode cX9_addRule 46 = .ok (.if_icmp .ge 20, 3) := by decide +kernel
theorem dX9_addRule_49 : decode cX9_addRule 49 = .ok (.aload_n 0, 1) := by decide +kernel
theorem dX9_addRule_50 : decode cX9_addRule 50 = .ok (.aload_n 0, 1) := by decide +kernel
theorem dX9_addRule_51 : decode cX9_addRule 51 = .ok (.getfield 11, 3) := by decide +kernel
theorem dX9_addRule_54 : decode cX9_addRule 54 = .ok (.iload_n 2, 1) := by decide +kernel
theorem dX9_addRule_55 : decode cX9_addRule 55 = .ok (.aaload, 1) := by decide +kernel
theorem dX9_addRule_56 : decode cX9_addRule 56 = .ok (.aload_n 1, 1) := by decide +kernel
theorem dX9_addRule_57 : decode cX9_addRule 57 = .ok (.invokevirtual 37, 3) := by decide +kernel
theorem dX9_addRule_60 : decode cX9_addRule 60 = .ok (.iinc 2 1, 3) := by decide +kernel
theorem dX9_addRule_63 : decode cX9_addRule 63 = .ok (.goto (-22), 3) := by decide +kernel
theorem dX9_addRule_66 : decode cX9_addRule 66 = .ok (.aload_n 1, 1) := by decide +kernel
theorem dX9_addRule_67 : decode cX9_addRule 67 = .ok (.getfield 41, 3) := by decide +kernel
theorem dX9_addRule_70 : decode cX9_addRule 70 = .ok (.ireturn, 1) := by decide +kernel
theorem dX9_markFit_0 : decode cX9_markFit 0 = .ok (.aload_n 1, 1) := by decide +kernel
theorem dX9_markFit_1 : decode cX9_markFit 1 = .ok (.getfield 42, 3) := by decide +kernel
theorem dX9_markFit_4 : decode cX9_markFit 4 = .ok (.ifCond .eq 4, 3) := by decide +kernel
theorem dX9_markFit_7 : decode cX9_markFit 7 = .ok (.return_, 1) := by decide +kernel
theorem dX9_markFit_8 : decode cX9_markFit 8 = .ok (.aload_n 2, 1) := by decide +kernel
theorem dX9_markFit_9 : decode cX9_markFit 9 = .ok (.aload_n 1, 1) := by decide +kernel
theorem dX9_markFit_10 : decode cX9_markFit 10 = .ok (.invokevirtual 46, 3) := by decide +kernel
theorem dX9_markFit_13 : decode cX9_markFit 13 = .ok (.ifCond .eq 18, 3) := by decide +kernel
theorem dX9_markFit_16 : decode cX9_markFit 16 = .ok (.aload_n 1, 1) := by decide +kernel
theorem dX9_markFit_17 : decode cX9_markFit 17 = .ok (.dup, 1) := by decide +kernel
theorem dX9_markFit_18 : decode cX9_markFit 18 = .ok (.getfield 50, 3) := by decide +kernel
theorem dX9_markFit_21 : decode cX9_markFit 21 = .ok (.iconst 1, 1) := by decide +kernel
theorem dX9_markFit_22 : decode cX9_markFit 22 = .ok (.aload_n 2, 1) := by decide +kernel
theorem dX9_markFit_23 : decode cX9_markFit 23 = .ok (.getfield 41, 3) := by decide +kernel
theorem dX9_markFit_26 : decode cX9_markFit 26 = .ok (.ishl, 1) := by decide +kernel
theorem dX9_markFit_27 : decode cX9_markFit 27 = .ok (.ior, 1) := by decide +kernel
theorem dX9_markFit_28 : decode cX9_markFit 28 = .ok (.putfield 50, 3) := by decide +kernel
theorem dX9_markFit_31 : decode cX9_markFit 31 = .ok (.aload_n 2, 1) := by decide +kernel
theorem dX9_markFit_32 : decode cX9_markFit 32 = .ok (.aload_n 1, 1) := by decide +kernel
theorem dX9_markFit_33 : decode cX9_markFit 33 = .ok (.invokevirtual 53, 3) := by decide +kernel
theorem dX9_markFit_36 : decode cX9_markFit 36 = .ok (.ifCond .eq 18, 3) := by decide +kernel
theorem dX9_markFit_39 : decode cX9_markFit 39 = .ok (.aload_n 1, 1) := by decide +kernel
theorem dX9_markFit_40 : decode cX9_markFit 40 = .ok (.dup, 1) := by decide +kernel
theorem dX9_markFit_41 : decode cX9_markFit 41 = .ok (.getfield 56, 3) := by decide +kernel
theorem dX9_markFit_44 : decode cX9_markFit 44 = .ok (.iconst 1, 1) := by decide +kernel
theorem dX9_markFit_45 : decode cX9_markFit 45 = .ok (.aload_n 2, 1) := by decide +kernel
theorem dX9_markFit_46 : decode cX9_markFit 46 = .ok (.getfield 41, 3) := by decide +kernel
theorem dX9_markFit_49 : decode cX9_markFit 49 = .ok (.ishl, 1) := by decide +kernel
theorem dX9_markFit_50 : decode cX9_markFit 50 = .ok (.ior, 1) := by decide +kernel
theorem dX9_markFit_51 : decode cX9_markFit 51 = .ok (.putfield 56, 3) := by decide +kernel
theorem dX9_markFit_54 : decode cX9_markFit 54 = .ok (.return_, 1) := by decide +kernel
theorem dX9_rulesInForce_0 : decode cX9_rulesInForce 0 = .ok (.iconst 0, 1) := by decide +kernel
theorem dX9_rulesInForce_1 : decode cX9_rulesInForce 1 = .ok (.istore_n 2, 1) := by decide +kernel
theorem dX9_rulesInForce_2 : decode cX9_rulesInForce 2 = .ok (.iconst 0, 1) := by decide +kernel
theorem dX9_rulesInForce_3 : decode cX9_rulesInForce 3 = .ok (.istore_n 3, 1) := by decide +kernel
theorem dX9_rulesInForce_4 : decode cX9_rulesInForce 4 = .ok (.iload_n 3, 1) := by decide +kernel
theorem dX9_rulesInForce_5 : decode cX9_rulesInForce 5 = .ok (.aload_n 0, 1) := by decide +kernel
theorem dX9_rulesInForce_6 : decode cX9_rulesInForce 6 = .ok (.getfield 27, 3) := by decide +kernel
theorem dX9_rulesInForce_9 : decode cX9_rulesInForce 9 = .ok (.if_icmp .ge 41, 3) := by decide +kernel
theorem dX9_rulesInForce_12 : decode cX9_rulesInForce 12 = .ok (.aload_n 0, 1) := by decide +kernel
theorem dX9_rulesInForce_13 : decode cX9_rulesInForce 13 = .ok (.getfield 19, 3) := by decide +kernel
theorem dX9_rulesInForce_16 : decode cX9_rulesInForce 16 = .ok (.iload_n 3, 1) := by decide +kernel
theorem dX9_rulesInForce_17 : decode cX9_rulesInForce 17 = .ok (.aaload, 1) := by decide +kernel
theorem dX9_rulesInForce_18 : decode cX9_rulesInForce 18 = .ok (.getfield 59, 3) := by decide +kernel
theorem dX9_rulesInForce_21 : decode cX9_rulesInForce 21 = .ok (.iload_n 1, 1) := by decide +kernel
theorem dX9_rulesInForce_22 : decode cX9_rulesInForce 22 = .ok (.if_icmp .gt 22, 3) := by decide +kernel
theorem dX9_rulesInForce_25 : decode cX9_rulesInForce 25 = .ok (.iload_n 1, 1) := by decide +kernel
theorem dX9_rulesInForce_26 : decode cX9_rulesInForce 26 = .ok (.aload_n 0, 1) := by decide +kernel
theorem dX9_rulesInForce_27 : decode cX9_rulesInForce 27 = .ok (.getfield 19, 3) := by decide +kernel
theorem dX9_rulesInForce_30 : decode cX9_rulesInForce 30 = .ok (.iload_n 3, 1) := by decide +kernel
theorem dX9_rulesInForce_31 : decode cX9_rulesInForce 31 = .ok (.aaload, 1) := by decide +kernel
theorem dX9_rulesInForce_32 : decode cX9_rulesInForce 32 = .ok (.getfield 62, 3) := by decide +kernel
theorem dX9_rulesInForce_35 : decode cX9_rulesInForce 35 = .ok (.if_icmp .gt 9, 3) := by decide +kernel
theorem dX9_rulesInForce_38 : decode cX9_rulesInForce 38 = .ok (.iload_n 2, 1) := by decide +kernel
theorem dX9_rulesInForce_39 : decode cX9_rulesInForce 39 = .ok (.iconst 1, 1) := by decide +kernel
theorem dX9_rulesInForce_40 : decode cX9_rulesInForce 40 = .ok (.iload_n 3, 1) := by decide +kernel
theorem dX9_rulesInForce_41 : decode cX9_rulesInForce 41 = .ok (.ishl, 1) := by decide +kernel
theorem dX9_rulesInForce_42 : decode cX9_rulesInForce 42 = .ok (.ior, 1) := by decide +kernel
theorem dX9_rulesInForce_43 : decode cX9_rulesInForce 43 = .ok (.istore_n 2, 1) := by decide +kernel
theorem dX9_rulesInForce_44 : decode cX9_rulesInForce 44 = .ok (.iinc 3 1, 3) := by decide +kernel
theorem dX9_rulesInForce_47 : decode cX9_rulesInForce 47 = .ok (.goto (-43), 3) := by decide +kernel
theorem dX9_rulesInForce_50 : decode cX9_rulesInForce 50 = .ok (.iload_n 2, 1) := by decide +kernel
theorem dX9_rulesInForce_51 : decode cX9_rulesInForce 51 = .ok (.ireturn, 1) := by decide +kernel
theorem dX9_setMeeting_0 : decode cX9_setMeeting 0 = .ok (.aload_n 0, 1) := by decide +kernel
theorem dX9_setMeeting_1 : decode cX9_setMeeting 1 = .ok (.getfield 30, 3) := by decide +kernel
theorem dX9_setMeeting_4 : decode cX9_setMeeting 4 = .ok (.iload_n 1, 1) := by decide +kernel
theorem dX9_setMeeting_5 : decode cX9_setMeeting 5 = .ok (.bipush 6, 2) := by decide +kernel
theorem dX9_setMeeting_7 : decode cX9_setMeeting 7 = .ok (.imul, 1) := by decide +kernel
theorem dX9_setMeeting_8 : decode cX9_setMeeting 8 = .ok (.iload_n 2, 1) := by decide +kernel
theorem dX9_setMeeting_9 : decode cX9_setMeeting 9 = .ok (.iadd, 1) := by decide +kernel
theorem dX9_setMeeting_10 : decode cX9_setMeeting 10 = .ok (.baload, 1) := by decide +kernel
theorem dX9_setMeeting_11 : decode cX9_setMeeting 11 = .ok (.iload_n 3, 1) := by decide +kernel
theorem dX9_setMeeting_12 : decode cX9_setMeeting 12 = .ok (.if_icmp .ne 7, 3) := by decide +kernel
theorem dX9_setMeeting_15 : decode cX9_setMeeting 15 = .ok (.iconst 1, 1) := by decide +kernel
theorem dX9_setMeeting_16 : decode cX9_setMeeting 16 = .ok (.goto 4, 3) := by decide +kernel
theorem dX9_setMeeting_19 : decode cX9_setMeeting 19 = .ok (.iconst 0, 1) := by decide +kernel
theorem dX9_setMeeting_20 : decode cX9_setMeeting 20 = .ok (.istore 4, 2) := by decide +kernel
theorem dX9_setMeeting_22 : decode cX9_setMeeting 22 = .ok (.aload_n 0, 1) := by decide +kernel
theorem dX9_setMeeting_23 : decode cX9_setMeeting 23 = .ok (.getfield 30, 3) := by decide +kernel
theorem dX9_setMeeting_26 : decode cX9_setMeeting 26 = .ok (.iload_n 1, 1) := by decide +kernel
theorem dX9_setMeeting_27 : decode cX9_setMeeting 27 = .ok (.bipush 6, 2) := by decide +kernel
theorem dX9_setMeeting_29 : decode cX9_setMeeting 29 = .ok (.imul, 1) := by decide +kernel
theorem dX9_setMeeting_30 : decode cX9_setMeeting 30 = .ok (.iload_n 2, 1) := by decide +kernel
theorem dX9_setMeeting_31 : decode cX9_setMeeting 31 = .ok (.iadd, 1) := by decide +kernel
theorem dX9_setMeeting_32 : decode cX9_setMeeting 32 = .ok (.iload_n 3, 1) := by decide +kernel
theorem dX9_setMeeting_33 : decode cX9_setMeeting 33 = .ok (.ifCond .ne 7, 3) := by decide +kernel
theorem dX9_setMeeting_36 : decode cX9_setMeeting 36 = .ok (.iconst 1, 1) := by decide +kernel
theorem dX9_setMeeting_37 : decode cX9_setMeeting 37 = .ok (.goto 4, 3) := by decide +kernel
theorem dX9_setMeeting_40 : decode cX9_setMeeting 40 = .ok (.iconst 0, 1) := by decide +kernel
theorem dX9_setMeeting_41 : decode cX9_setMeeting 41 = .ok (.bastore, 1) := by decide +kernel
theorem dX9_setMeeting_42 : decode cX9_setMeeting 42 = .ok (.iload 4, 2) := by decide +kernel
theorem dX9_setMeeting_44 : decode cX9_setMeeting 44 = .ok (.ireturn, 1) := by decide +kernel
theorem dX9_allMayMeet_0 : decode cX9_allMayMeet 0 = .ok (.iconst 0, 1) := by decide +kernel
theorem dX9_allMayMeet_1 : decode cX9_allMayMeet 1 = .ok (.istore_n 1, 1) := by decide +kernel
theorem dX9_allMayMeet_2 : decode cX9_allMayMeet 2 = .ok (.iload_n 1, 1) := by decide +kernel
theorem dX9_allMayMeet_3 : decode cX9_allMayMeet 3 = .ok (.bipush 36, 2) := by decide +kernel
theorem dX9_allMayMeet_5 : decode cX9_allMayMeet 5 = .ok (.if_icmp .ge 20, 3) := by decide +kernel
theorem dX9_allMayMeet_8 : decode cX9_allMayMeet 8 = .ok (.aload_n 0, 1) := by decide +kernel
theorem dX9_allMayMeet_9 : decode cX9_allMayMeet 9 = .ok (.getfield 30, 3) := by decide +kernel
theorem dX9_allMayMeet_12 : decode cX9_allMayMeet 12 = .ok (.iload_n 1, 1) := by decide +kernel
theorem dX9_allMayMeet_13 : decode cX9_allMayMeet 13 = .ok (.baload, 1) := by decide +kernel
theorem dX9_allMayMeet_14 : decode cX9_allMayMeet 14 = .ok (.ifCond .eq 5, 3) := by decide +kernel
theorem dX9_allMayMeet_17 : decode cX9_allMayMeet 17 = .ok (.iconst 0, 1) := by decide +kernel
theorem dX9_allMayMeet_18 : decode cX9_allMayMeet 18 = .ok (.ireturn, 1) := by decide +kernel
theorem dX9_allMayMeet_19 : decode cX9_allMayMeet 19 = .ok (.iinc 1 1, 3) := by decide +kernel
theorem dX9_allMayMeet_22 : decode cX9_allMayMeet 22 = .ok (.goto (-20), 3) := by decide +kernel
theorem dX9_allMayMeet_25 : decode cX9_allMayMeet 25 = .ok (.iconst 1, 1) := by decide +kernel
theorem dX9_allMayMeet_26 : decode cX9_allMayMeet 26 = .ok (.ireturn, 1) := by decide +kernel
theorem dX10_init_0 : decode cX10_init 0 = .ok (.aload_n 0, 1) := by decide +kernel
theorem dX10_init_1 : decode cX10_init 1 = .ok (.invokespecial 3, 3) := by decide +kernel
theorem dX10_init_4 : decode cX10_init 4 = .ok (.aload_n 0, 1) := by decide +kernel
theorem dX10_init_5 : decode cX10_init 5 = .ok (.bipush 36, 2) := by decide +kernel
theorem dX10_init_7 : decode cX10_init 7 = .ok (.newarray .int, 2) := by decide +kernel
theorem dX10_init_9 : decode cX10_init 9 = .ok (.putfield 9, 3) := by decide +kernel
theorem dX10_init_12 : decode cX10_init 12 = .ok (.aload_n 0, 1) := by decide +kernel
theorem dX10_init_13 : decode cX10_init 13 = .ok (.aconst_null, 1) := by decide +kernel
theorem dX10_init_14 : decode cX10_init 14 = .ok (.putfield 15, 3) := by decide +kernel
theorem dX10_init_17 : decode cX10_init 17 = .ok (.aload_n 0, 1) := by decide +kernel
theorem dX10_init_18 : decode cX10_init 18 = .ok (.getfield 9, 3) := by decide +kernel
theorem dX10_init_21 : decode cX10_init 21 = .ok (.iconst (-1), 1) := by decide +kernel
theorem dX10_init_22 : decode cX10_init 22 = .ok (.invokestatic 19, 3) := by decide +kernel
theorem dX10_init_25 : decode cX10_init 25 = .ok (.return_, 1) := by decide +kernel
theorem dX10_setKind_0 : decode cX10_setKind 0 = .ok (.aload_n 0, 1) := by decide +kernel
theorem dX10_setKind_1 : decode cX10_setKind 1 = .ok (.getfield 9, 3) := by decide +kernel
theorem dX10_setKind_4 : decode cX10_setKind 4 = .ok (.iload_n 1, 1) := by decide +kernel
theorem dX10_setKind_5 : decode cX10_setKind 5 = .ok (.bipush 6, 2) := by decide +kernel
theorem dX10_setKind_7 : decode cX10_setKind 7 = .ok (.imul, 1) := by decide +kernel
theorem dX10_setKind_8 : decode cX10_setKind 8 = .ok (.iload_n 2, 1) := by decide +kernel
theorem dX10_setKind_9 : decode cX10_setKind 9 = .ok (.iadd, 1) := by decide +kernel
theorem dX10_setKind_10 : decode cX10_setKind 10 = .ok (.iaload, 1) := by decide +kernel
theorem dX10_setKind_11 : decode cX10_setKind 11 = .ok (.istore 4, 2) := by decide +kernel
theorem dX10_setKind_13 : decode cX10_setKind 13 = .ok (.aload_n 0, 1) := by decide +kernel
theorem dX10_setKind_14 : decode cX10_setKind 14 = .ok (.getfield 9, 3) := by decide +kernel
theorem dX10_setKind_17 : decode cX10_setKind 17 = .ok (.iload_n 1, 1) := by decide +kernel
theorem dX10_setKind_18 : decode cX10_setKind 18 = .ok (.bipush 6, 2) := by decide +kernel
theorem dX10_setKind_20 : decode cX10_setKind 20 = .ok (.imul, 1) := by decide +kernel
theorem dX10_setKind_21 : decode cX10_setKind 21 = .ok (.iload_n 2, 1) := by decide +kernel
theorem dX10_setKind_22 : decode cX10_setKind 22 = .ok (.iadd, 1) := by decide +kernel
theorem dX10_setKind_23 : decode cX10_setKind 23 = .ok (.iload_n 3, 1) := by decide +kernel
theorem dX10_setKind_24 : decode cX10_setKind 24 = .ok (.iastore, 1) := by decide +kernel
theorem dX10_setKind_25 : decode cX10_setKind 25 = .ok (.iload 4, 2) := by decide +kernel
theorem dX10_setKind_27 : decode cX10_setKind 27 = .ok (.ireturn, 1) := by decide +kernel
theorem dX10_waysTo_0 : decode cX10_waysTo 0 = .ok (.aload_n 0, 1) := by decide +kernel
theorem dX10_waysTo_1 : decode cX10_waysTo 1 = .ok (.getfield 15, 3) := by decide +kernel
theorem dX10_waysTo_4 : decode cX10_waysTo 4 = .ok (.ifnonnull 16, 3) := by decide +kernel
theorem dX10_waysTo_7 : decode cX10_waysTo 7 = .ok (.aload_n 0, 1) := by decide +kernel
theorem dX10_waysTo_8 : decode cX10_waysTo 8 = .ok (.bipush 40, 2) := by decide +kernel
theorem dX10_waysTo_10 : decode cX10_waysTo 10 = .ok (.sipush 240, 3) := by decide +kernel
theorem dX10_waysTo_13 : decode cX10_waysTo 13 = .ok (.multianewarray 25 2, 4) := by decide +kernel
theorem dX10_waysTo_17 : decode cX10_waysTo 17 = .ok (.putfield 15, 3) := by decide +kernel
theorem dX10_waysTo_20 : decode cX10_waysTo 20 = .ok (.aload_n 1, 1) := by decide +kernel
theorem dX10_waysTo_21 : decode cX10_waysTo 21 = .ok (.getfield 26, 3) := by decide +kernel
theorem dX10_waysTo_24 : decode cX10_waysTo 24 = .ok (.iconst 1, 1) := by decide +kernel
theorem dX10_waysTo_25 : decode cX10_waysTo 25 = .ok (.if_icmp .ge 5, 3) := by decide +kernel
theorem dX10_waysTo_28 : decode cX10_waysTo 28 = .ok (.lconst 0, 1) := by decide +kernel
theorem dX10_waysTo_29 : decode cX10_waysTo 29 = .ok (.lreturn, 1) := by decide +kernel
theorem dX10_waysTo_30 : decode cX10_waysTo 30 = .ok (.iconst 0, 1) := by decide +kernel
theorem dX10_waysTo_31 : decode cX10_waysTo 31 = .ok (.istore_n 3, 1) := by decide +kernel
theorem dX10_waysTo_32 : decode cX10_waysTo 32 = .ok (.iload_n 3, 1) := by decide +kernel
theorem dX10_waysTo_33 : decode cX10_waysTo 33 = .ok (.aload_n 1, 1) := by decide +kernel
theorem dX10_waysTo_34 : decode cX10_waysTo 34 = .ok (.getfield 26, 3) := by decide +kernel
theorem dX10_waysTo_37 : decode cX10_waysTo 37 = .ok (.if_icmp .ge 36, 3) := by decide +kernel
theorem dX10_waysTo_40 : decode cX10_waysTo 40 = .ok (.aload_n 0, 1) := by decide +kernel
theorem dX10_waysTo_41 : decode cX10_waysTo 41 = .ok (.getfield 15, 3) := by decide +kernel
theorem dX10_waysTo_44 : decode cX10_waysTo 44 = .ok (.iload_n 3, 1) := by decide +kernel
theorem dX10_waysTo_45 : decode cX10_waysTo 45 = .ok (.aaload, 1) := by decide +kernel
theorem dX10_waysTo_46 : decode cX10_waysTo 46 = .ok (.lconst 0, 1) := by decide +kernel
theorem dX10_waysTo_47 : decode cX10_waysTo 47 = .ok (.invokestatic 32, 3) := by decide +kernel
theorem dX10_waysTo_50 : decode cX10_waysTo 50 = .ok (.aload_n 0, 1) := by decide +kernel
theorem dX10_waysTo_51 : decode cX10_waysTo 51 = .ok (.getfield 15, 3) := by decide +kernel
theorem dX10_waysTo_54 : decode cX10_waysTo 54 = .ok (.iload_n 3, 1) := by decide +kernel
theorem dX10_waysTo_55 : decode cX10_waysTo 55 = .ok (.aaload, 1) := by decide +kernel
theorem dX10_waysTo_56 : decode cX10_waysTo 56 = .ok (.aload_n 1, 1) := by decide +kernel
theorem dX10_waysTo_57 : decode cX10_waysTo 57 = .ok (.getfield 35, 3) := by decide +kernel
theorem dX10_waysTo_60 : decode cX10_waysTo 60 = .ok (.iload_n 3, 1) := by decide +kernel
theorem dX10_waysTo_61 : decode cX10_waysTo 61 = .ok (.aaload, 1) := by decide +kernel
theorem dX10_waysTo_62 : decode cX10_waysTo 62 = .ok (.getfield 39, 3) := by decide +kernel
theorem dX10_waysTo_65 : decode cX10_waysTo 65 = .ok (.lconst 1, 1) := by decide +kernel
theorem dX10_waysTo_66 : decode cX10_waysTo 66 = .ok (.lastore, 1) := by decide +kernel
theorem dX10_waysTo_67 : decode cX10_waysTo 67 = .ok (.iinc 3 1, 3) := by decide +kernel
theorem dX10_waysTo_70 : decode cX10_waysTo 70 = .ok (.goto (-38), 3) := by decide +kernel
theorem dX10_waysTo_73 : decode cX10_waysTo 73 = .ok (.iconst 1, 1) := by decide +kernel
theorem dX10_waysTo_74 : decode cX10_waysTo 74 = .ok (.istore_n 3, 1) := by decide +kernel
theorem dX10_waysTo_75 : decode cX10_waysTo 75 = .ok (.iload_n 3, 1) := by decide +kernel
theorem dX10_waysTo_76 : decode cX10_waysTo 76 = .ok (.aload_n 1, 1) := by decide +kernel
theorem dX10_waysTo_77 : decode cX10_waysTo 77 = .ok (.getfield 26, 3) := by decide +kernel
theorem dX10_waysTo_80 : decode cX10_waysTo 80 = .ok (.if_icmp .ge 36, 3) := by decide +kernel
theorem dX10_waysTo_83 : decode cX10_waysTo 83 = .ok (.iconst 0, 1) := by decide +kernel
theorem dX10_waysTo_84 : decode cX10_waysTo 84 = .ok (.istore 4, 2) := by decide +kernel
theorem dX10_waysTo_86 : decode cX10_waysTo 86 = .ok (.iload 4, 2) := by decide +kernel
theorem dX10_waysTo_88 : decode cX10_waysTo 88 = .ok (.iload_n 3, 1) := by decide +kernel
theorem dX10_waysTo_89 : decode cX10_waysTo 89 = .ok (.iadd, 1) := by decide +kernel
theorem dX10_waysTo_90 : decode cX10_waysTo 90 = .ok (.aload_n 1, 1) := by decide +kernel
theorem dX10_waysTo_91 : decode cX10_waysTo 91 = .ok (.getfield 26, 3) := by decide +kernel
theorem dX10_waysTo_94 : decode cX10_waysTo 94 = .ok (.if_icmp .ge 16, 3) := by decide +kernel
theorem dX10_waysTo_97 : decode cX10_waysTo 97 = .ok (.aload_n 0, 1) := by decide +kernel
theorem dX10_waysTo_98 : decode cX10_waysTo 98 = .ok (.iload 4, 2) := by decide +kernel
theorem dX10_waysTo_100 : decode cX10_waysTo 100 = .ok (.iload_n 3, 1) := by decide +kernel
theorem dX10_waysTo_101 : decode cX10_waysTo 101 = .ok (.invokevirtual 44, 3) := by decide +kernel
theorem dX10_waysTo_104 : decode cX10_waysTo 104 = .ok (.iinc 4 1, 3) := by decide +kernel
theorem dX10_waysTo_107 : decode cX10_waysTo 107 = .ok (.goto (-21), 3) := by decide +kernel
theorem dX10_waysTo_110 : decode cX10_waysTo 110 = .ok (.iinc 3 1, 3) := by decide +kernel
theorem dX10_waysTo_113 : decode cX10_waysTo 113 = .ok (.goto (-38), 3) := by decide +kernel
theorem dX10_waysTo_116 : decode cX10_waysTo 116 = .ok (.aload_n 0, 1) := by decide +kernel
theorem dX10_waysTo_117 : decode cX10_waysTo 117 = .ok (.getfield 15, 3) := by decide +kernel
theorem dX10_waysTo_120 : decode cX10_waysTo 120 = .ok (.iconst 0, 1) := by decide +kernel
theorem dX10_waysTo_121 : decode cX10_waysTo 121 = .ok (.aaload, 1) := by decide +kernel
theorem dX10_waysTo_122 : decode cX10_waysTo 122 = .ok (.aload_n 1, 1) := by decide +kernel
theorem dX10_waysTo_123 : decode cX10_waysTo 123 = .ok (.getfield 26, 3) := by decide +kernel
theorem dX10_waysTo_126 : decode cX10_waysTo 126 = .ok (.iconst 1, 1) := by decide +kernel
theorem dX10_waysTo_127 : decode cX10_waysTo 127 = .ok (.isub, 1) := by decide +kernel
theorem dX10_waysTo_128 : decode cX10_waysTo 128 = .ok (.bipush 6, 2) := by decide +kernel
theorem dX10_waysTo_130 : decode cX10_waysTo 130 = .ok (.imul, 1) := by decide +kernel
theorem dX10_waysTo_131 : decode cX10_waysTo 131 = .ok (.iload_n 2, 1) := by decide +kernel
theorem dX10_waysTo_132 : decode cX10_waysTo 132 = .ok (.iadd, 1) := by decide +kernel
theorem dX10_waysTo_133 : decode cX10_waysTo 133 = .ok (.laload, 1) := by decide +kernel
theorem dX10_waysTo_134 : decode cX10_waysTo 134 = .ok (.lreturn, 1) := by decide +kernel
theorem dX10_addSplits_0 : decode cX10_addSplits 0 = .ok (.iconst 0, 1) := by decide +kernel
theorem dX10_addSplits_1 : decode cX10_addSplits 1 = .ok (.istore_n 3, 1) := by decide +kernel
theorem dX10_addSplits_2 : decode cX10_addSplits 2 = .ok (.iload_n 3, 1) := by decide +kernel
theorem dX10_addSplits_3 : decode cX10_addSplits 3 = .ok (.iload_n 2, 1) := by decide +kernel
theorem dX10_addSplits_4 : decode cX10_addSplits 4 = .ok (.if_icmp .ge 59, 3) := by decide +kernel
theorem dX10_addSplits_7 : decode cX10_addSplits 7 = .ok (.iconst 0, 1) := by decide +kernel
theorem dX10_addSplits_8 : decode cX10_addSplits 8 = .ok (.istore 4, 2) := by decide +kernel
theorem dX10_addSplits_10 : decode cX10_addSplits 10 = .ok (.iload 4, 2) := by decide +kernel
theorem dX10_addSplits_12 : decode cX10_addSplits 12 = .ok (.bipush 6, 2) := by decide +kernel
theorem dX10_addSplits_14 : decode cX10_addSplits 14 = .ok (.if_icmp .ge 43, 3) := by decide +kernel
theorem dX10_addSplits_17 : decode cX10_addSplits 17 = .ok (.aload_n 0, 1) := by decide +kernel
theorem dX10_addSplits_18 : decode cX10_addSplits 18 = .ok (.getfield 15, 3) := by decide +kernel
theorem dX10_addSplits_21 : decode cX10_addSplits 21 = .ok (.iload_n 1, 1) := by decide +kernel
theorem dX10_addSplits_22 : decode cX10_addSplits 22 = .ok (.aaload, 1) := by decide +kernel
theorem dX10_addSplits_23 : decode cX10_addSplits 23 = .ok (.iload_n 3, 1) := by decide +kernel
theorem dX10_addSplits_24 : decode cX10_addSplits 24 = .ok (.bipush 6, 2) := by decide +kernel
theorem dX10_addSplits_26 : decode cX10_addSplits 26 = .ok (.imul, 1) := by decide +kernel
theorem dX10_addSplits_27 : decode cX10_addSplits 27 = .ok (.iload 4, 2) := by decide +kernel
theorem dX10_addSplits_29 : decode cX10_addSplits 29 = .ok (.iadd, 1) := by decide +kernel
theorem dX10_addSplits_30 : decode cX10_addSplits 30 = .ok (.laload, 1) := by decide +kernel
theorem dX10_addSplits_31 : decode cX10_addSplits 31 = .ok (.lstore 5, 2) := by decide +kernel
theorem dX10_addSplits_33 : decode cX10_addSplits 33 = .ok (.lload 5, 2) := by decide +kernel
theorem dX10_addSplits_35 : decode cX10_addSplits 35 = .ok (.lconst 0, 1) := by decide +kernel
theorem dX10_addSplits_36 : decode cX10_addSplits 36 = .ok (.lcmp, 1) := by decide +kernel
theorem dX10_addSplits_37 : decode cX10_addSplits 37 = .ok (.ifCond .le 14, 3) := by decide +kernel
theorem dX10_addSplits_40 : decode cX10_addSplits 40 = .ok (.aload_n 0, 1) := by decide +kernel
theorem dX10_addSplits_41 : decode cX10_addSplits 41 = .ok (.iload_n 1, 1) := by decide +kernel
theorem dX10_addSplits_42 : decode cX10_addSplits 42 = .ok (.iload_n 2, 1) := by decide +kernel
theorem dX10_addSplits_43 : decode cX10_addSplits 43 = .ok (.iload_n 3, 1) := by decide +kernel
theorem dX10_addSplits_44 : decode cX10_addSplits 44 = .ok (.iload 4, 2) := by decide +kernel
theorem dX10_addSplits_46 : decode cX10_addSplits 46 = .ok (.lload 5, 2) := by decide +kernel
theorem dX10_addSplits_48 : decode cX10_addSplits 48 = .ok (.invokevirtual 48, 3) := by decide +kernel
theorem dX10_addSplits_51 : decode cX10_addSplits 51 = .ok (.iinc 4 1, 3) := by decide +kernel
theorem dX10_addSplits_54 : decode cX10_addSplits 54 = .ok (.goto (-44), 3) := by decide +kernel
theorem dX10_addSplits_57 : decode cX10_addSplits 57 = .ok (.iinc 3 1, 3) := by decide +kernel
theorem dX10_addSplits_60 : decode cX10_addSplits 60 = .ok (.goto (-58), 3) := by decide +kernel
theorem dX10_addSplits_63 : decode cX10_addSplits 63 = .ok (.return_, 1) := by decide +kernel
theorem dX10_addSeconds_0 : decode cX10_addSeconds 0 = .ok (.iload_n 1, 1) := by decide +kernel
theorem dX10_addSeconds_1 : decode cX10_addSeconds 1 = .ok (.iload_n 3, 1) := by decide +kernel
theorem dX10_addSeconds_2 : decode cX10_addSeconds 2 = .ok (.iadd, 1) := by decide +kernel
theorem dX10_addSeconds_3 : decode cX10_addSeconds 3 = .ok (.iconst 1, 1) := by decide +kernel
theorem dX10_addSeconds_4 : decode cX10_addSeconds 4 = .ok (.iadd, 1) := by decide +kernel
theorem dX10_addSeconds_5 : decode cX10_addSeconds 5 = .ok (.istore 7, 2) := by decide +kernel
theorem dX10_addSeconds_7 : decode cX10_addSeconds 7 = .ok (.iload_n 2, 1) := by decide +kernel
theorem dX10_addSeconds_8 : decode cX10_addSeconds 8 = .ok (.iload_n 3, 1) := by decide +kernel
theorem dX10_addSeconds_9 : decode cX10_addSeconds 9 = .ok (.isub, 1) := by decide +kernel
theorem dX10_addSeconds_10 : decode cX10_addSeconds 10 = .ok (.iconst 1, 1) := by decide +kernel
theorem dX10_addSeconds_11 : decode cX10_addSeconds 11 = .ok (.isub, 1) := by decide +kernel
theorem dX10_addSeconds_12 : decode cX10_addSeconds 12 = .ok (.istore 8, 2) := by decide +kernel
theorem dX10_addSeconds_14 : decode cX10_addSeconds 14 = .ok (.iconst 0, 1) := by decide +kernel
theorem dX10_addSeconds_15 : decode cX10_addSeconds 15 = .ok (.istore 9, 2) := by decide +kernel
theorem dX10_addSeconds_17 : decode cX10_addSeconds 17 = .ok (.iload 9, 2) := by decide +kernel
theorem dX10_addSeconds_19 : decode cX10_addSeconds 19 = .ok (.bipush 6, 2) := by decide +kernel
theorem dX10_addSeconds_21 : decode cX10_addSeconds 21 = .ok (.if_icmp .ge 93, 3) := by decide +kernel
theorem dX10_addSeconds_24 : decode cX10_addSeconds 24 = .ok (.aload_n 0, 1) := by decide +kernel
theorem dX10_addSeconds_25 : decode cX10_addSeconds 25 = .ok (.getfield 9, 3) := by decide +kernel
theorem dX10_addSeconds_28 : decode cX10_addSeconds 28 = .ok (.iload 4, 2) := by decide +kernel
theorem dX10_addSeconds_30 : decode cX10_addSeconds 30 = .ok (.bipush 6, 2) := by decide +kernel
theorem dX10_addSeconds_32 : decode cX10_addSeconds 32 = .ok (.imul, 1) := by decide +kernel
theorem dX10_addSeconds_33 : decode cX10_addSeconds 33 = .ok (.iload 9, 2) := by decide +kernel
theorem dX10_addSeconds_35 : decode cX10_addSeconds 35 = .ok (.iadd, 1) := by decide +kernel
theorem dX10_addSeconds_36 : decode cX10_addSeconds 36 = .ok (.iaload, 1) := by decide +kernel
theorem dX10_addSeconds_37 : decode cX10_addSeconds 37 = .ok (.istore 10, 2) := by decide +kernel
theorem dX10_addSeconds_39 : decode cX10_addSeconds 39 = .ok (.aload_n 0, 1) := by decide +kernel
theorem dX10_addSeconds_40 : decode cX10_addSeconds 40 = .ok (.getfield 15, 3) := by decide +kernel
theorem dX10_addSeconds_43 : decode cX10_addSeconds 43 = .ok (.iload 7, 2) := by decide +kernel
theorem dX10_addSeconds_45 : decode cX10_addSeconds 45 = .ok (.aaload, 1) := by decide +kernel
theorem dX10_addSeconds_46 : decode cX10_addSeconds 46 = .ok (.iload 8, 2) := by decide +kernel
theorem dX10_addSeconds_48 : decode cX10_addSeconds 48 = .ok (.bipush 6, 2) := by decide +kernel
theorem dX10_addSeconds_50 : decode cX10_addSeconds 50 = .ok (.imul, 1) := by decide +kernel
theorem dX10_addSeconds_51 : decode cX10_addSeconds 51 = .ok (.iload 9, 2) := by decide +kernel
theorem dX10_addSeconds_53 : decode cX10_addSeconds 53 = .ok (.iadd, 1) := by decide +kernel
theorem dX10_addSeconds_54 : decode cX10_addSeconds 54 = .ok (.laload, 1) := by decide +kernel
theorem dX10_addSeconds_55 : decode cX10_addSeconds 55 = .ok (.lstore 11, 2) := by decide +kernel
theorem dX10_addSeconds_57 : decode cX10_addSeconds 57 = .ok (.iload 10, 2) := by decide +kernel
theorem dX10_addSeconds_59 : decode cX10_addSeconds 59 = .ok (.iconst (-1), 1) := by decide +kernel
theorem dX10_addSeconds_60 : decode cX10_addSeconds 60 = .ok (.if_icmp .eq 48, 3) := by decide +kernel
theorem dX10_addSeconds_63 : decode cX10_addSeconds 63 = .ok (.lload 11, 2) := by decide +kernel
theorem dX10_addSeconds_65 : decode cX10_addSeconds 65 = .ok (.lconst 0, 1) := by decide +kernel
theorem dX10_addSeconds_66 : decode cX10_addSeconds 66 = .ok (.lcmp, 1) := by decide +kernel
theorem dX10_addSeconds_67 : decode cX10_addSeconds 67 = .ok (.ifCond .le 41, 3) := by decide +kernel
theorem dX10_addSeconds_70 : decode cX10_addSeconds 70 = .ok (.iload_n 2, 1) := by decide +kernel
theorem dX10_addSeconds_71 : decode cX10_addSeconds 71 = .ok (.bipush 6, 2) := by decide +kernel
theorem dX10_addSeconds_73 : decode cX10_addSeconds 73 = .ok (.imul, 1) := by decide +kernel
theorem dX10_addSeconds_74 : decode cX10_addSeconds 74 = .ok (.iload 10, 2) := by decide +kernel
theorem dX10_addSeconds_76 : decode cX10_addSeconds 76 = .ok (.iadd, 1) := by decide +kernel
theorem dX10_addSeconds_77 : decode cX10_addSeconds 77 = .ok (.istore 13, 2) := by decide +kernel
theorem dX10_addSeconds_79 : decode cX10_addSeconds 79 = .ok (.aload_n 0, 1) := by decide +kernel
theorem dX10_addSeconds_80 : decode cX10_addSeconds 80 = .ok (.getfield 15, 3) := by decide +kernel
theorem dX10_addSeconds_83 : decode cX10_addSeconds 83 = .ok (.iload_n 1, 1) := by decide +kernel
theorem dX10_addSeconds_84 : decode cX10_addSeconds 84 = .ok (.aaload, 1) := by decide +kernel
theorem dX10_addSeconds_85 : decode cX10_addSeconds 85 = .ok (.iload 13, 2) := by decide +kernel
theorem dX10_addSeconds_87 : decode cX10_addSeconds 87 = .ok (.aload_n 0, 1) := by decide +kernel
theorem dX10_addSeconds_88 : decode cX10_addSeconds 88 = .ok (.getfield 15, 3) := by decide +kernel
theorem dX10_addSeconds_91 : decode cX10_addSeconds 91 = .ok (.iload_n 1, 1) := by decide +kernel
theorem dX10_addSeconds_92 : decode cX10_addSeconds 92 = .ok (.aaload, 1) := by decide +kernel
theorem dX10_addSeconds_93 : decode cX10_addSeconds 93 = .ok (.iload 13, 2) := by decide +kernel
theorem dX10_addSeconds_95 : decode cX10_addSeconds 95 = .ok (.laload, 1) := by decide +kernel
theorem dX10_addSeconds_96 : decode cX10_addSeconds 96 = .ok (.lload 5, 2) := by decide +kernel
theorem dX10_addSeconds_98 : decode cX10_addSeconds 98 = .ok (.lload 11, 2) := by decide +kernel
theorem dX10_addSeconds_100 : decode cX10_addSeconds 100 = .ok (.invokestatic 52, 3) := by decide +kernel
theorem dX10_addSeconds_103 : decode cX10_addSeconds 103 = .ok (.ladd, 1) := by decide +kernel
theorem dX10_addSeconds_104 : decode cX10_addSeconds 104 = .ok (.invokestatic 56, 3) := by decide +kernel
theorem dX10_addSeconds_107 : decode cX10_addSeconds 107 = .ok (.lastore, 1) := by decide +kernel
theorem dX10_addSeconds_108 : decode cX10_addSeconds 108 = .ok (.iinc 9 1, 3) := by decide +kernel
theorem dX10_addSeconds_111 : decode cX10_addSeconds 111 = .ok (.goto (-94), 3) := by decide +kernel
theorem dX10_addSeconds_114 : decode cX10_addSeconds 114 = .ok (.return_, 1) := by decide +kernel
theorem dX10_cappedProduct_0 : decode cX10_cappedProduct 0 = .ok (.lload_n 0, 1) := by decide +kernel
theorem dX10_cappedProduct_1 : decode cX10_cappedProduct 1 = .ok (.lconst 0, 1) := by decide +kernel
theorem dX10_cappedProduct_2 : decode cX10_cappedProduct 2 = .ok (.lcmp, 1) := by decide +kernel
theorem dX10_cappedProduct_3 : decode cX10_cappedProduct 3 = .ok (.ifCond .le 9, 3) := by decide +kernel
theorem dX10_cappedProduct_6 : decode cX10_cappedProduct 6 = .ok (.lload_n 2, 1) := by decide +kernel
theorem dX10_cappedProduct_7 : decode cX10_cappedProduct 7 = .ok (.lconst 0, 1) := by decide +kernel
theorem dX10_cappedProduct_8 : decode cX10_cappedProduct 8 = .ok (.lcmp, 1) := by decide +kernel
theorem dX10_cappedProduct_9 : decode cX10_cappedProduct 9 = .ok (.ifCond .gt 5, 3) := by decide +kernel
theorem dX10_cappedProduct_12 : decode cX10_cappedProduct 12 = .ok (.lconst 0, 1) := by decide +kernel
theorem dX10_cappedProduct_13 : decode cX10_cappedProduct 13 = .ok (.lreturn, 1) := by decide +kernel
theorem dX10_cappedProduct_14 : decode cX10_cappedProduct 14 = .ok (.lload_n 0, 1) := by decide +kernel
theorem dX10_cappedProduct_15 : decode cX10_cappedProduct 15 = .ok (.ldc2_w 60, 3) := by decide +kernel
theorem dX10_cappedProduct_18 : decode cX10_cappedProduct 18 = .ok (.lload_n 2, 1) := by decide +kernel
theorem dX10_cappedProduct_19 : decode cX10_cappedProduct 19 = .ok (.ldiv, 1) := by decide +kernel
theorem dX10_cappedProduct_20 : decode cX10_cappedProduct 20 = .ok (.lcmp, 1) := by decide +kernel
theorem dX10_cappedProduct_21 : decode cX10_cappedProduct 21 = .ok (.ifCond .le 9, 3) := by decide +kernel
theorem dX10_cappedProduct_24 : decode cX10_cappedProduct 24 = .ok (.ldc2_w 60, 3) := by decide +kernel
theorem dX10_cappedProduct_27 : decode cX10_cappedProduct 27 = .ok (.goto 9, 3) := by decide +kernel
theorem dX10_cappedProduct_30 : decode cX10_cappedProduct 30 = .ok (.lload_n 0, 1) := by decide +kernel
theorem dX10_cappedProduct_31 : decode cX10_cappedProduct 31 = .ok (.lload_n 2, 1) := by decide +kernel
theorem dX10_cappedProduct_32 : decode cX10_cappedProduct 32 = .ok (.lmul, 1) := by decide +kernel
theorem dX10_cappedProduct_33 : decode cX10_cappedProduct 33 = .ok (.invokestatic 56, 3) := by decide +kernel
theorem dX10_cappedProduct_36 : decode cX10_cappedProduct 36 = .ok (.lreturn, 1) := by decide +kernel
theorem dJ6_bitCount_0f7a4_0 : decode cJ6_bitCount_0f7a4 0 = .ok (.iload_n 0, 1) := by decide +kernel
theorem dJ6_bitCount_0f7a4_1 : decode cJ6_bitCount_0f7a4 1 = .ok (.iload_n 0, 1) := by decide +kernel
theorem dJ6_bitCount_0f7a4_2 : decode cJ6_bitCount_0f7a4 2 = .ok (.iconst 1, 1) := by decide +kernel
theorem dJ6_bitCount_0f7a4_3 : decode cJ6_bitCount_0f7a4 3 = .ok (.iushr, 1) := by decide +kernel
theorem dJ6_bitCount_0f7a4_4 : decode cJ6_bitCount_0f7a4 4 = .ok (.ldc_w 265, 3) := by decide +kernel
theorem dJ6_bitCount_0f7a4_7 : decode cJ6_bitCount_0f7a4 7 = .ok (.iand, 1) := by decide +kernel
theorem dJ6_bitCount_0f7a4_8 : decode cJ6_bitCount_0f7a4 8 = .ok (.isub, 1) := by decide +kernel
theorem dJ6_bitCount_0f7a4_9 : decode cJ6_bitCount_0f7a4 9 = .ok (.istore_n 0, 1) := by decide +kernel
theorem dJ6_bitCount_0f7a4_10 : decode cJ6_bitCount_0f7a4 10 = .ok (.iload_n 0, 1) := by decide +kernel
theorem dJ6_bitCount_0f7a4_11 : decode cJ6_bitCount_0f7a4 11 = .ok (.ldc_w 266, 3) := by decide +kernel
theorem dJ6_bitCount_0f7a4_14 : decode cJ6_bitCount_0f7a4 14 = .ok (.iand, 1) := by decide +kernel
theorem dJ6_bitCount_0f7a4_15 : decode cJ6_bitCount_0f7a4 15 = .ok (.iload_n 0, 1) := by decide +kernel
theorem dJ6_bitCount_0f7a4_16 : decode cJ6_bitCount_0f7a4 16 = .ok (.iconst 2, 1) := by decide +kernel
theorem dJ6_bitCount_0f7a4_17 : decode cJ6_bitCount_0f7a4 17 = .ok (.iushr, 1) := by decide +kernel
theorem dJ6_bitCount_0f7a4_18 : decode cJ6_bitCount_0f7a4 18 = .ok (.ldc_w 266, 3) := by decide +kernel
theorem dJ6_bitCount_0f7a4_21 : decode cJ6_bitCount_0f7a4 21 = .ok (.iand, 1) := by decide +kernel
theorem dJ6_bitCount_0f7a4_22 : decode cJ6_bitCount_0f7a4 22 = .ok (.iadd, 1) := by decide +kernel
theorem dJ6_bitCount_0f7a4_23 : decode cJ6_bitCount_0f7a4 23 = .ok (.istore_n 0, 1) := by decide +kernel
theorem dJ6_bitCount_0f7a4_24 : decode cJ6_bitCount_0f7a4 24 = .ok (.iload_n 0, 1) := by decide +kernel
theorem dJ6_bitCount_0f7a4_25 : decode cJ6_bitCount_0f7a4 25 = .ok (.iload_n 0, 1) := by decide +kernel
theorem dJ6_bitCount_0f7a4_26 : decode cJ6_bitCount_0f7a4 26 = .ok (.iconst 4, 1) := by decide +kernel
theorem dJ6_bitCount_0f7a4_27 : decode cJ6_bitCount_0f7a4 27 = .ok (.iushr, 1) := by decide +kernel
theorem dJ6_bitCount_0f7a4_28 : decode cJ6_bitCount_0f7a4 28 = .ok (.iadd, 1) := by decide +kernel
theorem dJ6_bitCount_0f7a4_29 : decode cJ6_bitCount_0f7a4 29 = .ok (.ldc_w 267, 3) := by decide +kernel
theorem dJ6_bitCount_0f7a4_32 : decode cJ6_bitCount_0f7a4 32 = .ok (.iand, 1) := by decide +kernel
theorem dJ6_bitCount_0f7a4_33 : decode cJ6_bitCount_0f7a4 33 = .ok (.istore_n 0, 1) := by decide +kernel
theorem dJ6_bitCount_0f7a4_34 : decode cJ6_bitCount_0f7a4 34 = .ok (.iload_n 0, 1) := by decide +kernel
theorem dJ6_bitCount_0f7a4_35 : decode cJ6_bitCount_0f7a4 35 = .ok (.iload_n 0, 1) := by decide +kernel
theorem dJ6_bitCount_0f7a4_36 : decode cJ6_bitCount_0f7a4 36 = .ok (.bipush 8, 2) := by decide +kernel
theorem dJ6_bitCount_0f7a4_38 : decode cJ6_bitCount_0f7a4 38 = .ok (.iushr, 1) := by decide +kernel
theorem dJ6_bitCount_0f7a4_39 : decode cJ6_bitCount_0f7a4 39 = .ok (.iadd, 1) := by decide +kernel
theorem dJ6_bitCount_0f7a4_40 : decode cJ6_bitCount_0f7a4 40 = .ok (.istore_n 0, 1) := by decide +kernel
theorem dJ6_bitCount_0f7a4_41 : decode cJ6_bitCount_0f7a4 41 = .ok (.iload_n 0, 1) := by decide +kernel
theorem dJ6_bitCount_0f7a4_42 : decode cJ6_bitCount_0f7a4 42 = .ok (.iload_n 0, 1) := by decide +kernel
theorem dJ6_bitCount_0f7a4_43 : decode cJ6_bitCount_0f7a4 43 = .ok (.bipush 16, 2) := by decide +kernel
theorem dJ6_bitCount_0f7a4_45 : decode cJ6_bitCount_0f7a4 45 = .ok (.iushr, 1) := by decide +kernel
theorem dJ6_bitCount_0f7a4_46 : decode cJ6_bitCount_0f7a4 46 = .ok (.iadd, 1) := by decide +kernel
theorem dJ6_bitCount_0f7a4_47 : decode cJ6_bitCount_0f7a4 47 = .ok (.istore_n 0, 1) := by decide +kernel
theorem dJ6_bitCount_0f7a4_48 : decode cJ6_bitCount_0f7a4 48 = .ok (.iload_n 0, 1) := by decide +kernel
theorem dJ6_bitCount_0f7a4_49 : decode cJ6_bitCount_0f7a4 49 = .ok (.bipush 63, 2) := by decide +kernel
theorem dJ6_bitCount_0f7a4_51 : decode cJ6_bitCount_0f7a4 51 = .ok (.iand, 1) := by decide +kernel
theorem dJ6_bitCount_0f7a4_52 : decode cJ6_bitCount_0f7a4 52 = .ok (.ireturn, 1) := by decide +kernel
theorem dJ9_max_7cf53_0 : decode cJ9_max_7cf53 0 = .ok (.iload_n 0, 1) := by decide +kernel
theorem dJ9_max_7cf53_1 : decode cJ9_max_7cf53 1 = .ok (.iload_n 1, 1) := by decide +kernel
theorem dJ9_max_7cf53_2 : decode cJ9_max_7cf53 2 = .ok (.if_icmp .lt 7, 3) := by decide +kernel
theorem dJ9_max_7cf53_5 : decode cJ9_max_7cf53 5 = .ok (.iload_n 0, 1) := by decide +kernel
theorem dJ9_max_7cf53_6 : decode cJ9_max_7cf53 6 = .ok (.goto 4, 3) := by decide +kernel
theorem dJ9_max_7cf53_9 : decode cJ9_max_7cf53 9 = .ok (.iload_n 1, 1) := by decide +kernel
theorem dJ9_max_7cf53_10 : decode cJ9_max_7cf53 10 = .ok (.ireturn, 1) := by decide +kernel
theorem dJ9_min_7cf53_0 : decode cJ9_min_7cf53 0 = .ok (.iload_n 0, 1) := by decide +kernel
theorem dJ9_min_7cf53_1 : decode cJ9_min_7cf53 1 = .ok (.iload_n 1, 1) := by decide +kernel
theorem dJ9_min_7cf53_2 : decode cJ9_min_7cf53 2 = .ok (.if_icmp .gt 7, 3) := by decide +kernel
theorem dJ9_min_7cf53_5 : decode cJ9_min_7cf53 5 = .ok (.iload_n 0, 1) := by decide +kernel
theorem dJ9_min_7cf53_6 : decode cJ9_min_7cf53 6 = .ok (.goto 4, 3) := by decide +kernel
theorem dJ9_min_7cf53_9 : decode cJ9_min_7cf53 9 = .ok (.iload_n 1, 1) := by decide +kernel
theorem dJ9_min_7cf53_10 : decode cJ9_min_7cf53 10 = .ok (.ireturn, 1) := by decide +kernel
theorem dJ9_min_f86c9_0 : decode cJ9_min_f86c9 0 = .ok (.lload_n 0, 1) := by decide +kernel
theorem dJ9_min_f86c9_1 : decode cJ9_min_f86c9 1 = .ok (.lload_n 2, 1) := by decide +kernel
theorem dJ9_min_f86c9_2 : decode cJ9_min_f86c9 2 = .ok (.lcmp, 1) := by decide +kernel
theorem dJ9_min_f86c9_3 : decode cJ9_min_f86c9 3 = .ok (.ifCond .gt 7, 3) := by decide +kernel
theorem dJ9_min_f86c9_6 : decode cJ9_min_f86c9 6 = .ok (.lload_n 0, 1) := by decide +kernel
theorem dJ9_min_f86c9_7 : decode cJ9_min_f86c9 7 = .ok (.goto 4, 3) := by decide +kernel
theorem dJ9_min_f86c9_10 : decode cJ9_min_f86c9 10 = .ok (.lload_n 2, 1) := by decide +kernel
theorem dJ9_min_f86c9_11 : decode cJ9_min_f86c9 11 = .ok (.lreturn, 1) := by decide +kernel
theorem dJ7_fill_d0a16_0 : decode cJ7_fill_d0a16 0 = .ok (.iconst 0, 1) := by decide +kernel
theorem dJ7_fill_d0a16_1 : decode cJ7_fill_d0a16 1 = .ok (.istore_n 3, 1) := by decide +kernel
theorem dJ7_fill_d0a16_2 : decode cJ7_fill_d0a16 2 = .ok (.aload_n 0, 1) := by decide +kernel
theorem dJ7_fill_d0a16_3 : decode cJ7_fill_d0a16 3 = .ok (.arraylength, 1) := by decide +kernel
theorem dJ7_fill_d0a16_4 : decode cJ7_fill_d0a16 4 = .ok (.istore 4, 2) := by decide +kernel
theorem dJ7_fill_d0a16_6 : decode cJ7_fill_d0a16 6 = .ok (.iload_n 3, 1) := by decide +kernel
theorem dJ7_fill_d0a16_7 : decode cJ7_fill_d0a16 7 = .ok (.iload 4, 2) := by decide +kernel
theorem dJ7_fill_d0a16_9 : decode cJ7_fill_d0a16 9 = .ok (.if_icmp .ge 13, 3) := by decide +kernel
theorem dJ7_fill_d0a16_12 : decode cJ7_fill_d0a16 12 = .ok (.aload_n 0, 1) := by decide +kernel
theorem dJ7_fill_d0a16_13 : decode cJ7_fill_d0a16 13 = .ok (.iload_n 3, 1) := by decide +kernel
theorem dJ7_fill_d0a16_14 : decode cJ7_fill_d0a16 14 = .ok (.lload_n 1, 1) := by decide +kernel
theorem dJ7_fill_d0a16_15 : decode cJ7_fill_d0a16 15 = .ok (.lastore, 1) := by decide +kernel
theorem dJ7_fill_d0a16_16 : decode cJ7_fill_d0a16 16 = .ok (.iinc 3 1, 3) := by decide +kernel
theorem dJ7_fill_d0a16_19 : decode cJ7_fill_d0a16 19 = .ok (.goto (-13), 3) := by decide +kernel
theorem dJ7_fill_d0a16_22 : decode cJ7_fill_d0a16 22 = .ok (.return_, 1) := by decide +kernel
theorem dJ7_fill_53178_0 : decode cJ7_fill_53178 0 = .ok (.iconst 0, 1) := by decide +kernel
theorem dJ7_fill_53178_1 : decode cJ7_fill_53178 1 = .ok (.istore_n 2, 1) := by decide +kernel
theorem dJ7_fill_53178_2 : decode cJ7_fill_53178 2 = .ok (.aload_n 0, 1) := by decide +kernel
theorem dJ7_fill_53178_3 : decode cJ7_fill_53178 3 = .ok (.arraylength, 1) := by decide +kernel
theorem dJ7_fill_53178_4 : decode cJ7_fill_53178 4 = .ok (.istore_n 3, 1) := by decide +kernel
theorem dJ7_fill_53178_5 : decode cJ7_fill_53178 5 = .ok (.iload_n 2, 1) := by decide +kernel
theorem dJ7_fill_53178_6 : decode cJ7_fill_53178 6 = .ok (.iload_n 3, 1) := by decide +kernel
theorem dJ7_fill_53178_7 : decode cJ7_fill_53178 7 = .ok (.if_icmp .ge 13, 3) := by decide +kernel
theorem dJ7_fill_53178_10 : decode cJ7_fill_53178 10 = .ok (.aload_n 0, 1) := by decide +kernel
theorem dJ7_fill_53178_11 : decode cJ7_fill_53178 11 = .ok (.iload_n 2, 1) := by decide +kernel
theorem dJ7_fill_53178_12 : decode cJ7_fill_53178 12 = .ok (.iload_n 1, 1) := by decide +kernel
theorem dJ7_fill_53178_13 : decode cJ7_fill_53178 13 = .ok (.iastore, 1) := by decide +kernel
theorem dJ7_fill_53178_14 : decode cJ7_fill_53178 14 = .ok (.iinc 2 1, 3) := by decide +kernel
theorem dJ7_fill_53178_17 : decode cJ7_fill_53178 17 = .ok (.goto (-12), 3) := by decide +kernel
theorem dJ7_fill_53178_20 : decode cJ7_fill_53178 20 = .ok (.return_, 1) := by decide +kernel
theorem dJ7_copyOf_9075b_0 : decode cJ7_copyOf_9075b 0 = .ok (.iload_n 1, 1) := by decide +kernel
theorem dJ7_copyOf_9075b_1 : decode cJ7_copyOf_9075b 1 = .ok (.aload_n 0, 1) := by decide +kernel
theorem dJ7_copyOf_9075b_2 : decode cJ7_copyOf_9075b 2 = .ok (.arraylength, 1) := by decide +kernel
theorem dJ7_copyOf_9075b_3 : decode cJ7_copyOf_9075b 3 = .ok (.if_icmp .ne 11, 3) := by decide +kernel
theorem dJ7_copyOf_9075b_6 : decode cJ7_copyOf_9075b 6 = .ok (.aload_n 0, 1) := by decide +kernel
theorem dJ7_copyOf_9075b_7 : decode cJ7_copyOf_9075b 7 = .ok (.invokevirtual 310, 3) := by decide +kernel
theorem dJ7_copyOf_9075b_10 : decode cJ7_copyOf_9075b 10 = .ok (.checkcast 311, 3) := by decide +kernel
theorem dJ7_copyOf_9075b_13 : decode cJ7_copyOf_9075b 13 = .ok (.areturn, 1) := by decide +kernel
theorem dJ7_copyOf_9075b_14 : decode cJ7_copyOf_9075b 14 = .ok (.iload_n 1, 1) := by decide +kernel
theorem dJ7_copyOf_9075b_15 : decode cJ7_copyOf_9075b 15 = .ok (.newarray .byte, 2) := by decide +kernel
theorem dJ7_copyOf_9075b_17 : decode cJ7_copyOf_9075b 17 = .ok (.astore_n 2, 1) := by decide +kernel
theorem dJ7_copyOf_9075b_18 : decode cJ7_copyOf_9075b 18 = .ok (.aload_n 0, 1) := by decide +kernel
theorem dJ7_copyOf_9075b_19 : decode cJ7_copyOf_9075b 19 = .ok (.iconst 0, 1) := by decide +kernel
theorem dJ7_copyOf_9075b_20 : decode cJ7_copyOf_9075b 20 = .ok (.aload_n 2, 1) := by decide +kernel
theorem dJ7_copyOf_9075b_21 : decode cJ7_copyOf_9075b 21 = .ok (.iconst 0, 1) := by decide +kernel
theorem dJ7_copyOf_9075b_22 : decode cJ7_copyOf_9075b 22 = .ok (.aload_n 0, 1) := by decide +kernel
theorem dJ7_copyOf_9075b_23 : decode cJ7_copyOf_9075b 23 = .ok (.arraylength, 1) := by decide +kernel
theorem dJ7_copyOf_9075b_24 : decode cJ7_copyOf_9075b 24 = .ok (.iload_n 1, 1) := by decide +kernel
theorem dJ7_copyOf_9075b_25 : decode cJ7_copyOf_9075b 25 = .ok (.invokestatic 304, 3) := by decide +kernel
theorem dJ7_copyOf_9075b_28 : decode cJ7_copyOf_9075b 28 = .ok (.invokestatic 150, 3) := by decide +kernel
theorem dJ7_copyOf_9075b_31 : decode cJ7_copyOf_9075b 31 = .ok (.aload_n 2, 1) := by decide +kernel
theorem dJ7_copyOf_9075b_32 : decode cJ7_copyOf_9075b 32 = .ok (.areturn, 1) := by decide +kernel
