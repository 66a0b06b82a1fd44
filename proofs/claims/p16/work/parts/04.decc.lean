theorem dX6_init_0 : decode cX6_init 0 = .ok (.aload_n 0, 1) := by decide +kernel
theorem dX6_init_1 : decode cX6_init 1 = .ok (.invokespecial 3, 3) := by decide +kernel
theorem dX6_init_4 : decode cX6_init 4 = .ok (.aload_n 0, 1) := by decide +kernel
theorem dX6_init_5 : decode cX6_init 5 = .ok (.aload_n 1, 1) := by decide +kernel
theorem dX6_init_6 : decode cX6_init 6 = .ok (.putfield 9, 3) := by decide +kernel
theorem dX6_init_9 : decode cX6_init 9 = .ok (.aload_n 0, 1) := by decide +kernel
theorem dX6_init_10 : decode cX6_init 10 = .ok (.aload_n 2, 1) := by decide +kernel
theorem dX6_init_11 : decode cX6_init 11 = .ok (.putfield 15, 3) := by decide +kernel
theorem dX6_init_14 : decode cX6_init 14 = .ok (.aload_n 0, 1) := by decide +kernel
theorem dX6_init_15 : decode cX6_init 15 = .ok (.new 19, 3) := by decide +kernel
theorem dX6_init_18 : decode cX6_init 18 = .ok (.dup, 1) := by decide +kernel
theorem dX6_init_19 : decode cX6_init 19 = .ok (.invokespecial 21, 3) := by decide +kernel
theorem dX6_init_22 : decode cX6_init 22 = .ok (.putfield 22, 3) := by decide +kernel
theorem dX6_init_25 : decode cX6_init 25 = .ok (.aload_n 0, 1) := by decide +kernel
theorem dX6_init_26 : decode cX6_init 26 = .ok (.iconst 4, 1) := by decide +kernel
theorem dX6_init_27 : decode cX6_init 27 = .ok (.newarray .int, 2) := by decide +kernel
theorem dX6_init_29 : decode cX6_init 29 = .ok (.putfield 26, 3) := by decide +kernel
theorem dX6_init_32 : decode cX6_init 32 = .ok (.aload_n 0, 1) := by decide +kernel
theorem dX6_init_33 : decode cX6_init 33 = .ok (.iconst 0, 1) := by decide +kernel
theorem dX6_init_34 : decode cX6_init 34 = .ok (.putfield 30, 3) := by decide +kernel
theorem dX6_init_37 : decode cX6_init 37 = .ok (.aload_n 0, 1) := by decide +kernel
theorem dX6_init_38 : decode cX6_init 38 = .ok (.iconst 5, 1) := by decide +kernel
theorem dX6_init_39 : decode cX6_init 39 = .ok (.putfield 34, 3) := by decide +kernel
theorem dX6_init_42 : decode cX6_init 42 = .ok (.aload_n 0, 1) := by decide +kernel
theorem dX6_init_43 : decode cX6_init 43 = .ok (.iconst 0, 1) := by decide +kernel
theorem dX6_init_44 : decode cX6_init 44 = .ok (.putfield 37, 3) := by decide +kernel
theorem dX6_init_47 : decode cX6_init 47 = .ok (.aload_n 0, 1) := by decide +kernel
theorem dX6_init_48 : decode cX6_init 48 = .ok (.iconst 0, 1) := by decide +kernel
theorem dX6_init_49 : decode cX6_init 49 = .ok (.putfield 40, 3) := by decide +kernel
theorem dX6_init_52 : decode cX6_init 52 = .ok (.aload_n 0, 1) := by decide +kernel
theorem dX6_init_53 : decode cX6_init 53 = .ok (.iconst 0, 1) := by decide +kernel
theorem dX6_init_54 : decode cX6_init 54 = .ok (.putfield 43, 3) := by decide +kernel
theorem dX6_init_57 : decode cX6_init 57 = .ok (.aload_n 0, 1) := by decide +kernel
theorem dX6_init_58 : decode cX6_init 58 = .ok (.iconst 0, 1) := by decide +kernel
theorem dX6_init_59 : decode cX6_init 59 = .ok (.putfield 47, 3) := by decide +kernel
theorem dX6_init_62 : decode cX6_init 62 = .ok (.aload_n 0, 1) := by decide +kernel
theorem dX6_init_63 : decode cX6_init 63 = .ok (.bipush 10, 2) := by decide +kernel
theorem dX6_init_65 : decode cX6_init 65 = .ok (.newarray .int, 2) := by decide +kernel
theorem dX6_init_67 : decode cX6_init 67 = .ok (.putfield 50, 3) := by decide +kernel
theorem dX6_init_70 : decode cX6_init 70 = .ok (.aload_n 0, 1) := by decide +kernel
theorem dX6_init_71 : decode cX6_init 71 = .ok (.iconst 0, 1) := by decide +kernel
theorem dX6_init_72 : decode cX6_init 72 = .ok (.putfield 53, 3) := by decide +kernel
theorem dX6_init_75 : decode cX6_init 75 = .ok (.aload_n 0, 1) := by decide +kernel
theorem dX6_init_76 : decode cX6_init 76 = .ok (.bipush 10, 2) := by decide +kernel
theorem dX6_init_78 : decode cX6_init 78 = .ok (.newarray .int, 2) := by decide +kernel
theorem dX6_init_80 : decode cX6_init 80 = .ok (.putfield 56, 3) := by decide +kernel
theorem dX6_init_83 : decode cX6_init 83 = .ok (.aload_n 0, 1) := by decide +kernel
theorem dX6_init_84 : decode cX6_init 84 = .ok (.bipush 10, 2) := by decide +kernel
theorem dX6_init_86 : decode cX6_init 86 = .ok (.newarray .int, 2) := by decide +kernel
theorem dX6_init_88 : decode cX6_init 88 = .ok (.putfield 59, 3) := by decide +kernel
theorem dX6_init_91 : decode cX6_init 91 = .ok (.return_, 1) := by decide +kernel
theorem dX6_addHint_0 : decode cX6_addHint 0 = .ok (.aload_n 0, 1) := by decide +kernel
theorem dX6_addHint_1 : decode cX6_addHint 1 = .ok (.getfield 30, 3) := by decide +kernel
theorem dX6_addHint_4 : decode cX6_addHint 4 = .ok (.iconst 4, 1) := by decide +kernel
theorem dX6_addHint_5 : decode cX6_addHint 5 = .ok (.if_icmp .lt 5, 3) := by decide +kernel
theorem dX6_addHint_8 : decode cX6_addHint 8 = .ok (.iconst (-1), 1) := by decide +kernel
theorem dX6_addHint_9 : decode cX6_addHint 9 = .ok (.ireturn, 1) := by decide +kernel
theorem dX6_addHint_10 : decode cX6_addHint 10 = .ok (.aload_n 0, 1) := by decide +kernel
theorem dX6_addHint_11 : decode cX6_addHint 11 = .ok (.getfield 26, 3) := by decide +kernel
theorem dX6_addHint_14 : decode cX6_addHint 14 = .ok (.aload_n 0, 1) := by decide +kernel
theorem dX6_addHint_15 : decode cX6_addHint 15 = .ok (.getfield 30, 3) := by decide +kernel
theorem dX6_addHint_18 : decode cX6_addHint 18 = .ok (.iload_n 1, 1) := by decide +kernel
theorem dX6_addHint_19 : decode cX6_addHint 19 = .ok (.iastore, 1) := by decide +kernel
theorem dX6_addHint_20 : decode cX6_addHint 20 = .ok (.aload_n 0, 1) := by decide +kernel
theorem dX6_addHint_21 : decode cX6_addHint 21 = .ok (.dup, 1) := by decide +kernel
theorem dX6_addHint_22 : decode cX6_addHint 22 = .ok (.getfield 30, 3) := by decide +kernel
theorem dX6_addHint_25 : decode cX6_addHint 25 = .ok (.iconst 1, 1) := by decide +kernel
theorem dX6_addHint_26 : decode cX6_addHint 26 = .ok (.iadd, 1) := by decide +kernel
theorem dX6_addHint_27 : decode cX6_addHint 27 = .ok (.putfield 30, 3) := by decide +kernel
theorem dX6_addHint_30 : decode cX6_addHint 30 = .ok (.aload_n 0, 1) := by decide +kernel
theorem dX6_addHint_31 : decode cX6_addHint 31 = .ok (.getfield 30, 3) := by decide +kernel
theorem dX6_addHint_34 : decode cX6_addHint 34 = .ok (.ireturn, 1) := by decide +kernel
theorem dX6_hints_0 : decode cX6_hints 0 = .ok (.aload_n 0, 1) := by decide +kernel
theorem dX6_hints_1 : decode cX6_hints 1 = .ok (.getfield 30, 3) := by decide +kernel
theorem dX6_hints_4 : decode cX6_hints 4 = .ok (.ireturn, 1) := by decide +kernel
theorem dX6_state_0 : decode cX6_state 0 = .ok (.aload_n 0, 1) := by decide +kernel
theorem dX6_state_1 : decode cX6_state 1 = .ok (.getfield 34, 3) := by decide +kernel
theorem dX6_state_4 : decode cX6_state 4 = .ok (.ireturn, 1) := by decide +kernel
theorem dX6_isWaiting_0 : decode cX6_isWaiting 0 = .ok (.aload_n 0, 1) := by decide +kernel
theorem dX6_isWaiting_1 : decode cX6_isWaiting 1 = .ok (.getfield 43, 3) := by decide +kernel
theorem dX6_isWaiting_4 : decode cX6_isWaiting 4 = .ok (.ireturn, 1) := by decide +kernel
theorem dX6_address_0 : decode cX6_address 0 = .ok (.aload_n 0, 1) := by decide +kernel
theorem dX6_address_1 : decode cX6_address 1 = .ok (.getfield 47, 3) := by decide +kernel
theorem dX6_address_4 : decode cX6_address 4 = .ok (.ireturn, 1) := by decide +kernel
theorem dX6_id_0 : decode cX6_id 0 = .ok (.aload_n 0, 1) := by decide +kernel
theorem dX6_id_1 : decode cX6_id 1 = .ok (.getfield 40, 3) := by decide +kernel
theorem dX6_id_4 : decode cX6_id 4 = .ok (.ldc 62, 2) := by decide +kernel
theorem dX6_id_6 : decode cX6_id 6 = .ok (.iand, 1) := by decide +kernel
theorem dX6_id_7 : decode cX6_id 7 = .ok (.ireturn, 1) := by decide +kernel
theorem dX6_askedName_0 : decode cX6_askedName 0 = .ok (.aload_n 0, 1) := by decide +kernel
theorem dX6_askedName_1 : decode cX6_askedName 1 = .ok (.getfield 22, 3) := by decide +kernel
theorem dX6_askedName_4 : decode cX6_askedName 4 = .ok (.invokevirtual 63, 3) := by decide +kernel
theorem dX6_askedName_7 : decode cX6_askedName 7 = .ok (.ireturn, 1) := by decide +kernel
theorem dX6_askedType_0 : decode cX6_askedType 0 = .ok (.aload_n 0, 1) := by decide +kernel
theorem dX6_askedType_1 : decode cX6_askedType 1 = .ok (.getfield 22, 3) := by decide +kernel
theorem dX6_askedType_4 : decode cX6_askedType 4 = .ok (.invokevirtual 67, 3) := by decide +kernel
theorem dX6_askedType_7 : decode cX6_askedType 7 = .ok (.ireturn, 1) := by decide +kernel
theorem dX6_depth_0 : decode cX6_depth 0 = .ok (.aload_n 0, 1) := by decide +kernel
theorem dX6_depth_1 : decode cX6_depth 1 = .ok (.getfield 22, 3) := by decide +kernel
theorem dX6_depth_4 : decode cX6_depth 4 = .ok (.invokevirtual 70, 3) := by decide +kernel
theorem dX6_depth_7 : decode cX6_depth 7 = .ok (.ireturn, 1) := by decide +kernel
theorem dX6_place_0 : decode cX6_place 0 = .ok (.aload_n 0, 1) := by decide +kernel
theorem dX6_place_1 : decode cX6_place 1 = .ok (.getfield 22, 3) := by decide +kernel
theorem dX6_place_4 : decode cX6_place 4 = .ok (.invokevirtual 73, 3) := by decide +kernel
theorem dX6_place_7 : decode cX6_place 7 = .ok (.ireturn, 1) := by decide +kernel
theorem dX6_sent_0 : decode cX6_sent 0 = .ok (.aload_n 0, 1) := by decide +kernel
theorem dX6_sent_1 : decode cX6_sent 1 = .ok (.getfield 37, 3) := by decide +kernel
theorem dX6_sent_4 : decode cX6_sent 4 = .ok (.ireturn, 1) := by decide +kernel
theorem dX6_sentEver_0 : decode cX6_sentEver 0 = .ok (.aload_n 0, 1) := by decide +kernel
theorem dX6_sentEver_1 : decode cX6_sentEver 1 = .ok (.getfield 40, 3) := by decide +kernel
theorem dX6_sentEver_4 : decode cX6_sentEver 4 = .ok (.ireturn, 1) := by decide +kernel
theorem dX6_firstChains_0 : decode cX6_firstChains 0 = .ok (.aload_n 0, 1) := by decide +kernel
theorem dX6_firstChains_1 : decode cX6_firstChains 1 = .ok (.getfield 22, 3) := by decide +kernel
theorem dX6_firstChains_4 : decode cX6_firstChains 4 = .ok (.invokevirtual 76, 3) := by decide +kernel
theorem dX6_firstChains_7 : decode cX6_firstChains 7 = .ok (.ireturn, 1) := by decide +kernel
theorem dX6_firstName_0 : decode cX6_firstName 0 = .ok (.aload_n 0, 1) := by decide +kernel
theorem dX6_firstName_1 : decode cX6_firstName 1 = .ok (.getfield 22, 3) := by decide +kernel
theorem dX6_firstName_4 : decode cX6_firstName 4 = .ok (.invokevirtual 79, 3) := by decide +kernel
theorem dX6_firstName_7 : decode cX6_firstName 7 = .ok (.ireturn, 1) := by decide +kernel
theorem dX6_foundSize_0 : decode cX6_foundSize 0 = .ok (.aload_n 0, 1) := by decide +kernel
theorem dX6_foundSize_1 : decode cX6_foundSize 1 = .ok (.getfield 53, 3) := by decide +kernel
theorem dX6_foundSize_4 : decode cX6_foundSize 4 = .ok (.ireturn, 1) := by decide +kernel
theorem dX6_found_0 : decode cX6_found 0 = .ok (.iload_n 1, 1) := by decide +kernel
theorem dX6_found_1 : decode cX6_found 1 = .ok (.ifCond .lt 20, 3) := by decide +kernel
theorem dX6_found_4 : decode cX6_found 4 = .ok (.iload_n 1, 1) := by decide +kernel
theorem dX6_found_5 : decode cX6_found 5 = .ok (.aload_n 0, 1) := by decide +kernel
theorem dX6_found_6 : decode cX6_found 6 = .ok (.getfield 53, 3) := by decide +kernel
theorem dX6_found_9 : decode cX6_found 9 = .ok (.if_icmp .ge 12, 3) := by decide +kernel
theorem dX6_found_12 : decode cX6_found 12 = .ok (.aload_n 0, 1) := by decide +kernel
theorem dX6_found_13 : decode cX6_found 13 = .ok (.getfield 50, 3) := by decide +kernel
theorem dX6_found_16 : decode cX6_found 16 = .ok (.iload_n 1, 1) := by decide +kernel
theorem dX6_found_17 : decode cX6_found 17 = .ok (.iaload, 1) := by decide +kernel
theorem dX6_found_18 : decode cX6_found 18 = .ok (.goto 4, 3) := by decide +kernel
theorem dX6_found_21 : decode cX6_found 21 = .ok (.iconst 0, 1) := by decide +kernel
theorem dX6_found_22 : decode cX6_found 22 = .ok (.ireturn, 1) := by decide +kernel
theorem dX6_begin_0 : decode cX6_begin 0 = .ok (.aload_n 0, 1) := by decide +kernel
theorem dX6_begin_1 : decode cX6_begin 1 = .ok (.iconst 4, 1) := by decide +kernel
theorem dX6_begin_2 : decode cX6_begin 2 = .ok (.putfield 34, 3) := by decide +kernel
theorem dX6_begin_5 : decode cX6_begin 5 = .ok (.aload_n 0, 1) := by decide +kernel
theorem dX6_begin_6 : decode cX6_begin 6 = .ok (.iconst 0, 1) := by decide +kernel
theorem dX6_begin_7 : decode cX6_begin 7 = .ok (.putfield 37, 3) := by decide +kernel
theorem dX6_begin_10 : decode cX6_begin 10 = .ok (.aload_n 0, 1) := by decide +kernel
theorem dX6_begin_11 : decode cX6_begin 11 = .ok (.iconst 0, 1) := by decide +kernel
theorem dX6_begin_12 : decode cX6_begin 12 = .ok (.putfield 53, 3) := by decide +kernel
theorem dX6_begin_15 : decode cX6_begin 15 = .ok (.aload_n 0, 1) := by decide +kernel
theorem dX6_begin_16 : decode cX6_begin 16 = .ok (.getfield 22, 3) := by decide +kernel
theorem dX6_begin_19 : decode cX6_begin 19 = .ok (.invokevirtual 82, 3) := by decide +kernel
theorem dX6_begin_22 : decode cX6_begin 22 = .ok (.aload_n 0, 1) := by decide +kernel
theorem dX6_begin_23 : decode cX6_begin 23 = .ok (.getfield 22, 3) := by decide +kernel
theorem dX6_begin_26 : decode cX6_begin 26 = .ok (.iload_n 1, 1) := by decide +kernel
theorem dX6_begin_27 : decode cX6_begin 27 = .ok (.iload_n 2, 1) := by decide +kernel
theorem dX6_begin_28 : decode cX6_begin 28 = .ok (.invokevirtual 85, 3) := by decide +kernel
theorem dX6_begin_31 : decode cX6_begin 31 = .ok (.pop, 1) := by decide +kernel
theorem dX6_begin_32 : decode cX6_begin 32 = .ok (.return_, 1) := by decide +kernel
theorem dX6_goOn_0 : decode cX6_goOn 0 = .ok (.aload_n 0, 1) := by decide +kernel
theorem dX6_goOn_1 : decode cX6_goOn 1 = .ok (.iconst 0, 1) := by decide +kernel
theorem dX6_goOn_2 : decode cX6_goOn 2 = .ok (.putfield 43, 3) := by decide +kernel
theorem dX6_goOn_5 : decode cX6_goOn 5 = .ok (.iconst 0, 1) := by decide +kernel
theorem dX6_goOn_6 : decode cX6_goOn 6 = .ok (.istore_n 1, 1) := by decide +kernel
theorem dX6_goOn_7 : decode cX6_goOn 7 = .ok (.iload_n 1, 1) := by decide +kernel
theorem dX6_goOn_8 : decode cX6_goOn 8 = .ok (.ldc 89, 2) := by decide +kernel
theorem dX6_goOn_10 : decode cX6_goOn 10 = .ok (.if_icmp .ge 28, 3) := by decide +kernel
theorem dX6_goOn_13 : decode cX6_goOn 13 = .ok (.aload_n 0, 1) := by decide +kernel
theorem dX6_goOn_14 : decode cX6_goOn 14 = .ok (.getfield 34, 3) := by decide +kernel
theorem dX6_goOn_17 : decode cX6_goOn 17 = .ok (.iconst 4, 1) := by decide +kernel
theorem dX6_goOn_18 : decode cX6_goOn 18 = .ok (.if_icmp .ne 20, 3) := by decide +kernel
theorem dX6_goOn_21 : decode cX6_goOn 21 = .ok (.aload_n 0, 1) := by decide +kernel
theorem dX6_goOn_22 : decode cX6_goOn 22 = .ok (.getfield 43, 3) := by decide +kernel
theorem dX6_goOn_25 : decode cX6_goOn 25 = .ok (.ifCond .ne 13, 3) := by decide +kernel
theorem dX6_goOn_28 : decode cX6_goOn 28 = .ok (.aload_n 0, 1) := by decide +kernel
theorem dX6_goOn_29 : decode cX6_goOn 29 = .ok (.invokevirtual 90, 3) := by decide +kernel
theorem dX6_goOn_32 : decode cX6_goOn 32 = .ok (.iinc 1 1, 3) := by decide +kernel
theorem dX6_goOn_35 : decode cX6_goOn 35 = .ok (.goto (-28), 3) := by decide +kernel
theorem dX6_goOn_38 : decode cX6_goOn 38 = .ok (.aload_n 0, 1) := by decide +kernel
theorem dX6_goOn_39 : decode cX6_goOn 39 = .ok (.getfield 43, 3) := by decide +kernel
theorem dX6_goOn_42 : decode cX6_goOn 42 = .ok (.ifCond .ne 16, 3) := by decide +kernel
theorem dX6_goOn_45 : decode cX6_goOn 45 = .ok (.aload_n 0, 1) := by decide +kernel
theorem dX6_goOn_46 : decode cX6_goOn 46 = .ok (.getfield 34, 3) := by decide +kernel
theorem dX6_goOn_49 : decode cX6_goOn 49 = .ok (.iconst 4, 1) := by decide +kernel
theorem dX6_goOn_50 : decode cX6_goOn 50 = .ok (.if_icmp .ne 8, 3) := by decide +kernel
theorem dX6_goOn_53 : decode cX6_goOn 53 = .ok (.aload_n 0, 1) := by decide +kernel
theorem dX6_goOn_54 : decode cX6_goOn 54 = .ok (.iconst 3, 1) := by decide +kernel
theorem dX6_goOn_55 : decode cX6_goOn 55 = .ok (.putfield 34, 3) := by decide +kernel
theorem dX6_goOn_58 : decode cX6_goOn 58 = .ok (.aload_n 0, 1) := by decide +kernel
theorem dX6_goOn_59 : decode cX6_goOn 59 = .ok (.getfield 43, 3) := by decide +kernel
theorem dX6_goOn_62 : decode cX6_goOn 62 = .ok (.ifCond .eq 7, 3) := by decide +kernel
theorem dX6_goOn_65 : decode cX6_goOn 65 = .ok (.iconst 1, 1) := by decide +kernel
theorem dX6_goOn_66 : decode cX6_goOn 66 = .ok (.goto 4, 3) := by decide +kernel
theorem dX6_goOn_69 : decode cX6_goOn 69 = .ok (.iconst 0, 1) := by decide +kernel
theorem dX6_goOn_70 : decode cX6_goOn 70 = .ok (.ireturn, 1) := by decide +kernel
theorem dX6_isAnsweredBy_0 : decode cX6_isAnsweredBy 0 = .ok (.aload_n 1, 1) := by decide +kernel
theorem dX6_isAnsweredBy_1 : decode cX6_isAnsweredBy 1 = .ok (.aload_n 0, 1) := by decide +kernel
theorem dX6_isAnsweredBy_2 : decode cX6_isAnsweredBy 2 = .ok (.invokevirtual 93, 3) := by decide +kernel
theorem dX6_isAnsweredBy_5 : decode cX6_isAnsweredBy 5 = .ok (.aload_n 0, 1) := by decide +kernel
theorem dX6_isAnsweredBy_6 : decode cX6_isAnsweredBy 6 = .ok (.invokevirtual 96, 3) := by decide +kernel
theorem dX6_isAnsweredBy_9 : decode cX6_isAnsweredBy 9 = .ok (.aload_n 0, 1) := by decide +kernel
theorem dX6_isAnsweredBy_10 : decode cX6_isAnsweredBy 10 = .ok (.invokevirtual 99, 3) := by decide +kernel
theorem dX6_isAnsweredBy_13 : decode cX6_isAnsweredBy 13 = .ok (.invokevirtual 102, 3) := by decide +kernel
theorem dX6_isAnsweredBy_16 : decode cX6_isAnsweredBy 16 = .ok (.ireturn, 1) := by decide +kernel
theorem dX6_learn_0 : decode cX6_learn 0 = .ok (.aload_n 1, 1) := by decide +kernel
theorem dX6_learn_1 : decode cX6_learn 1 = .ok (.invokevirtual 108, 3) := by decide +kernel
theorem dX6_learn_4 : decode cX6_learn 4 = .ok (.astore_n 2, 1) := by decide +kernel
theorem dX6_learn_5 : decode cX6_learn 5 = .ok (.aload_n 0, 1) := by decide +kernel
theorem dX6_learn_6 : decode cX6_learn 6 = .ok (.invokevirtual 96, 3) := by decide +kernel
theorem dX6_learn_9 : decode cX6_learn 9 = .ok (.istore_n 3, 1) := by decide +kernel
theorem dX6_learn_10 : decode cX6_learn 10 = .ok (.aload_n 0, 1) := by decide +kernel
theorem dX6_learn_11 : decode cX6_learn 11 = .ok (.invokevirtual 99, 3) := by decide +kernel
theorem dX6_learn_14 : decode cX6_learn 14 = .ok (.istore 4, 2) := by decide +kernel
theorem dX6_learn_16 : decode cX6_learn 16 = .ok (.aload_n 0, 1) := by decide +kernel
theorem dX6_learn_17 : decode cX6_learn 17 = .ok (.aload_n 2, 1) := by decide +kernel
theorem dX6_learn_18 : decode cX6_learn 18 = .ok (.iconst 0, 1) := by decide +kernel
theorem dX6_learn_19 : decode cX6_learn 19 = .ok (.iload_n 3, 1) := by decide +kernel
theorem dX6_learn_20 : decode cX6_learn 20 = .ok (.iload 4, 2) := by decide +kernel
theorem dX6_learn_22 : decode cX6_learn 22 = .ok (.invokevirtual 112, 3) := by decide +kernel
theorem dX6_learn_25 : decode cX6_learn 25 = .ok (.ifCond .le 4, 3) := by decide +kernel
theorem dX6_learn_28 : decode cX6_learn 28 = .ok (.return_, 1) := by decide +kernel
theorem dX6_learn_29 : decode cX6_learn 29 = .ok (.iload 4, 2) := by decide +kernel
theorem dX6_learn_31 : decode cX6_learn 31 = .ok (.iconst 5, 1) := by decide +kernel
theorem dX6_learn_32 : decode cX6_learn 32 = .ok (.if_icmp .eq 13, 3) := by decide +kernel
theorem dX6_learn_35 : decode cX6_learn 35 = .ok (.aload_n 0, 1) := by decide +kernel
theorem dX6_learn_36 : decode cX6_learn 36 = .ok (.aload_n 2, 1) := by decide +kernel
theorem dX6_learn_37 : decode cX6_learn 37 = .ok (.iload_n 3, 1) := by decide +kernel
theorem dX6_learn_38 : decode cX6_learn 38 = .ok (.invokevirtual 116, 3) := by decide +kernel
theorem dX6_learn_41 : decode cX6_learn 41 = .ok (.ifCond .eq 4, 3) := by decide +kernel
theorem dX6_learn_44 : decode cX6_learn 44 = .ok (.return_, 1) := by decide +kernel
theorem dX6_learn_45 : decode cX6_learn 45 = .ok (.aload_n 2, 1) := by decide +kernel
theorem dX6_learn_46 : decode cX6_learn 46 = .ok (.iconst 1, 1) := by decide +kernel
theorem dX6_learn_47 : decode cX6_learn 47 = .ok (.bipush 6, 2) := by decide +kernel
theorem dX6_learn_49 : decode cX6_learn 49 = .ok (.invokevirtual 120, 3) := by decide +kernel
theorem dX6_learn_52 : decode cX6_learn 52 = .ok (.istore 5, 2) := by decide +kernel
theorem dX6_learn_54 : decode cX6_learn 54 = .ok (.aload_n 1, 1) := by decide +kernel
theorem dX6_learn_55 : decode cX6_learn 55 = .ok (.invokevirtual 126, 3) := by decide +kernel
theorem dX6_learn_58 : decode cX6_learn 58 = .ok (.bipush 15, 2) := by decide +kernel
theorem dX6_learn_60 : decode cX6_learn 60 = .ok (.iand, 1) := by decide +kernel
theorem dX6_learn_61 : decode cX6_learn 61 = .ok (.istore 6, 2) := by decide +kernel
theorem dX6_learn_63 : decode cX6_learn 63 = .ok (.iload 5, 2) := by decide +kernel
theorem dX6_learn_65 : decode cX6_learn 65 = .ok (.iconst (-1), 1) := by decide +kernel
theorem dX6_learn_66 : decode cX6_learn 66 = .ok (.if_icmp .eq 21, 3) := by decide +kernel
theorem dX6_learn_69 : decode cX6_learn 69 = .ok (.iload 6, 2) := by decide +kernel
theorem dX6_learn_71 : decode cX6_learn 71 = .ok (.iconst 3, 1) := by decide +kernel
theorem dX6_learn_72 : decode cX6_learn 72 = .ok (.if_icmp .ne 15, 3) := by decide +kernel
theorem dX6_learn_75 : decode cX6_learn 75 = .ok (.aload_n 0, 1) := by decide +kernel
theorem dX6_learn_76 : decode cX6_learn 76 = .ok (.aload_n 2, 1) := by decide +kernel
theorem dX6_learn_77 : decode cX6_learn 77 = .ok (.iload 5, 2) := by decide +kernel
theorem dX6_learn_79 : decode cX6_learn 79 = .ok (.iload_n 3, 1) := by decide +kernel
theorem dX6_learn_80 : decode cX6_learn 80 = .ok (.iconst 0, 1) := by decide +kernel
theorem dX6_learn_81 : decode cX6_learn 81 = .ok (.invokevirtual 129, 3) := by decide +kernel
theorem dX6_learn_84 : decode cX6_learn 84 = .ok (.goto 44, 3) := by decide +kernel
theorem dX6_learn_87 : decode cX6_learn 87 = .ok (.iload 5, 2) := by decide +kernel
theorem dX6_learn_89 : decode cX6_learn 89 = .ok (.iconst (-1), 1) := by decide +kernel
theorem dX6_learn_90 : decode cX6_learn 90 = .ok (.if_icmp .eq 32, 3) := by decide +kernel
theorem dX6_learn_93 : decode cX6_learn 93 = .ok (.iload 6, 2) := by decide +kernel
theorem dX6_learn_95 : decode cX6_learn 95 = .ok (.ifCond .ne 27, 3) := by decide +kernel
theorem dX6_learn_98 : decode cX6_learn 98 = .ok (.aload_n 1, 1) := by decide +kernel
theorem dX6_learn_99 : decode cX6_learn 99 = .ok (.invokevirtual 126, 3) := by decide +kernel
theorem dX6_learn_102 : decode cX6_learn 102 = .ok (.sipush 1024, 3) := by decide +kernel
theorem dX6_learn_105 : decode cX6_learn 105 = .ok (.iand, 1) := by decide +kernel
theorem dX6_learn_106 : decode cX6_learn 106 = .ok (.ifCond .eq 16, 3) := by decide +kernel
theorem dX6_learn_109 : decode cX6_learn 109 = .ok (.aload_n 0, 1) := by decide +kernel
theorem dX6_learn_110 : decode cX6_learn 110 = .ok (.aload_n 2, 1) := by decide +kernel
theorem dX6_learn_111 : decode cX6_learn 111 = .ok (.iload 5, 2) := by decide +kernel
theorem dX6_learn_113 : decode cX6_learn 113 = .ok (.iload_n 3, 1) := by decide +kernel
theorem dX6_learn_114 : decode cX6_learn 114 = .ok (.iload 4, 2) := by decide +kernel
theorem dX6_learn_116 : decode cX6_learn 116 = .ok (.invokevirtual 129, 3) := by decide +kernel
theorem dX6_learn_119 : decode cX6_learn 119 = .ok (.goto 9, 3) := by decide +kernel
theorem dX6_learn_122 : decode cX6_learn 122 = .ok (.aload_n 0, 1) := by decide +kernel
theorem dX6_learn_123 : decode cX6_learn 123 = .ok (.aload_n 2, 1) := by decide +kernel
theorem dX6_learn_124 : decode cX6_learn 124 = .ok (.iload_n 3, 1) := by decide +kernel
theorem dX6_learn_125 : decode cX6_learn 125 = .ok (.invokevirtual 133, 3) := by decide +kernel
theorem dX6_learn_128 : decode cX6_learn 128 = .ok (.return_, 1) := by decide +kernel
theorem dX6_move_0 : decode cX6_move 0 = .ok (.aload_n 0, 1) := by decide +kernel
theorem dX6_move_1 : decode cX6_move 1 = .ok (.getfield 22, 3) := by decide +kernel
theorem dX6_move_4 : decode cX6_move 4 = .ok (.invokevirtual 63, 3) := by decide +kernel
theorem dX6_move_7 : decode cX6_move 7 = .ok (.istore_n 1, 1) := by decide +kernel
theorem dX6_move_8 : decode cX6_move 8 = .ok (.aload_n 0, 1) := by decide +kernel
theorem dX6_move_9 : decode cX6_move 9 = .ok (.getfield 22, 3) := by decide +kernel
theorem dX6_move_12 : decode cX6_move 12 = .ok (.invokevirtual 67, 3) := by decide +kernel
theorem dX6_move_15 : decode cX6_move 15 = .ok (.istore_n 2, 1) := by decide +kernel
theorem dX6_move_16 : decode cX6_move 16 = .ok (.aload_n 0, 1) := by decide +kernel
theorem dX6_move_17 : decode cX6_move 17 = .ok (.getfield 15, 3) := by decide +kernel
theorem dX6_move_20 : decode cX6_move 20 = .ok (.iload_n 1, 1) := by decide +kernel
theorem dX6_move_21 : decode cX6_move 21 = .ok (.iload_n 2, 1) := by decide +kernel
theorem dX6_move_22 : decode cX6_move 22 = .ok (.invokevirtual 137, 3) := by decide +kernel
theorem dX6_move_25 : decode cX6_move 25 = .ok (.istore_n 3, 1) := by decide +kernel
theorem dX6_move_26 : decode cX6_move 26 = .ok (.iload_n 3, 1) := by decide +kernel
theorem dX6_move_27 : decode cX6_move 27 = .ok (.iconst (-1), 1) := by decide +kernel
theorem dX6_move_28 : decode cX6_move 28 = .ok (.if_icmp .eq 10, 3) := by decide +kernel
theorem dX6_move_31 : decode cX6_move 31 = .ok (.aload_n 0, 1) := by decide +kernel
theorem dX6_move_32 : decode cX6_move 32 = .ok (.iconst 0, 1) := by decide +kernel
theorem dX6_move_33 : decode cX6_move 33 = .ok (.iload_n 3, 1) := by decide +kernel
theorem dX6_move_34 : decode cX6_move 34 = .ok (.invokevirtual 142, 3) := by decide +kernel
theorem dX6_move_37 : decode cX6_move 37 = .ok (.return_, 1) := by decide +kernel
theorem dX6_move_38 : decode cX6_move 38 = .ok (.iload_n 2, 1) := by decide +kernel
theorem dX6_move_39 : decode cX6_move 39 = .ok (.iconst 5, 1) := by decide +kernel
theorem dX6_move_40 : decode cX6_move 40 = .ok (.if_icmp .ne 7, 3) := by decide +kernel
theorem dX6_move_43 : decode cX6_move 43 = .ok (.iconst (-1), 1) := by decide +kernel
theorem dX6_move_44 : decode cX6_move 44 = .ok (.goto 12, 3) := by decide +kernel
theorem dX6_move_47 : decode cX6_move 47 = .ok (.aload_n 0, 1) := by decide +kernel
theorem dX6_move_48 : decode cX6_move 48 = .ok (.getfield 15, 3) := by decide +kernel
theorem dX6_move_51 : decode cX6_move 51 = .ok (.iload_n 1, 1) := by decide +kernel
theorem dX6_move_52 : decode cX6_move 52 = .ok (.iconst 5, 1) := by decide +kernel
theorem dX6_move_53 : decode cX6_move 53 = .ok (.invokevirtual 137, 3) := by decide +kernel
theorem dX6_move_56 : decode cX6_move 56 = .ok (.istore 4, 2) := by decide +kernel
theorem dX6_move_58 : decode cX6_move 58 = .ok (.iload 4, 2) := by decide +kernel
theorem dX6_move_60 : decode cX6_move 60 = .ok (.iconst (-1), 1) := by decide +kernel
theorem dX6_move_61 : decode cX6_move 61 = .ok (.if_icmp .eq 12, 3) := by decide +kernel
theorem dX6_move_64 : decode cX6_move 64 = .ok (.aload_n 0, 1) := by decide +kernel
theorem dX6_move_65 : decode cX6_move 65 = .ok (.iload 4, 2) := by decide +kernel
theorem dX6_move_67 : decode cX6_move 67 = .ok (.invokevirtual 146, 3) := by decide +kernel
theorem dX6_move_70 : decode cX6_move 70 = .ok (.goto 50, 3) := by decide +kernel
theorem dX6_move_73 : decode cX6_move 73 = .ok (.aload_n 0, 1) := by decide +kernel
theorem dX6_move_74 : decode cX6_move 74 = .ok (.getfield 15, 3) := by decide +kernel
theorem dX6_move_77 : decode cX6_move 77 = .ok (.iload_n 1, 1) := by decide +kernel
theorem dX6_move_78 : decode cX6_move 78 = .ok (.iconst 0, 1) := by decide +kernel
theorem dX6_move_79 : decode cX6_move 79 = .ok (.invokevirtual 150, 3) := by decide +kernel
theorem dX6_move_82 : decode cX6_move 82 = .ok (.ifCond .ne 12, 3) := by decide +kernel
theorem dX6_move_85 : decode cX6_move 85 = .ok (.aload_n 0, 1) := by decide +kernel
theorem dX6_move_86 : decode cX6_move 86 = .ok (.iconst 2, 1) := by decide +kernel
theorem dX6_move_87 : decode cX6_move 87 = .ok (.iconst (-1), 1) := by decide +kernel
theorem dX6_move_88 : decode cX6_move 88 = .ok (.invokevirtual 142, 3) := by decide +kernel
theorem dX6_move_91 : decode cX6_move 91 = .ok (.goto 29, 3) := by decide +kernel
theorem dX6_move_94 : decode cX6_move 94 = .ok (.aload_n 0, 1) := by decide +kernel
theorem dX6_move_95 : decode cX6_move 95 = .ok (.getfield 15, 3) := by decide +kernel
theorem dX6_move_98 : decode cX6_move 98 = .ok (.iload_n 1, 1) := by decide +kernel
theorem dX6_move_99 : decode cX6_move 99 = .ok (.iload_n 2, 1) := by decide +kernel
theorem dX6_move_100 : decode cX6_move 100 = .ok (.invokevirtual 150, 3) := by decide +kernel
theorem dX6_move_103 : decode cX6_move 103 = .ok (.ifCond .ne 12, 3) := by decide +kernel
theorem dX6_move_106 : decode cX6_move 106 = .ok (.aload_n 0, 1) := by decide +kernel
theorem dX6_move_107 : decode cX6_move 107 = .ok (.iconst 1, 1) := by decide +kernel
theorem dX6_move_108 : decode cX6_move 108 = .ok (.iconst (-1), 1) := by decide +kernel
theorem dX6_move_109 : decode cX6_move 109 = .ok (.invokevirtual 142, 3) := by decide +kernel
theorem dX6_move_112 : decode cX6_move 112 = .ok (.goto 8, 3) := by decide +kernel
theorem dX6_move_115 : decode cX6_move 115 = .ok (.aload_n 0, 1) := by decide +kernel
theorem dX6_move_116 : decode cX6_move 116 = .ok (.iload_n 1, 1) := by decide +kernel
theorem dX6_move_117 : decode cX6_move 117 = .ok (.invokevirtual 153, 3) := by decide +kernel
theorem dX6_move_120 : decode cX6_move 120 = .ok (.return_, 1) := by decide +kernel
theorem dX6_followAlias_0 : decode cX6_followAlias 0 = .ok (.aload_n 0, 1) := by decide +kernel
theorem dX6_followAlias_1 : decode cX6_followAlias 1 = .ok (.getfield 22, 3) := by decide +kernel
theorem dX6_followAlias_4 : decode cX6_followAlias 4 = .ok (.invokevirtual 156, 3) := by decide +kernel
theorem dX6_followAlias_7 : decode cX6_followAlias 7 = .ok (.bipush 8, 2) := by decide +kernel
theorem dX6_followAlias_9 : decode cX6_followAlias 9 = .ok (.if_icmp .lt 12, 3) := by decide +kernel
theorem dX6_followAlias_12 : decode cX6_followAlias 12 = .ok (.aload_n 0, 1) := by decide +kernel
theorem dX6_followAlias_13 : decode cX6_followAlias 13 = .ok (.iconst 3, 1) := by decide +kernel
theorem dX6_followAlias_14 : decode cX6_followAlias 14 = .ok (.iconst (-1), 1) := by decide +kernel
theorem dX6_followAlias_15 : decode cX6_followAlias 15 = .ok (.invokevirtual 142, 3) := by decide +kernel
theorem dX6_followAlias_18 : decode cX6_followAlias 18 = .ok (.goto 19, 3) := by decide +kernel
theorem dX6_followAlias_21 : decode cX6_followAlias 21 = .ok (.aload_n 0, 1) := by decide +kernel
theorem dX6_followAlias_22 : decode cX6_followAlias 22 = .ok (.getfield 22, 3) := by decide +kernel
theorem dX6_followAlias_25 : decode cX6_followAlias 25 = .ok (.aload_n 0, 1) := by decide +kernel
theorem dX6_followAlias_26 : decode cX6_followAlias 26 = .ok (.getfield 15, 3) := by decide +kernel
theorem dX6_followAlias_29 : decode cX6_followAlias 29 = .ok (.iload_n 1, 1) := by decide +kernel
theorem dX6_followAlias_30 : decode cX6_followAlias 30 = .ok (.iconst 0, 1) := by decide +kernel
theorem dX6_followAlias_31 : decode cX6_followAlias 31 = .ok (.invokevirtual 159, 3) := by decide +kernel
theorem dX6_followAlias_34 : decode cX6_followAlias 34 = .ok (.invokevirtual 162, 3) := by decide +kernel
theorem dX6_followAlias_37 : decode cX6_followAlias 37 = .ok (.return_, 1) := by decide +kernel
theorem dX6_moveOut_0 : decode cX6_moveOut 0 = .ok (.aload_n 0, 1) := by decide +kernel
theorem dX6_moveOut_1 : decode cX6_moveOut 1 = .ok (.iload_n 1, 1) := by decide +kernel
theorem dX6_moveOut_2 : decode cX6_moveOut 2 = .ok (.invokevirtual 165, 3) := by decide +kernel
theorem dX6_moveOut_5 : decode cX6_moveOut 5 = .ok (.istore_n 2, 1) := by decide +kernel
theorem dX6_moveOut_6 : decode cX6_moveOut 6 = .ok (.aload_n 0, 1) := by decide +kernel
theorem dX6_moveOut_7 : decode cX6_moveOut 7 = .ok (.getfield 22, 3) := by decide +kernel
theorem dX6_moveOut_10 : decode cX6_moveOut 10 = .ok (.iload_n 2, 1) := by decide +kernel
theorem dX6_moveOut_11 : decode cX6_moveOut 11 = .ok (.invokevirtual 169, 3) := by decide +kernel
theorem dX6_moveOut_14 : decode cX6_moveOut 14 = .ok (.aload_n 0, 1) := by decide +kernel
theorem dX6_moveOut_15 : decode cX6_moveOut 15 = .ok (.getfield 15, 3) := by decide +kernel
theorem dX6_moveOut_18 : decode cX6_moveOut 18 = .ok (.iload_n 2, 1) := by decide +kernel
theorem dX6_moveOut_19 : decode cX6_moveOut 19 = .ok (.iconst 2, 1) := by decide +kernel
theorem dX6_moveOut_20 : decode cX6_moveOut 20 = .ok (.invokevirtual 137, 3) := by decide +kernel
theorem dX6_moveOut_23 : decode cX6_moveOut 23 = .ok (.istore_n 3, 1) := by decide +kernel
theorem dX6_moveOut_24 : decode cX6_moveOut 24 = .ok (.iload_n 3, 1) := by decide +kernel
theorem dX6_moveOut_25 : decode cX6_moveOut 25 = .ok (.iconst (-1), 1) := by decide +kernel
theorem dX6_moveOut_26 : decode cX6_moveOut 26 = .ok (.if_icmp .ne 10, 3) := by decide +kernel
theorem dX6_moveOut_29 : decode cX6_moveOut 29 = .ok (.aload_n 0, 1) := by decide +kernel
theorem dX6_moveOut_30 : decode cX6_moveOut 30 = .ok (.invokevirtual 172, 3) := by decide +kernel
theorem dX6_moveOut_33 : decode cX6_moveOut 33 = .ok (.goto 8, 3) := by decide +kernel
theorem dX6_moveOut_36 : decode cX6_moveOut 36 = .ok (.aload_n 0, 1) := by decide +kernel
theorem dX6_moveOut_37 : decode cX6_moveOut 37 = .ok (.iload_n 3, 1) := by decide +kernel
theorem dX6_moveOut_38 : decode cX6_moveOut 38 = .ok (.invokevirtual 176, 3) := by decide +kernel
theorem dX6_moveOut_41 : decode cX6_moveOut 41 = .ok (.istore 4, 2) := by decide +kernel
theorem dX6_moveOut_43 : decode cX6_moveOut 43 = .ok (.iload 4, 2) := by decide +kernel
theorem dX6_moveOut_45 : decode cX6_moveOut 45 = .ok (.ifCond .ne 17, 3) := by decide +kernel
theorem dX6_moveOut_48 : decode cX6_moveOut 48 = .ok (.aload_n 0, 1) := by decide +kernel
theorem dX6_moveOut_49 : decode cX6_moveOut 49 = .ok (.iload_n 3, 1) := by decide +kernel
theorem dX6_moveOut_50 : decode cX6_moveOut 50 = .ok (.invokevirtual 180, 3) := by decide +kernel
theorem dX6_moveOut_53 : decode cX6_moveOut 53 = .ok (.ifCond .ne 9, 3) := by decide +kernel
theorem dX6_moveOut_56 : decode cX6_moveOut 56 = .ok (.aload_n 0, 1) := by decide +kernel
theorem dX6_moveOut_57 : decode cX6_moveOut 57 = .ok (.iconst 3, 1) := by decide +kernel
theorem dX6_moveOut_58 : decode cX6_moveOut 58 = .ok (.iconst (-1), 1) := by decide +kernel
theorem dX6_moveOut_59 : decode cX6_moveOut 59 = .ok (.invokevirtual 142, 3) := by decide +kernel
theorem dX6_moveOut_62 : decode cX6_moveOut 62 = .ok (.return_, 1) := by decide +kernel
theorem dX6_placeOf_0 : decode cX6_placeOf 0 = .ok (.iload_n 1, 1) := by decide +kernel
theorem dX6_placeOf_1 : decode cX6_placeOf 1 = .ok (.istore_n 2, 1) := by decide +kernel
theorem dX6_placeOf_2 : decode cX6_placeOf 2 = .ok (.iconst 0, 1) := by decide +kernel
theorem dX6_placeOf_3 : decode cX6_placeOf 3 = .ok (.istore_n 3, 1) := by decide +kernel
theorem dX6_placeOf_4 : decode cX6_placeOf 4 = .ok (.iload_n 3, 1) := by decide +kernel
theorem dX6_placeOf_5 : decode cX6_placeOf 5 = .ok (.bipush 6, 2) := by decide +kernel
theorem dX6_placeOf_7 : decode cX6_placeOf 7 = .ok (.if_icmp .ge 37, 3) := by decide +kernel
theorem dX6_placeOf_10 : decode cX6_placeOf 10 = .ok (.iload_n 2, 1) := by decide +kernel
theorem dX6_placeOf_11 : decode cX6_placeOf 11 = .ok (.ifCond .eq 33, 3) := by decide +kernel
theorem dX6_placeOf_14 : decode cX6_placeOf 14 = .ok (.aload_n 0, 1) := by decide +kernel
theorem dX6_placeOf_15 : decode cX6_placeOf 15 = .ok (.getfield 15, 3) := by decide +kernel
theorem dX6_placeOf_18 : decode cX6_placeOf 18 = .ok (.iload_n 2, 1) := by decide +kernel
theorem dX6_placeOf_19 : decode cX6_placeOf 19 = .ok (.iconst 2, 1) := by decide +kernel
theorem dX6_placeOf_20 : decode cX6_placeOf 20 = .ok (.invokevirtual 137, 3) := by decide +kernel
theorem dX6_placeOf_23 : decode cX6_placeOf 23 = .ok (.iconst (-1), 1) := by decide +kernel
theorem dX6_placeOf_24 : decode cX6_placeOf 24 = .ok (.if_icmp .eq 5, 3) := by decide +kernel
theorem dX6_placeOf_27 : decode cX6_placeOf 27 = .ok (.iload_n 2, 1) := by decide +kernel
theorem dX6_placeOf_28 : decode cX6_placeOf 28 = .ok (.ireturn, 1) := by decide +kernel
theorem dX6_placeOf_29 : decode cX6_placeOf 29 = .ok (.aload_n 0, 1) := by decide +kernel
theorem dX6_placeOf_30 : decode cX6_placeOf 30 = .ok (.getfield 9, 3) := by decide +kernel
theorem dX6_placeOf_33 : decode cX6_placeOf 33 = .ok (.iload_n 2, 1) := by decide +kernel
theorem dX6_placeOf_34 : decode cX6_placeOf 34 = .ok (.invokevirtual 183, 3) := by decide +kernel
theorem dX6_placeOf_37 : decode cX6_placeOf 37 = .ok (.istore_n 2, 1) := by decide +kernel
theorem dX6_placeOf_38 : decode cX6_placeOf 38 = .ok (.iinc 3 1, 3) := by decide +kernel
theorem dX6_placeOf_41 : decode cX6_placeOf 41 = .ok (.goto (-37), 3) := by decide +kernel
theorem dX6_placeOf_44 : decode cX6_placeOf 44 = .ok (.iconst 0, 1) := by decide +kernel
theorem dX6_placeOf_45 : decode cX6_placeOf 45 = .ok (.ireturn, 1) := by decide +kernel
theorem dX6_tryHints_0 : decode cX6_tryHints 0 = .ok (.iconst 0, 1) := by decide +kernel
theorem dX6_tryHints_1 : decode cX6_tryHints 1 = .ok (.istore_n 1, 1) := by decide +kernel
theorem dX6_tryHints_2 : decode cX6_tryHints 2 = .ok (.iload_n 1, 1) := by decide +kernel
theorem dX6_tryHints_3 : decode cX6_tryHints 3 = .ok (.aload_n 0, 1) := by decide +kernel
theorem dX6_tryHints_4 : decode cX6_tryHints 4 = .ok (.getfield 30, 3) := by decide +kernel
theorem dX6_tryHints_7 : decode cX6_tryHints 7 = .ok (.if_icmp .ge 37, 3) := by decide +kernel
theorem dX6_tryHints_10 : decode cX6_tryHints 10 = .ok (.aload_n 0, 1) := by decide +kernel
theorem dX6_tryHints_11 : decode cX6_tryHints 11 = .ok (.getfield 22, 3) := by decide +kernel
theorem dX6_tryHints_14 : decode cX6_tryHints 14 = .ok (.aload_n 0, 1) := by decide +kernel
theorem dX6_tryHints_15 : decode cX6_tryHints 15 = .ok (.getfield 26, 3) := by decide +kernel
theorem dX6_tryHints_18 : decode cX6_tryHints 18 = .ok (.iload_n 1, 1) := by decide +kernel
theorem dX6_tryHints_19 : decode cX6_tryHints 19 = .ok (.iaload, 1) := by decide +kernel
theorem dX6_tryHints_20 : decode cX6_tryHints 20 = .ok (.invokevirtual 188, 3) := by decide +kernel
theorem dX6_tryHints_23 : decode cX6_tryHints 23 = .ok (.ifCond .ne 15, 3) := by decide +kernel
theorem dX6_tryHints_26 : decode cX6_tryHints 26 = .ok (.aload_n 0, 1) := by decide +kernel
theorem dX6_tryHints_27 : decode cX6_tryHints 27 = .ok (.aload_n 0, 1) := by decide +kernel
theorem dX6_tryHints_28 : decode cX6_tryHints 28 = .ok (.getfield 26, 3) := by decide +kernel
theorem dX6_tryHints_31 : decode cX6_tryHints 31 = .ok (.iload_n 1, 1) := by decide +kernel
theorem dX6_tryHints_32 : decode cX6_tryHints 32 = .ok (.iaload, 1) := by decide +kernel
theorem dX6_tryHints_33 : decode cX6_tryHints 33 = .ok (.invokevirtual 191, 3) := by decide +kernel
theorem dX6_tryHints_36 : decode cX6_tryHints 36 = .ok (.iconst 1, 1) := by decide +kernel
theorem dX6_tryHints_37 : decode cX6_tryHints 37 = .ok (.ireturn, 1) := by decide +kernel
theorem dX6_tryHints_38 : decode cX6_tryHints 38 = .ok (.iinc 1 1, 3) := by decide +kernel
theorem dX6_tryHints_41 : decode cX6_tryHints 41 = .ok (.goto (-39), 3) := by decide +kernel
theorem dX6_tryHints_44 : decode cX6_tryHints 44 = .ok (.iconst 0, 1) := by decide +kernel
theorem dX6_tryHints_45 : decode cX6_tryHints 45 = .ok (.ireturn, 1) := by decide +kernel
theorem dX6_tryHosts_0 : decode cX6_tryHosts 0 = .ok (.iconst 0, 1) := by decide +kernel
theorem dX6_tryHosts_1 : decode cX6_tryHosts 1 = .ok (.istore_n 2, 1) := by decide +kernel
theorem dX6_tryHosts_2 : decode cX6_tryHosts 2 = .ok (.iload_n 2, 1) := by decide +kernel
theorem dX6_tryHosts_3 : decode cX6_tryHosts 3 = .ok (.aload_n 0, 1) := by decide +kernel
theorem dX6_tryHosts_4 : decode cX6_tryHosts 4 = .ok (.getfield 15, 3) := by decide +kernel
theorem dX6_tryHosts_7 : decode cX6_tryHosts 7 = .ok (.iload_n 1, 1) := by decide +kernel
theorem dX6_tryHosts_8 : decode cX6_tryHosts 8 = .ok (.invokevirtual 194, 3) := by decide +kernel
theorem dX6_tryHosts_11 : decode cX6_tryHosts 11 = .ok (.if_icmp .ge 81, 3) := by decide +kernel
theorem dX6_tryHosts_14 : decode cX6_tryHosts 14 = .ok (.aload_n 0, 1) := by decide +kernel
theorem dX6_tryHosts_15 : decode cX6_tryHosts 15 = .ok (.getfield 15, 3) := by decide +kernel
theorem dX6_tryHosts_18 : decode cX6_tryHosts 18 = .ok (.aload_n 0, 1) := by decide +kernel
theorem dX6_tryHosts_19 : decode cX6_tryHosts 19 = .ok (.getfield 15, 3) := by decide +kernel
theorem dX6_tryHosts_22 : decode cX6_tryHosts 22 = .ok (.iload_n 1, 1) := by decide +kernel
theorem dX6_tryHosts_23 : decode cX6_tryHosts 23 = .ok (.iload_n 2, 1) := by decide +kernel
theorem dX6_tryHosts_24 : decode cX6_tryHosts 24 = .ok (.invokevirtual 159, 3) := by decide +kernel
theorem dX6_tryHosts_27 : decode cX6_tryHosts 27 = .ok (.iconst 1, 1) := by decide +kernel
theorem dX6_tryHosts_28 : decode cX6_tryHosts 28 = .ok (.invokevirtual 137, 3) := by decide +kernel
theorem dX6_tryHosts_31 : decode cX6_tryHosts 31 = .ok (.istore_n 3, 1) := by decide +kernel
theorem dX6_tryHosts_32 : decode cX6_tryHosts 32 = .ok (.iconst 0, 1) := by decide +kernel
theorem dX6_tryHosts_33 : decode cX6_tryHosts 33 = .ok (.istore 4, 2) := by decide +kernel
theorem dX6_tryHosts_35 : decode cX6_tryHosts 35 = .ok (.iload 4, 2) := by decide +kernel
theorem dX6_tryHosts_37 : decode cX6_tryHosts 37 = .ok (.aload_n 0, 1) := by decide +kernel
theorem dX6_tryHosts_38 : decode cX6_tryHosts 38 = .ok (.getfield 15, 3) := by decide +kernel
theorem dX6_tryHosts_41 : decode cX6_tryHosts 41 = .ok (.iload_n 3, 1) := by decide +kernel
theorem dX6_tryHosts_42 : decode cX6_tryHosts 42 = .ok (.invokevirtual 194, 3) := by decide +kernel
theorem dX6_tryHosts_45 : decode cX6_tryHosts 45 = .ok (.if_icmp .ge 41, 3) := by decide +kernel
theorem dX6_tryHosts_48 : decode cX6_tryHosts 48 = .ok (.aload_n 0, 1) := by decide +kernel
theorem dX6_tryHosts_49 : decode cX6_tryHosts 49 = .ok (.getfield 15, 3) := by decide +kernel
theorem dX6_tryHosts_52 : decode cX6_tryHosts 52 = .ok (.iload_n 3, 1) := by decide +kernel
theorem dX6_tryHosts_53 : decode cX6_tryHosts 53 = .ok (.iload 4, 2) := by decide +kernel
theorem dX6_tryHosts_55 : decode cX6_tryHosts 55 = .ok (.invokevirtual 159, 3) := by decide +kernel
theorem dX6_tryHosts_58 : decode cX6_tryHosts 58 = .ok (.istore 5, 2) := by decide +kernel
theorem dX6_tryHosts_60 : decode cX6_tryHosts 60 = .ok (.aload_n 0, 1) := by decide +kernel
theorem dX6_tryHosts_61 : decode cX6_tryHosts 61 = .ok (.getfield 22, 3) := by decide +kernel
theorem dX6_tryHosts_64 : decode cX6_tryHosts 64 = .ok (.iload 5, 2) := by decide +kernel
theorem dX6_tryHosts_66 : decode cX6_tryHosts 66 = .ok (.invokevirtual 188, 3) := by decide +kernel
theorem dX6_tryHosts_69 : decode cX6_tryHosts 69 = .ok (.ifCond .ne 11, 3) := by decide +kernel
theorem dX6_tryHosts_72 : decode cX6_tryHosts 72 = .ok (.aload_n 0, 1) := by decide +kernel
theorem dX6_tryHosts_73 : decode cX6_tryHosts 73 = .ok (.iload 5, 2) := by decide +kernel
theorem dX6_tryHosts_75 : decode cX6_tryHosts 75 = .ok (.invokevirtual 191, 3) := by decide +kernel
theorem dX6_tryHosts_78 : decode cX6_tryHosts 78 = .ok (.iconst 1, 1) := by decide +kernel
theorem dX6_tryHosts_79 : decode cX6_tryHosts 79 = .ok (.ireturn, 1) := by decide +kernel
theorem dX6_tryHosts_80 : decode cX6_tryHosts 80 = .ok (.iinc 4 1, 3) := by decide +kernel
theorem dX6_tryHosts_83 : decode cX6_tryHosts 83 = .ok (.goto (-48), 3) := by decide +kernel
theorem dX6_tryHosts_86 : decode cX6_tryHosts 86 = .ok (.iinc 2 1, 3) := by decide +kernel
theorem dX6_tryHosts_89 : decode cX6_tryHosts 89 = .ok (.goto (-87), 3) := by decide +kernel
theorem dX6_tryHosts_92 : decode cX6_tryHosts 92 = .ok (.iconst 0, 1) := by decide +kernel
theorem dX6_tryHosts_93 : decode cX6_tryHosts 93 = .ok (.ireturn, 1) := by decide +kernel
theorem dX6_sendTo_0 : decode cX6_sendTo 0 = .ok (.aload_n 0, 1) := by decide +kernel
theorem dX6_sendTo_1 : decode cX6_sendTo 1 = .ok (.getfield 37, 3) := by decide +kernel
theorem dX6_sendTo_4 : decode cX6_sendTo 4 = .ok (.bipush 40, 2) := by decide +kernel
theorem dX6_sendTo_6 : decode cX6_sendTo 6 = .ok (.if_icmp .lt 9, 3) := by decide +kernel
theorem dX6_sendTo_9 : decode cX6_sendTo 9 = .ok (.aload_n 0, 1) := by decide +kernel
theorem dX6_sendTo_10 : decode cX6_sendTo 10 = .ok (.iconst 3, 1) := by decide +kernel
theorem dX6_sendTo_11 : decode cX6_sendTo 11 = .ok (.putfield 34, 3) := by decide +kernel
theorem dX6_sendTo_14 : decode cX6_sendTo 14 = .ok (.return_, 1) := by decide +kernel
theorem dX6_sendTo_15 : decode cX6_sendTo 15 = .ok (.aload_n 0, 1) := by decide +kernel
theorem dX6_sendTo_16 : decode cX6_sendTo 16 = .ok (.getfield 22, 3) := by decide +kernel
theorem dX6_sendTo_19 : decode cX6_sendTo 19 = .ok (.iload_n 1, 1) := by decide +kernel
theorem dX6_sendTo_20 : decode cX6_sendTo 20 = .ok (.invokevirtual 197, 3) := by decide +kernel
theorem dX6_sendTo_23 : decode cX6_sendTo 23 = .ok (.aload_n 0, 1) := by decide +kernel
theorem dX6_sendTo_24 : decode cX6_sendTo 24 = .ok (.iload_n 1, 1) := by decide +kernel
theorem dX6_sendTo_25 : decode cX6_sendTo 25 = .ok (.putfield 47, 3) := by decide +kernel
theorem dX6_sendTo_28 : decode cX6_sendTo 28 = .ok (.aload_n 0, 1) := by decide +kernel
theorem dX6_sendTo_29 : decode cX6_sendTo 29 = .ok (.dup, 1) := by decide +kernel
theorem dX6_sendTo_30 : decode cX6_sendTo 30 = .ok (.getfield 37, 3) := by decide +kernel
theorem dX6_sendTo_33 : decode cX6_sendTo 33 = .ok (.iconst 1, 1) := by decide +kernel
theorem dX6_sendTo_34 : decode cX6_sendTo 34 = .ok (.iadd, 1) := by decide +kernel
theorem dX6_sendTo_35 : decode cX6_sendTo 35 = .ok (.putfield 37, 3) := by decide +kernel
theorem dX6_sendTo_38 : decode cX6_sendTo 38 = .ok (.aload_n 0, 1) := by decide +kernel
theorem dX6_sendTo_39 : decode cX6_sendTo 39 = .ok (.dup, 1) := by decide +kernel
theorem dX6_sendTo_40 : decode cX6_sendTo 40 = .ok (.getfield 40, 3) := by decide +kernel
theorem dX6_sendTo_43 : decode cX6_sendTo 43 = .ok (.iconst 1, 1) := by decide +kernel
theorem dX6_sendTo_44 : decode cX6_sendTo 44 = .ok (.iadd, 1) := by decide +kernel
theorem dX6_sendTo_45 : decode cX6_sendTo 45 = .ok (.putfield 40, 3) := by decide +kernel
theorem dX6_sendTo_48 : decode cX6_sendTo 48 = .ok (.aload_n 0, 1) := by decide +kernel
theorem dX6_sendTo_49 : decode cX6_sendTo 49 = .ok (.iconst 1, 1) := by decide +kernel
theorem dX6_sendTo_50 : decode cX6_sendTo 50 = .ok (.putfield 43, 3) := by decide +kernel
theorem dX6_sendTo_53 : decode cX6_sendTo 53 = .ok (.return_, 1) := by decide +kernel
theorem dX6_sendForHost_0 : decode cX6_sendForHost 0 = .ok (.iconst 0, 1) := by decide +kernel
theorem dX6_sendForHost_1 : decode cX6_sendForHost 1 = .ok (.istore_n 2, 1) := by decide +kernel
theorem dX6_sendForHost_2 : decode cX6_sendForHost 2 = .ok (.iload_n 2, 1) := by decide +kernel
theorem dX6_sendForHost_3 : decode cX6_sendForHost 3 = .ok (.aload_n 0, 1) := by decide +kernel
theorem dX6_sendForHost_4 : decode cX6_sendForHost 4 = .ok (.getfield 15, 3) := by decide +kernel
theorem dX6_sendForHost_7 : decode cX6_sendForHost 7 = .ok (.iload_n 1, 1) := by decide +kernel
theorem dX6_sendForHost_8 : decode cX6_sendForHost 8 = .ok (.invokevirtual 194, 3) := by decide +kernel
theorem dX6_sendForHost_11 : decode cX6_sendForHost 11 = .ok (.if_icmp .ge 61, 3) := by decide +kernel
theorem dX6_sendForHost_14 : decode cX6_sendForHost 14 = .ok (.aload_n 0, 1) := by decide +kernel
theorem dX6_sendForHost_15 : decode cX6_sendForHost 15 = .ok (.getfield 15, 3) := by decide +kernel
theorem dX6_sendForHost_18 : decode cX6_sendForHost 18 = .ok (.iload_n 1, 1) := by decide +kernel
theorem dX6_sendForHost_19 : decode cX6_sendForHost 19 = .ok (.iload_n 2, 1) := by decide +kernel
theorem dX6_sendForHost_20 : decode cX6_sendForHost 20 = .ok (.invokevirtual 159, 3) := by decide +kernel
theorem dX6_sendForHost_23 : decode cX6_sendForHost 23 = .ok (.istore_n 3, 1) := by decide +kernel
theorem dX6_sendForHost_24 : decode cX6_sendForHost 24 = .ok (.aload_n 0, 1) := by decide +kernel
theorem dX6_sendForHost_25 : decode cX6_sendForHost 25 = .ok (.getfield 15, 3) := by decide +kernel
theorem dX6_sendForHost_28 : decode cX6_sendForHost 28 = .ok (.iload_n 3, 1) := by decide +kernel
theorem dX6_sendForHost_29 : decode cX6_sendForHost 29 = .ok (.iconst 1, 1) := by decide +kernel
theorem dX6_sendForHost_30 : decode cX6_sendForHost 30 = .ok (.invokevirtual 137, 3) := by decide +kernel
theorem dX6_sendForHost_33 : decode cX6_sendForHost 33 = .ok (.iconst (-1), 1) := by decide +kernel
theorem dX6_sendForHost_34 : decode cX6_sendForHost 34 = .ok (.if_icmp .ne 32, 3) := by decide +kernel
theorem dX6_sendForHost_37 : decode cX6_sendForHost 37 = .ok (.aload_n 0, 1) := by decide +kernel
theorem dX6_sendForHost_38 : decode cX6_sendForHost 38 = .ok (.getfield 22, 3) := by decide +kernel
theorem dX6_sendForHost_41 : decode cX6_sendForHost 41 = .ok (.iload_n 3, 1) := by decide +kernel
theorem dX6_sendForHost_42 : decode cX6_sendForHost 42 = .ok (.invokevirtual 200, 3) := by decide +kernel
theorem dX6_sendForHost_45 : decode cX6_sendForHost 45 = .ok (.ifCond .ne 21, 3) := by decide +kernel
theorem dX6_sendForHost_48 : decode cX6_sendForHost 48 = .ok (.aload_n 0, 1) := by decide +kernel
theorem dX6_sendForHost_49 : decode cX6_sendForHost 49 = .ok (.getfield 22, 3) := by decide +kernel
theorem dX6_sendForHost_52 : decode cX6_sendForHost 52 = .ok (.iload_n 3, 1) := by decide +kernel
theorem dX6_sendForHost_53 : decode cX6_sendForHost 53 = .ok (.invokevirtual 203, 3) := by decide +kernel
theorem dX6_sendForHost_56 : decode cX6_sendForHost 56 = .ok (.aload_n 0, 1) := by decide +kernel
theorem dX6_sendForHost_57 : decode cX6_sendForHost 57 = .ok (.getfield 22, 3) := by decide +kernel
theorem dX6_sendForHost_60 : decode cX6_sendForHost 60 = .ok (.iload_n 3, 1) := by decide +kernel
theorem dX6_sendForHost_61 : decode cX6_sendForHost 61 = .ok (.iconst 1, 1) := by decide +kernel
theorem dX6_sendForHost_62 : decode cX6_sendForHost 62 = .ok (.invokevirtual 85, 3) := by decide +kernel
theorem dX6_sendForHost_65 : decode cX6_sendForHost 65 = .ok (.ireturn, 1) := by decide +kernel
theorem dX6_sendForHost_66 : decode cX6_sendForHost 66 = .ok (.iinc 2 1, 3) := by decide +kernel
theorem dX6_sendForHost_69 : decode cX6_sendForHost 69 = .ok (.goto (-67), 3) := by decide +kernel
theorem dX6_sendForHost_72 : decode cX6_sendForHost 72 = .ok (.iconst 0, 1) := by decide +kernel
theorem dX6_sendForHost_73 : decode cX6_sendForHost 73 = .ok (.ireturn, 1) := by decide +kernel
theorem dX6_endFrame_0 : decode cX6_endFrame 0 = .ok (.aload_n 0, 1) := by decide +kernel
theorem dX6_endFrame_1 : decode cX6_endFrame 1 = .ok (.getfield 22, 3) := by decide +kernel
theorem dX6_endFrame_4 : decode cX6_endFrame 4 = .ok (.invokevirtual 206, 3) := by decide +kernel
theorem dX6_endFrame_7 : decode cX6_endFrame 7 = .ok (.aload_n 0, 1) := by decide +kernel
theorem dX6_endFrame_8 : decode cX6_endFrame 8 = .ok (.getfield 22, 3) := by decide +kernel
theorem dX6_endFrame_11 : decode cX6_endFrame 11 = .ok (.invokevirtual 70, 3) := by decide +kernel
theorem dX6_endFrame_14 : decode cX6_endFrame 14 = .ok (.ifCond .le 4, 3) := by decide +kernel
theorem dX6_endFrame_17 : decode cX6_endFrame 17 = .ok (.return_, 1) := by decide +kernel
theorem dX6_endFrame_18 : decode cX6_endFrame 18 = .ok (.aload_n 0, 1) := by decide +kernel
theorem dX6_endFrame_19 : decode cX6_endFrame 19 = .ok (.iload_n 1, 1) := by decide +kernel
theorem dX6_endFrame_20 : decode cX6_endFrame 20 = .ok (.putfield 34, 3) := by decide +kernel
theorem dX6_endFrame_23 : decode cX6_endFrame 23 = .ok (.aload_n 0, 1) := by decide +kernel
theorem dX6_endFrame_24 : decode cX6_endFrame 24 = .ok (.iconst 0, 1) := by decide +kernel
theorem dX6_endFrame_25 : decode cX6_endFrame 25 = .ok (.putfield 53, 3) := by decide +kernel
theorem dX6_endFrame_28 : decode cX6_endFrame 28 = .ok (.iconst 0, 1) := by decide +kernel
theorem dX6_endFrame_29 : decode cX6_endFrame 29 = .ok (.istore_n 3, 1) := by decide +kernel
theorem dX6_endFrame_30 : decode cX6_endFrame 30 = .ok (.iload_n 3, 1) := by decide +kernel
theorem dX6_endFrame_31 : decode cX6_endFrame 31 = .ok (.aload_n 0, 1) := by decide +kernel
theorem dX6_endFrame_32 : decode cX6_endFrame 32 = .ok (.getfield 15, 3) := by decide +kernel
theorem dX6_endFrame_35 : decode cX6_endFrame 35 = .ok (.iload_n 2, 1) := by decide +kernel
theorem dX6_endFrame_36 : decode cX6_endFrame 36 = .ok (.invokevirtual 194, 3) := by decide +kernel
theorem dX6_endFrame_39 : decode cX6_endFrame 39 = .ok (.if_icmp .ge 37, 3) := by decide +kernel
theorem dX6_endFrame_42 : decode cX6_endFrame 42 = .ok (.iload_n 3, 1) := by decide +kernel
theorem dX6_endFrame_43 : decode cX6_endFrame 43 = .ok (.bipush 10, 2) := by decide +kernel
theorem dX6_endFrame_45 : decode cX6_endFrame 45 = .ok (.if_icmp .ge 31, 3) := by decide +kernel
theorem dX6_endFrame_48 : decode cX6_endFrame 48 = .ok (.aload_n 0, 1) := by decide +kernel
theorem dX6_endFrame_49 : decode cX6_endFrame 49 = .ok (.getfield 50, 3) := by decide +kernel
theorem dX6_endFrame_52 : decode cX6_endFrame 52 = .ok (.iload_n 3, 1) := by decide +kernel
theorem dX6_endFrame_53 : decode cX6_endFrame 53 = .ok (.aload_n 0, 1) := by decide +kernel
theorem dX6_endFrame_54 : decode cX6_endFrame 54 = .ok (.getfield 15, 3) := by decide +kernel
theorem dX6_endFrame_57 : decode cX6_endFrame 57 = .ok (.iload_n 2, 1) := by decide +kernel
theorem dX6_endFrame_58 : decode cX6_endFrame 58 = .ok (.iload_n 3, 1) := by decide +kernel
theorem dX6_endFrame_59 : decode cX6_endFrame 59 = .ok (.invokevirtual 159, 3) := by decide +kernel
theorem dX6_endFrame_62 : decode cX6_endFrame 62 = .ok (.iastore, 1) := by decide +kernel
theorem dX6_endFrame_63 : decode cX6_endFrame 63 = .ok (.aload_n 0, 1) := by decide +kernel
theorem dX6_endFrame_64 : decode cX6_endFrame 64 = .ok (.iload_n 3, 1) := by decide +kernel
theorem dX6_endFrame_65 : decode cX6_endFrame 65 = .ok (.iconst 1, 1) := by decide +kernel
theorem dX6_endFrame_66 : decode cX6_endFrame 66 = .ok (.iadd, 1) := by decide +kernel
theorem dX6_endFrame_67 : decode cX6_endFrame 67 = .ok (.putfield 53, 3) := by decide +kernel
theorem dX6_endFrame_70 : decode cX6_endFrame 70 = .ok (.iinc 3 1, 3) := by decide +kernel
theorem dX6_endFrame_73 : decode cX6_endFrame 73 = .ok (.goto (-43), 3) := by decide +kernel
theorem dX6_endFrame_76 : decode cX6_endFrame 76 = .ok (.return_, 1) := by decide +kernel
theorem dX6_keepSet_0 : decode cX6_keepSet 0 = .ok (.iconst 0, 1) := by decide +kernel
theorem dX6_keepSet_1 : decode cX6_keepSet 1 = .ok (.istore 5, 2) := by decide +kernel
theorem dX6_keepSet_3 : decode cX6_keepSet 3 = .ok (.ldc2_w 209, 3) := by decide +kernel
theorem dX6_keepSet_6 : decode cX6_keepSet 6 = .ok (.lstore 6, 2) := by decide +kernel
theorem dX6_keepSet_8 : decode cX6_keepSet 8 = .ok (.iconst 0, 1) := by decide +kernel
theorem dX6_keepSet_9 : decode cX6_keepSet 9 = .ok (.istore 8, 2) := by decide +kernel
theorem dX6_keepSet_11 : decode cX6_keepSet 11 = .ok (.iload 8, 2) := by decide +kernel
theorem dX6_keepSet_13 : decode cX6_keepSet 13 = .ok (.aload_n 1, 1) := by decide +kernel
theorem dX6_keepSet_14 : decode cX6_keepSet 14 = .ok (.invokevirtual 211, 3) := by decide +kernel
theorem dX6_keepSet_17 : decode cX6_keepSet 17 = .ok (.if_icmp .ge 52, 3) := by decide +kernel
theorem dX6_keepSet_20 : decode cX6_keepSet 20 = .ok (.aload_n 1, 1) := by decide +kernel
theorem dX6_keepSet_21 : decode cX6_keepSet 21 = .ok (.iload 8, 2) := by decide +kernel
theorem dX6_keepSet_23 : decode cX6_keepSet 23 = .ok (.iload_n 2, 1) := by decide +kernel
theorem dX6_keepSet_24 : decode cX6_keepSet 24 = .ok (.iload_n 3, 1) := by decide +kernel
theorem dX6_keepSet_25 : decode cX6_keepSet 25 = .ok (.iload 4, 2) := by decide +kernel
theorem dX6_keepSet_27 : decode cX6_keepSet 27 = .ok (.invokevirtual 214, 3) := by decide +kernel
theorem dX6_keepSet_30 : decode cX6_keepSet 30 = .ok (.ifCond .eq 33, 3) := by decide +kernel
theorem dX6_keepSet_33 : decode cX6_keepSet 33 = .ok (.lload 6, 2) := by decide +kernel
theorem dX6_keepSet_35 : decode cX6_keepSet 35 = .ok (.aload_n 1, 1) := by decide +kernel
theorem dX6_keepSet_36 : decode cX6_keepSet 36 = .ok (.iload 8, 2) := by decide +kernel
theorem dX6_keepSet_38 : decode cX6_keepSet 38 = .ok (.invokevirtual 218, 3) := by decide +kernel
theorem dX6_keepSet_41 : decode cX6_keepSet 41 = .ok (.invokestatic 221, 3) := by decide +kernel
theorem dX6_keepSet_44 : decode cX6_keepSet 44 = .ok (.invokestatic 225, 3) := by decide +kernel
theorem dX6_keepSet_47 : decode cX6_keepSet 47 = .ok (.lstore 6, 2) := by decide +kernel
theorem dX6_keepSet_49 : decode cX6_keepSet 49 = .ok (.aload_n 0, 1) := by decide +kernel
theorem dX6_keepSet_50 : decode cX6_keepSet 50 = .ok (.iload 5, 2) := by decide +kernel
theorem dX6_keepSet_52 : decode cX6_keepSet 52 = .ok (.aload_n 1, 1) := by decide +kernel
theorem dX6_keepSet_53 : decode cX6_keepSet 53 = .ok (.iload 8, 2) := by decide +kernel
theorem dX6_keepSet_55 : decode cX6_keepSet 55 = .ok (.invokevirtual 231, 3) := by decide +kernel
theorem dX6_keepSet_58 : decode cX6_keepSet 58 = .ok (.invokevirtual 234, 3) := by decide +kernel
theorem dX6_keepSet_61 : decode cX6_keepSet 61 = .ok (.istore 5, 2) := by decide +kernel
theorem dX6_keepSet_63 : decode cX6_keepSet 63 = .ok (.iinc 8 1, 3) := by decide +kernel
theorem dX6_keepSet_66 : decode cX6_keepSet 66 = .ok (.goto (-55), 3) := by decide +kernel
theorem dX6_keepSet_69 : decode cX6_keepSet 69 = .ok (.iload 5, 2) := by decide +kernel
theorem dX6_keepSet_71 : decode cX6_keepSet 71 = .ok (.ifCond .le 21, 3) := by decide +kernel
theorem dX6_keepSet_74 : decode cX6_keepSet 74 = .ok (.aload_n 0, 1) := by decide +kernel
theorem dX6_keepSet_75 : decode cX6_keepSet 75 = .ok (.getfield 15, 3) := by decide +kernel
theorem dX6_keepSet_78 : decode cX6_keepSet 78 = .ok (.iload_n 3, 1) := by decide +kernel
theorem dX6_keepSet_79 : decode cX6_keepSet 79 = .ok (.iload 4, 2) := by decide +kernel
theorem dX6_keepSet_81 : decode cX6_keepSet 81 = .ok (.aload_n 0, 1) := by decide +kernel
theorem dX6_keepSet_82 : decode cX6_keepSet 82 = .ok (.getfield 56, 3) := by decide +kernel
theorem dX6_keepSet_85 : decode cX6_keepSet 85 = .ok (.iload 5, 2) := by decide +kernel
theorem dX6_keepSet_87 : decode cX6_keepSet 87 = .ok (.lload 6, 2) := by decide +kernel
theorem dX6_keepSet_89 : decode cX6_keepSet 89 = .ok (.invokevirtual 237, 3) := by decide +kernel
theorem dX6_keepSet_92 : decode cX6_keepSet 92 = .ok (.iload 5, 2) := by decide +kernel
theorem dX6_keepSet_94 : decode cX6_keepSet 94 = .ok (.ireturn, 1) := by decide +kernel
theorem dX6_addUnlike_0 : decode cX6_addUnlike 0 = .ok (.iconst 0, 1) := by decide +kernel
theorem dX6_addUnlike_1 : decode cX6_addUnlike 1 = .ok (.istore_n 3, 1) := by decide +kernel
theorem dX6_addUnlike_2 : decode cX6_addUnlike 2 = .ok (.iload_n 3, 1) := by decide +kernel
theorem dX6_addUnlike_3 : decode cX6_addUnlike 3 = .ok (.iload_n 1, 1) := by decide +kernel
theorem dX6_addUnlike_4 : decode cX6_addUnlike 4 = .ok (.if_icmp .ge 27, 3) := by decide +kernel
theorem dX6_addUnlike_7 : decode cX6_addUnlike 7 = .ok (.iload_n 3, 1) := by decide +kernel
theorem dX6_addUnlike_8 : decode cX6_addUnlike 8 = .ok (.bipush 10, 2) := by decide +kernel
theorem dX6_addUnlike_10 : decode cX6_addUnlike 10 = .ok (.if_icmp .ge 21, 3) := by decide +kernel
theorem dX6_addUnlike_13 : decode cX6_addUnlike 13 = .ok (.aload_n 0, 1) := by decide +kernel
theorem dX6_addUnlike_14 : decode cX6_addUnlike 14 = .ok (.getfield 56, 3) := by decide +kernel
theorem dX6_addUnlike_17 : decode cX6_addUnlike 17 = .ok (.iload_n 3, 1) := by decide +kernel
theorem dX6_addUnlike_18 : decode cX6_addUnlike 18 = .ok (.iaload, 1) := by decide +kernel
theorem dX6_addUnlike_19 : decode cX6_addUnlike 19 = .ok (.iload_n 2, 1) := by decide +kernel
theorem dX6_addUnlike_20 : decode cX6_addUnlike 20 = .ok (.if_icmp .ne 5, 3) := by decide +kernel
theorem dX6_addUnlike_23 : decode cX6_addUnlike 23 = .ok (.iload_n 1, 1) := by decide +kernel
theorem dX6_addUnlike_24 : decode cX6_addUnlike 24 = .ok (.ireturn, 1) := by decide +kernel
theorem dX6_addUnlike_25 : decode cX6_addUnlike 25 = .ok (.iinc 3 1, 3) := by decide +kernel
theorem dX6_addUnlike_28 : decode cX6_addUnlike 28 = .ok (.goto (-26), 3) := by decide +kernel
theorem dX6_addUnlike_31 : decode cX6_addUnlike 31 = .ok (.iload_n 1, 1) := by decide +kernel
theorem dX6_addUnlike_32 : decode cX6_addUnlike 32 = .ok (.ifCond .lt 9, 3) := by decide +kernel
theorem dX6_addUnlike_35 : decode cX6_addUnlike 35 = .ok (.iload_n 1, 1) := by decide +kernel
theorem dX6_addUnlike_36 : decode cX6_addUnlike 36 = .ok (.bipush 10, 2) := by decide +kernel
theorem dX6_addUnlike_38 : decode cX6_addUnlike 38 = .ok (.if_icmp .lt 5, 3) := by decide +kernel
theorem dX6_addUnlike_41 : decode cX6_addUnlike 41 = .ok (.iload_n 1, 1) := by decide +kernel
theorem dX6_addUnlike_42 : decode cX6_addUnlike 42 = .ok (.ireturn, 1) := by decide +kernel
theorem dX6_addUnlike_43 : decode cX6_addUnlike 43 = .ok (.aload_n 0, 1) := by decide +kernel
theorem dX6_addUnlike_44 : decode cX6_addUnlike 44 = .ok (.getfield 56, 3) := by decide +kernel
theorem dX6_addUnlike_47 : decode cX6_addUnlike 47 = .ok (.iload_n 1, 1) := by decide +kernel
theorem dX6_addUnlike_48 : decode cX6_addUnlike 48 = .ok (.iload_n 2, 1) := by decide +kernel
theorem dX6_addUnlike_49 : decode cX6_addUnlike 49 = .ok (.iastore, 1) := by decide +kernel
theorem dX6_addUnlike_50 : decode cX6_addUnlike 50 = .ok (.iload_n 1, 1) := by decide +kernel
theorem dX6_addUnlike_51 : decode cX6_addUnlike 51 = .ok (.iconst 1, 1) := by decide +kernel
theorem dX6_addUnlike_52 : decode cX6_addUnlike 52 = .ok (.iadd, 1) := by decide +kernel
theorem dX6_addUnlike_53 : decode cX6_addUnlike 53 = .ok (.ireturn, 1) := by decide +kernel
theorem dX6_keepFirstAlias_0 : decode cX6_keepFirstAlias 0 = .ok (.iconst 0, 1) := by decide +kernel
theorem dX6_keepFirstAlias_1 : decode cX6_keepFirstAlias 1 = .ok (.istore_n 3, 1) := by decide +kernel
theorem dX6_keepFirstAlias_2 : decode cX6_keepFirstAlias 2 = .ok (.iload_n 3, 1) := by decide +kernel
theorem dX6_keepFirstAlias_3 : decode cX6_keepFirstAlias 3 = .ok (.aload_n 1, 1) := by decide +kernel
theorem dX6_keepFirstAlias_4 : decode cX6_keepFirstAlias 4 = .ok (.invokevirtual 211, 3) := by decide +kernel
theorem dX6_keepFirstAlias_7 : decode cX6_keepFirstAlias 7 = .ok (.if_icmp .ge 55, 3) := by decide +kernel
theorem dX6_keepFirstAlias_10 : decode cX6_keepFirstAlias 10 = .ok (.aload_n 1, 1) := by decide +kernel
theorem dX6_keepFirstAlias_11 : decode cX6_keepFirstAlias 11 = .ok (.iload_n 3, 1) := by decide +kernel
theorem dX6_keepFirstAlias_12 : decode cX6_keepFirstAlias 12 = .ok (.iconst 0, 1) := by decide +kernel
theorem dX6_keepFirstAlias_13 : decode cX6_keepFirstAlias 13 = .ok (.iload_n 2, 1) := by decide +kernel
theorem dX6_keepFirstAlias_14 : decode cX6_keepFirstAlias 14 = .ok (.iconst 5, 1) := by decide +kernel
theorem dX6_keepFirstAlias_15 : decode cX6_keepFirstAlias 15 = .ok (.invokevirtual 214, 3) := by decide +kernel
theorem dX6_keepFirstAlias_18 : decode cX6_keepFirstAlias 18 = .ok (.ifCond .eq 38, 3) := by decide +kernel
theorem dX6_keepFirstAlias_21 : decode cX6_keepFirstAlias 21 = .ok (.aload_n 0, 1) := by decide +kernel
theorem dX6_keepFirstAlias_22 : decode cX6_keepFirstAlias 22 = .ok (.getfield 56, 3) := by decide +kernel
theorem dX6_keepFirstAlias_25 : decode cX6_keepFirstAlias 25 = .ok (.iconst 0, 1) := by decide +kernel
theorem dX6_keepFirstAlias_26 : decode cX6_keepFirstAlias 26 = .ok (.aload_n 1, 1) := by decide +kernel
theorem dX6_keepFirstAlias_27 : decode cX6_keepFirstAlias 27 = .ok (.iload_n 3, 1) := by decide +kernel
theorem dX6_keepFirstAlias_28 : decode cX6_keepFirstAlias 28 = .ok (.invokevirtual 231, 3) := by decide +kernel
theorem dX6_keepFirstAlias_31 : decode cX6_keepFirstAlias 31 = .ok (.iastore, 1) := by decide +kernel
theorem dX6_keepFirstAlias_32 : decode cX6_keepFirstAlias 32 = .ok (.aload_n 0, 1) := by decide +kernel
theorem dX6_keepFirstAlias_33 : decode cX6_keepFirstAlias 33 = .ok (.getfield 15, 3) := by decide +kernel
theorem dX6_keepFirstAlias_36 : decode cX6_keepFirstAlias 36 = .ok (.iload_n 2, 1) := by decide +kernel
theorem dX6_keepFirstAlias_37 : decode cX6_keepFirstAlias 37 = .ok (.iconst 5, 1) := by decide +kernel
theorem dX6_keepFirstAlias_38 : decode cX6_keepFirstAlias 38 = .ok (.aload_n 0, 1) := by decide +kernel
theorem dX6_keepFirstAlias_39 : decode cX6_keepFirstAlias 39 = .ok (.getfield 56, 3) := by decide +kernel
theorem dX6_keepFirstAlias_42 : decode cX6_keepFirstAlias 42 = .ok (.iconst 1, 1) := by decide +kernel
theorem dX6_keepFirstAlias_43 : decode cX6_keepFirstAlias 43 = .ok (.aload_n 1, 1) := by decide +kernel
theorem dX6_keepFirstAlias_44 : decode cX6_keepFirstAlias 44 = .ok (.iload_n 3, 1) := by decide +kernel
theorem dX6_keepFirstAlias_45 : decode cX6_keepFirstAlias 45 = .ok (.invokevirtual 218, 3) := by decide +kernel
theorem dX6_keepFirstAlias_48 : decode cX6_keepFirstAlias 48 = .ok (.invokestatic 221, 3) := by decide +kernel
theorem dX6_keepFirstAlias_51 : decode cX6_keepFirstAlias 51 = .ok (.invokevirtual 237, 3) := by decide +kernel
theorem dX6_keepFirstAlias_54 : decode cX6_keepFirstAlias 54 = .ok (.iconst 1, 1) := by decide +kernel
theorem dX6_keepFirstAlias_55 : decode cX6_keepFirstAlias 55 = .ok (.ireturn, 1) := by decide +kernel
theorem dX6_keepFirstAlias_56 : decode cX6_keepFirstAlias 56 = .ok (.iinc 3 1, 3) := by decide +kernel
theorem dX6_keepFirstAlias_59 : decode cX6_keepFirstAlias 59 = .ok (.goto (-57), 3) := by decide +kernel
theorem dX6_keepFirstAlias_62 : decode cX6_keepFirstAlias 62 = .ok (.iconst 0, 1) := by decide +kernel
theorem dX6_keepFirstAlias_63 : decode cX6_keepFirstAlias 63 = .ok (.ireturn, 1) := by decide +kernel
theorem dX6_keepNothing_0 : decode cX6_keepNothing 0 = .ok (.aload_n 1, 1) := by decide +kernel
theorem dX6_keepNothing_1 : decode cX6_keepNothing 1 = .ok (.iload_n 2, 1) := by decide +kernel
theorem dX6_keepNothing_2 : decode cX6_keepNothing 2 = .ok (.invokevirtual 218, 3) := by decide +kernel
theorem dX6_keepNothing_5 : decode cX6_keepNothing 5 = .ok (.invokestatic 221, 3) := by decide +kernel
theorem dX6_keepNothing_8 : decode cX6_keepNothing 8 = .ok (.aload_n 1, 1) := by decide +kernel
theorem dX6_keepNothing_9 : decode cX6_keepNothing 9 = .ok (.iload_n 2, 1) := by decide +kernel
theorem dX6_keepNothing_10 : decode cX6_keepNothing 10 = .ok (.invokevirtual 231, 3) := by decide +kernel
theorem dX6_keepNothing_13 : decode cX6_keepNothing 13 = .ok (.invokestatic 221, 3) := by decide +kernel
theorem dX6_keepNothing_16 : decode cX6_keepNothing 16 = .ok (.invokestatic 225, 3) := by decide +kernel
theorem dX6_keepNothing_19 : decode cX6_keepNothing 19 = .ok (.lstore 5, 2) := by decide +kernel
theorem dX6_keepNothing_21 : decode cX6_keepNothing 21 = .ok (.aload_n 0, 1) := by decide +kernel
theorem dX6_keepNothing_22 : decode cX6_keepNothing 22 = .ok (.getfield 15, 3) := by decide +kernel
theorem dX6_keepNothing_25 : decode cX6_keepNothing 25 = .ok (.iload_n 3, 1) := by decide +kernel
theorem dX6_keepNothing_26 : decode cX6_keepNothing 26 = .ok (.iload 4, 2) := by decide +kernel
theorem dX6_keepNothing_28 : decode cX6_keepNothing 28 = .ok (.aload_n 0, 1) := by decide +kernel
theorem dX6_keepNothing_29 : decode cX6_keepNothing 29 = .ok (.getfield 56, 3) := by decide +kernel
theorem dX6_keepNothing_32 : decode cX6_keepNothing 32 = .ok (.iconst 0, 1) := by decide +kernel
theorem dX6_keepNothing_33 : decode cX6_keepNothing 33 = .ok (.lload 5, 2) := by decide +kernel
theorem dX6_keepNothing_35 : decode cX6_keepNothing 35 = .ok (.invokevirtual 237, 3) := by decide +kernel
theorem dX6_keepNothing_38 : decode cX6_keepNothing 38 = .ok (.return_, 1) := by decide +kernel
theorem dX6_keepReferral_0 : decode cX6_keepReferral 0 = .ok (.aload_n 1, 1) := by decide +kernel
theorem dX6_keepReferral_1 : decode cX6_keepReferral 1 = .ok (.iconst 1, 1) := by decide +kernel
theorem dX6_keepReferral_2 : decode cX6_keepReferral 2 = .ok (.iconst 2, 1) := by decide +kernel
theorem dX6_keepReferral_3 : decode cX6_keepReferral 3 = .ok (.invokevirtual 120, 3) := by decide +kernel
theorem dX6_keepReferral_6 : decode cX6_keepReferral 6 = .ok (.istore_n 3, 1) := by decide +kernel
theorem dX6_keepReferral_7 : decode cX6_keepReferral 7 = .ok (.iload_n 3, 1) := by decide +kernel
theorem dX6_keepReferral_8 : decode cX6_keepReferral 8 = .ok (.iconst (-1), 1) := by decide +kernel
theorem dX6_keepReferral_9 : decode cX6_keepReferral 9 = .ok (.if_icmp .ne 4, 3) := by decide +kernel
theorem dX6_keepReferral_12 : decode cX6_keepReferral 12 = .ok (.return_, 1) := by decide +kernel
theorem dX6_keepReferral_13 : decode cX6_keepReferral 13 = .ok (.aload_n 1, 1) := by decide +kernel
theorem dX6_keepReferral_14 : decode cX6_keepReferral 14 = .ok (.iload_n 3, 1) := by decide +kernel
theorem dX6_keepReferral_15 : decode cX6_keepReferral 15 = .ok (.invokevirtual 241, 3) := by decide +kernel
theorem dX6_keepReferral_18 : decode cX6_keepReferral 18 = .ok (.istore 4, 2) := by decide +kernel
theorem dX6_keepReferral_20 : decode cX6_keepReferral 20 = .ok (.aload_n 0, 1) := by decide +kernel
theorem dX6_keepReferral_21 : decode cX6_keepReferral 21 = .ok (.getfield 22, 3) := by decide +kernel
theorem dX6_keepReferral_24 : decode cX6_keepReferral 24 = .ok (.invokevirtual 73, 3) := by decide +kernel
theorem dX6_keepReferral_27 : decode cX6_keepReferral 27 = .ok (.istore 5, 2) := by decide +kernel
theorem dX6_keepReferral_29 : decode cX6_keepReferral 29 = .ok (.iload 4, 2) := by decide +kernel
theorem dX6_keepReferral_31 : decode cX6_keepReferral 31 = .ok (.iload 5, 2) := by decide +kernel
theorem dX6_keepReferral_33 : decode cX6_keepReferral 33 = .ok (.if_icmp .eq 30, 3) := by decide +kernel
theorem dX6_keepReferral_36 : decode cX6_keepReferral 36 = .ok (.aload_n 0, 1) := by decide +kernel
theorem dX6_keepReferral_37 : decode cX6_keepReferral 37 = .ok (.getfield 9, 3) := by decide +kernel
theorem dX6_keepReferral_40 : decode cX6_keepReferral 40 = .ok (.iload 4, 2) := by decide +kernel
theorem dX6_keepReferral_42 : decode cX6_keepReferral 42 = .ok (.iload 5, 2) := by decide +kernel
theorem dX6_keepReferral_44 : decode cX6_keepReferral 44 = .ok (.invokevirtual 244, 3) := by decide +kernel
theorem dX6_keepReferral_47 : decode cX6_keepReferral 47 = .ok (.ifCond .eq 16, 3) := by decide +kernel
theorem dX6_keepReferral_50 : decode cX6_keepReferral 50 = .ok (.aload_n 0, 1) := by decide +kernel
theorem dX6_keepReferral_51 : decode cX6_keepReferral 51 = .ok (.getfield 9, 3) := by decide +kernel
theorem dX6_keepReferral_54 : decode cX6_keepReferral 54 = .ok (.iload_n 2, 1) := by decide +kernel
theorem dX6_keepReferral_55 : decode cX6_keepReferral 55 = .ok (.iload 4, 2) := by decide +kernel
theorem dX6_keepReferral_57 : decode cX6_keepReferral 57 = .ok (.invokevirtual 244, 3) := by decide +kernel
theorem dX6_keepReferral_60 : decode cX6_keepReferral 60 = .ok (.ifCond .ne 4, 3) := by decide +kernel
theorem dX6_keepReferral_63 : decode cX6_keepReferral 63 = .ok (.return_, 1) := by decide +kernel
theorem dX6_keepReferral_64 : decode cX6_keepReferral 64 = .ok (.aload_n 0, 1) := by decide +kernel
theorem dX6_keepReferral_65 : decode cX6_keepReferral 65 = .ok (.aload_n 1, 1) := by decide +kernel
theorem dX6_keepReferral_66 : decode cX6_keepReferral 66 = .ok (.iconst 1, 1) := by decide +kernel
theorem dX6_keepReferral_67 : decode cX6_keepReferral 67 = .ok (.iload 4, 2) := by decide +kernel
theorem dX6_keepReferral_69 : decode cX6_keepReferral 69 = .ok (.iconst 2, 1) := by decide +kernel
theorem dX6_keepReferral_70 : decode cX6_keepReferral 70 = .ok (.invokevirtual 112, 3) := by decide +kernel
theorem dX6_keepReferral_73 : decode cX6_keepReferral 73 = .ok (.istore 6, 2) := by decide +kernel
theorem dX6_keepReferral_75 : decode cX6_keepReferral 75 = .ok (.iconst 0, 1) := by decide +kernel
theorem dX6_keepReferral_76 : decode cX6_keepReferral 76 = .ok (.istore 7, 2) := by decide +kernel
theorem dX6_keepReferral_78 : decode cX6_keepReferral 78 = .ok (.iload 7, 2) := by decide +kernel
theorem dX6_keepReferral_80 : decode cX6_keepReferral 80 = .ok (.iload 6, 2) := by decide +kernel
theorem dX6_keepReferral_82 : decode cX6_keepReferral 82 = .ok (.if_icmp .ge 30, 3) := by decide +kernel
theorem dX6_keepReferral_85 : decode cX6_keepReferral 85 = .ok (.iload 7, 2) := by decide +kernel
theorem dX6_keepReferral_87 : decode cX6_keepReferral 87 = .ok (.bipush 10, 2) := by decide +kernel
theorem dX6_keepReferral_89 : decode cX6_keepReferral 89 = .ok (.if_icmp .ge 23, 3) := by decide +kernel
theorem dX6_keepReferral_92 : decode cX6_keepReferral 92 = .ok (.aload_n 0, 1) := by decide +kernel
theorem dX6_keepReferral_93 : decode cX6_keepReferral 93 = .ok (.getfield 59, 3) := by decide +kernel
theorem dX6_keepReferral_96 : decode cX6_keepReferral 96 = .ok (.iload 7, 2) := by decide +kernel
theorem dX6_keepReferral_98 : decode cX6_keepReferral 98 = .ok (.aload_n 0, 1) := by decide +kernel
theorem dX6_keepReferral_99 : decode cX6_keepReferral 99 = .ok (.getfield 56, 3) := by decide +kernel
theorem dX6_keepReferral_102 : decode cX6_keepReferral 102 = .ok (.iload 7, 2) := by decide +kernel
theorem dX6_keepReferral_104 : decode cX6_keepReferral 104 = .ok (.iaload, 1) := by decide +kernel
theorem dX6_keepReferral_105 : decode cX6_keepReferral 105 = .ok (.iastore, 1) := by decide +kernel
theorem dX6_keepReferral_106 : decode cX6_keepReferral 106 = .ok (.iinc 7 1, 3) := by decide +kernel
theorem dX6_keepReferral_109 : decode cX6_keepReferral 109 = .ok (.goto (-31), 3) := by decide +kernel
theorem dX6_keepReferral_112 : decode cX6_keepReferral 112 = .ok (.iconst 0, 1) := by decide +kernel
theorem dX6_keepReferral_113 : decode cX6_keepReferral 113 = .ok (.istore 7, 2) := by decide +kernel
theorem dX6_keepReferral_115 : decode cX6_keepReferral 115 = .ok (.iload 7, 2) := by decide +kernel
theorem dX6_keepReferral_117 : decode cX6_keepReferral 117 = .ok (.iload 6, 2) := by decide +kernel
theorem dX6_keepReferral_119 : decode cX6_keepReferral 119 = .ok (.if_icmp .ge 31, 3) := by decide +kernel
theorem dX6_keepReferral_122 : decode cX6_keepReferral 122 = .ok (.iload 7, 2) := by decide +kernel
theorem dX6_keepReferral_124 : decode cX6_keepReferral 124 = .ok (.bipush 10, 2) := by decide +kernel
theorem dX6_keepReferral_126 : decode cX6_keepReferral 126 = .ok (.if_icmp .ge 24, 3) := by decide +kernel
theorem dX6_keepReferral_129 : decode cX6_keepReferral 129 = .ok (.aload_n 0, 1) := by decide +kernel
theorem dX6_keepReferral_130 : decode cX6_keepReferral 130 = .ok (.aload_n 1, 1) := by decide +kernel
theorem dX6_keepReferral_131 : decode cX6_keepReferral 131 = .ok (.iconst 2, 1) := by decide +kernel
theorem dX6_keepReferral_132 : decode cX6_keepReferral 132 = .ok (.aload_n 0, 1) := by decide +kernel
theorem dX6_keepReferral_133 : decode cX6_keepReferral 133 = .ok (.getfield 59, 3) := by decide +kernel
theorem dX6_keepReferral_136 : decode cX6_keepReferral 136 = .ok (.iload 7, 2) := by decide +kernel
theorem dX6_keepReferral_138 : decode cX6_keepReferral 138 = .ok (.iaload, 1) := by decide +kernel
theorem dX6_keepReferral_139 : decode cX6_keepReferral 139 = .ok (.iconst 1, 1) := by decide +kernel
theorem dX6_keepReferral_140 : decode cX6_keepReferral 140 = .ok (.invokevirtual 112, 3) := by decide +kernel
theorem dX6_keepReferral_143 : decode cX6_keepReferral 143 = .ok (.pop, 1) := by decide +kernel
theorem dX6_keepReferral_144 : decode cX6_keepReferral 144 = .ok (.iinc 7 1, 3) := by decide +kernel
theorem dX6_keepReferral_147 : decode cX6_keepReferral 147 = .ok (.goto (-32), 3) := by decide +kernel
theorem dX6_keepReferral_150 : decode cX6_keepReferral 150 = .ok (.return_, 1) := by decide +kernel
theorem dX6_unsigned_0 : decode cX6_unsigned 0 = .ok (.iload_n 0, 1) := by decide +kernel
theorem dX6_unsigned_1 : decode cX6_unsigned 1 = .ok (.i2l, 1) := by decide +kernel
theorem dX6_unsigned_2 : decode cX6_unsigned 2 = .ok (.ldc2_w 247, 3) := by decide +kernel
theorem dX6_unsigned_5 : decode cX6_unsigned 5 = .ok (.land, 1) := by decide +kernel
theorem dX6_unsigned_6 : decode cX6_unsigned 6 = .ok (.lreturn, 1) := by decide +kernel
theorem dX11_init_0 : decode cX11_init 0 = .ok (.aload_n 0, 1) := by decide +kernel
theorem dX11_init_1 : decode cX11_init 1 = .ok (.invokespecial 1, 3) := by decide +kernel
theorem dX11_init_4 : decode cX11_init 4 = .ok (.aload_n 0, 1) := by decide +kernel
theorem dX11_init_5 : decode cX11_init 5 = .ok (.new 7, 3) := by decide +kernel
theorem dX11_init_8 : decode cX11_init 8 = .ok (.dup, 1) := by decide +kernel
theorem dX11_init_9 : decode cX11_init 9 = .ok (.invokespecial 9, 3) := by decide +kernel
theorem dX11_init_12 : decode cX11_init 12 = .ok (.putfield 10, 3) := by decide +kernel
theorem dX11_init_15 : decode cX11_init 15 = .ok (.aload_n 0, 1) := by decide +kernel
theorem dX11_init_16 : decode cX11_init 16 = .ok (.new 16, 3) := by decide +kernel
theorem dX11_init_19 : decode cX11_init 19 = .ok (.dup, 1) := by decide +kernel
theorem dX11_init_20 : decode cX11_init 20 = .ok (.invokespecial 18, 3) := by decide +kernel
theorem dX11_init_23 : decode cX11_init 23 = .ok (.putfield 19, 3) := by decide +kernel
theorem dX11_init_26 : decode cX11_init 26 = .ok (.aload_n 0, 1) := by decide +kernel
theorem dX11_init_27 : decode cX11_init 27 = .ok (.new 23, 3) := by decide +kernel
theorem dX11_init_30 : decode cX11_init 30 = .ok (.dup, 1) := by decide +kernel
theorem dX11_init_31 : decode cX11_init 31 = .ok (.invokespecial 25, 3) := by decide +kernel
theorem dX11_init_34 : decode cX11_init 34 = .ok (.putfield 26, 3) := by decide +kernel
theorem dX11_init_37 : decode cX11_init 37 = .ok (.aload_n 0, 1) := by decide +kernel
theorem dX11_init_38 : decode cX11_init 38 = .ok (.new 30, 3) := by decide +kernel
theorem dX11_init_41 : decode cX11_init 41 = .ok (.dup, 1) := by decide +kernel
theorem dX11_init_42 : decode cX11_init 42 = .ok (.aload_n 0, 1) := by decide +kernel
theorem dX11_init_43 : decode cX11_init 43 = .ok (.getfield 19, 3) := by decide +kernel
theorem dX11_init_46 : decode cX11_init 46 = .ok (.invokespecial 32, 3) := by decide +kernel
theorem dX11_init_49 : decode cX11_init 49 = .ok (.putfield 35, 3) := by decide +kernel
theorem dX11_init_52 : decode cX11_init 52 = .ok (.aload_n 0, 1) := by decide +kernel
theorem dX11_init_53 : decode cX11_init 53 = .ok (.new 39, 3) := by decide +kernel
theorem dX11_init_56 : decode cX11_init 56 = .ok (.dup, 1) := by decide +kernel
theorem dX11_init_57 : decode cX11_init 57 = .ok (.aload_n 0, 1) := by decide +kernel
theorem dX11_init_58 : decode cX11_init 58 = .ok (.getfield 19, 3) := by decide +kernel
theorem dX11_init_61 : decode cX11_init 61 = .ok (.invokespecial 41, 3) := by decide +kernel
theorem dX11_init_64 : decode cX11_init 64 = .ok (.putfield 42, 3) := by decide +kernel
theorem dX11_init_67 : decode cX11_init 67 = .ok (.aload_n 0, 1) := by decide +kernel
theorem dX11_init_68 : decode cX11_init 68 = .ok (.new 46, 3) := by decide +kernel
theorem dX11_init_71 : decode cX11_init 71 = .ok (.dup, 1) := by decide +kernel
theorem dX11_init_72 : decode cX11_init 72 = .ok (.aload_n 0, 1) := by decide +kernel
theorem dX11_init_73 : decode cX11_init 73 = .ok (.getfield 19, 3) := by decide +kernel
theorem dX11_init_76 : decode cX11_init 76 = .ok (.aload_n 0, 1) := by decide +kernel
theorem dX11_init_77 : decode cX11_init 77 = .ok (.getfield 35, 3) := by decide +kernel
theorem dX11_init_80 : decode cX11_init 80 = .ok (.invokespecial 48, 3) := by decide +kernel
theorem dX11_init_83 : decode cX11_init 83 = .ok (.putfield 51, 3) := by decide +kernel
theorem dX11_init_86 : decode cX11_init 86 = .ok (.aload_n 0, 1) := by decide +kernel
theorem dX11_init_87 : decode cX11_init 87 = .ok (.new 55, 3) := by decide +kernel
theorem dX11_init_90 : decode cX11_init 90 = .ok (.dup, 1) := by decide +kernel
theorem dX11_init_91 : decode cX11_init 91 = .ok (.aload_n 0, 1) := by decide +kernel
theorem dX11_init_92 : decode cX11_init 92 = .ok (.getfield 19, 3) := by decide +kernel
theorem dX11_init_95 : decode cX11_init 95 = .ok (.invokespecial 57, 3) := by decide +kernel
theorem dX11_init_98 : decode cX11_init 98 = .ok (.putfield 58, 3) := by decide +kernel
theorem dX11_init_101 : decode cX11_init 101 = .ok (.aload_n 0, 1) := by decide +kernel
theorem dX11_init_102 : decode cX11_init 102 = .ok (.new 62, 3) := by decide +kernel
theorem dX11_init_105 : decode cX11_init 105 = .ok (.dup, 1) := by decide +kernel
theorem dX11_init_106 : decode cX11_init 106 = .ok (.invokespecial 64, 3) := by decide +kernel
theorem dX11_init_109 : decode cX11_init 109 = .ok (.putfield 65, 3) := by decide +kernel
theorem dX11_init_112 : decode cX11_init 112 = .ok (.aload_n 0, 1) := by decide +kernel
theorem dX11_init_113 : decode cX11_init 113 = .ok (.new 69, 3) := by decide +kernel
theorem dX11_init_116 : decode cX11_init 116 = .ok (.dup, 1) := by decide +kernel
theorem dX11_init_117 : decode cX11_init 117 = .ok (.invokespecial 71, 3) := by decide +kernel
theorem dX11_init_120 : decode cX11_init 120 = .ok (.putfield 72, 3) := by decide +kernel
theorem dX11_init_123 : decode cX11_init 123 = .ok (.aload_n 0, 1) := by decide +kernel
theorem dX11_init_124 : decode cX11_init 124 = .ok (.new 76, 3) := by decide +kernel
theorem dX11_init_127 : decode cX11_init 127 = .ok (.dup, 1) := by decide +kernel
theorem dX11_init_128 : decode cX11_init 128 = .ok (.aload_n 0, 1) := by decide +kernel
theorem dX11_init_129 : decode cX11_init 129 = .ok (.getfield 19, 3) := by decide +kernel
theorem dX11_init_132 : decode cX11_init 132 = .ok (.aload_n 0, 1) := by decide +kernel
theorem dX11_init_133 : decode cX11_init 133 = .ok (.getfield 72, 3) := by decide +kernel
theorem dX11_init_136 : decode cX11_init 136 = .ok (.invokespecial 78, 3) := by decide +kernel
theorem dX11_init_139 : decode cX11_init 139 = .ok (.putfield 81, 3) := by decide +kernel
theorem dX11_init_142 : decode cX11_init 142 = .ok (.return_, 1) := by decide +kernel
theorem dX11_feed_0 : decode cX11_feed 0 = .ok (.aload_n 0, 1) := by decide +kernel
theorem dX11_feed_1 : decode cX11_feed 1 = .ok (.getfield 10, 3) := by decide +kernel
theorem dX11_feed_4 : decode cX11_feed 4 = .ok (.invokevirtual 85, 3) := by decide +kernel
theorem dX11_feed_7 : decode cX11_feed 7 = .ok (.bipush 20, 2) := by decide +kernel
theorem dX11_feed_9 : decode cX11_feed 9 = .ok (.iadd, 1) := by decide +kernel
theorem dX11_feed_10 : decode cX11_feed 10 = .ok (.sipush 1000, 3) := by decide +kernel
theorem dX11_feed_13 : decode cX11_feed 13 = .ok (.if_icmp .le 5, 3) := by decide +kernel
theorem dX11_feed_16 : decode cX11_feed 16 = .ok (.iconst (-1), 1) := by decide +kernel
theorem dX11_feed_17 : decode cX11_feed 17 = .ok (.ireturn, 1) := by decide +kernel
theorem dX11_feed_18 : decode cX11_feed 18 = .ok (.aload_n 0, 1) := by decide +kernel
theorem dX11_feed_19 : decode cX11_feed 19 = .ok (.getfield 10, 3) := by decide +kernel
theorem dX11_feed_22 : decode cX11_feed 22 = .ok (.iload_n 1, 1) := by decide +kernel
theorem dX11_feed_23 : decode cX11_feed 23 = .ok (.invokevirtual 89, 3) := by decide +kernel
theorem dX11_feed_26 : decode cX11_feed 26 = .ok (.aload_n 0, 1) := by decide +kernel
theorem dX11_feed_27 : decode cX11_feed 27 = .ok (.getfield 10, 3) := by decide +kernel
theorem dX11_feed_30 : decode cX11_feed 30 = .ok (.iload_n 2, 1) := by decide +kernel
theorem dX11_feed_31 : decode cX11_feed 31 = .ok (.invokevirtual 89, 3) := by decide +kernel
theorem dX11_feed_34 : decode cX11_feed 34 = .ok (.aload_n 0, 1) := by decide +kernel
theorem dX11_feed_35 : decode cX11_feed 35 = .ok (.getfield 10, 3) := by decide +kernel
theorem dX11_feed_38 : decode cX11_feed 38 = .ok (.iload_n 3, 1) := by decide +kernel
theorem dX11_feed_39 : decode cX11_feed 39 = .ok (.invokevirtual 89, 3) := by decide +kernel
theorem dX11_feed_42 : decode cX11_feed 42 = .ok (.aload_n 0, 1) := by decide +kernel
theorem dX11_feed_43 : decode cX11_feed 43 = .ok (.getfield 10, 3) := by decide +kernel
theorem dX11_feed_46 : decode cX11_feed 46 = .ok (.iload 4, 2) := by decide +kernel
theorem dX11_feed_48 : decode cX11_feed 48 = .ok (.invokevirtual 89, 3) := by decide +kernel
theorem dX11_feed_51 : decode cX11_feed 51 = .ok (.aload_n 0, 1) := by decide +kernel
theorem dX11_feed_52 : decode cX11_feed 52 = .ok (.getfield 10, 3) := by decide +kernel
theorem dX11_feed_55 : decode cX11_feed 55 = .ok (.iload 5, 2) := by decide +kernel
theorem dX11_feed_57 : decode cX11_feed 57 = .ok (.invokevirtual 89, 3) := by decide +kernel
theorem dX11_feed_60 : decode cX11_feed 60 = .ok (.aload_n 0, 1) := by decide +kernel
theorem dX11_feed_61 : decode cX11_feed 61 = .ok (.getfield 10, 3) := by decide +kernel
theorem dX11_feed_64 : decode cX11_feed 64 = .ok (.invokevirtual 85, 3) := by decide +kernel
theorem dX11_feed_67 : decode cX11_feed 67 = .ok (.ireturn, 1) := by decide +kernel
theorem dX11_end_0 : decode cX11_end 0 = .ok (.aload_n 0, 1) := by decide +kernel
theorem dX11_end_1 : decode cX11_end 1 = .ok (.getfield 10, 3) := by decide +kernel
theorem dX11_end_4 : decode cX11_end 4 = .ok (.iload_n 1, 1) := by decide +kernel
theorem dX11_end_5 : decode cX11_end 5 = .ok (.invokevirtual 93, 3) := by decide +kernel
theorem dX11_end_8 : decode cX11_end 8 = .ok (.ireturn, 1) := by decide +kernel
theorem dX11_turn_0 : decode cX11_turn 0 = .ok (.aload_n 0, 1) := by decide +kernel
theorem dX11_turn_1 : decode cX11_turn 1 = .ok (.getfield 10, 3) := by decide +kernel
theorem dX11_turn_4 : decode cX11_turn 4 = .ok (.iload_n 1, 1) := by decide +kernel
theorem dX11_turn_5 : decode cX11_turn 5 = .ok (.iload_n 2, 1) := by decide +kernel
theorem dX11_turn_6 : decode cX11_turn 6 = .ok (.invokevirtual 97, 3) := by decide +kernel
theorem dX11_turn_9 : decode cX11_turn 9 = .ok (.ireturn, 1) := by decide +kernel
theorem dX11_name_0 : decode cX11_name 0 = .ok (.aload_n 0, 1) := by decide +kernel
theorem dX11_name_1 : decode cX11_name 1 = .ok (.getfield 26, 3) := by decide +kernel
theorem dX11_name_4 : decode cX11_name 4 = .ok (.aload_n 0, 1) := by decide +kernel
theorem dX11_name_5 : decode cX11_name 5 = .ok (.getfield 10, 3) := by decide +kernel
theorem dX11_name_8 : decode cX11_name 8 = .ok (.invokevirtual 101, 3) := by decide +kernel
theorem dX11_name_11 : decode cX11_name 11 = .ok (.istore_n 1, 1) := by decide +kernel
theorem dX11_name_12 : decode cX11_name 12 = .ok (.aload_n 0, 1) := by decide +kernel
theorem dX11_name_13 : decode cX11_name 13 = .ok (.getfield 10, 3) := by decide +kernel
theorem dX11_name_16 : decode cX11_name 16 = .ok (.invokevirtual 105, 3) := by decide +kernel
theorem dX11_name_19 : decode cX11_name 19 = .ok (.iload_n 1, 1) := by decide +kernel
theorem dX11_name_20 : decode cX11_name 20 = .ok (.ifCond .ne 13, 3) := by decide +kernel
theorem dX11_name_23 : decode cX11_name 23 = .ok (.new 108, 3) := by decide +kernel
theorem dX11_name_26 : decode cX11_name 26 = .ok (.dup, 1) := by decide +kernel
theorem dX11_name_27 : decode cX11_name 27 = .ok (.ldc 110, 2) := by decide +kernel
theorem dX11_name_29 : decode cX11_name 29 = .ok (.invokespecial 112, 3) := by decide +kernel
theorem dX11_name_32 : decode cX11_name 32 = .ok (.athrow, 1) := by decide +kernel
theorem dX11_name_33 : decode cX11_name 33 = .ok (.aload_n 0, 1) := by decide +kernel
theorem dX11_name_34 : decode cX11_name 34 = .ok (.getfield 19, 3) := by decide +kernel
theorem dX11_name_37 : decode cX11_name 37 = .ok (.invokevirtual 115, 3) := by decide +kernel
theorem dX11_name_40 : decode cX11_name 40 = .ok (.aload_n 0, 1) := by decide +kernel
theorem dX11_name_41 : decode cX11_name 41 = .ok (.getfield 19, 3) := by decide +kernel
theorem dX11_name_44 : decode cX11_name 44 = .ok (.aload_n 0, 1) := by decide +kernel
theorem dX11_name_45 : decode cX11_name 45 = .ok (.getfield 26, 3) := by decide +kernel
theorem dX11_name_48 : decode cX11_name 48 = .ok (.invokevirtual 116, 3) := by decide +kernel
theorem dX11_name_51 : decode cX11_name 51 = .ok (.iadd, 1) := by decide +kernel
theorem dX11_name_52 : decode cX11_name 52 = .ok (.sipush 300, 3) := by decide +kernel
theorem dX11_name_55 : decode cX11_name 55 = .ok (.if_icmp .le 13, 3) := by decide +kernel
theorem dX11_name_58 : decode cX11_name 58 = .ok (.new 120, 3) := by decide +kernel
theorem dX11_name_61 : decode cX11_name 61 = .ok (.dup, 1) := by decide +kernel
theorem dX11_name_62 : decode cX11_name 62 = .ok (.ldc 122, 2) := by decide +kernel
theorem dX11_name_64 : decode cX11_name 64 = .ok (.invokespecial 124, 3) := by decide +kernel
theorem dX11_name_67 : decode cX11_name 67 = .ok (.athrow, 1) := by decide +kernel
theorem dX11_name_68 : decode cX11_name 68 = .ok (.aload_n 0, 1) := by decide +kernel
theorem dX11_name_69 : decode cX11_name 69 = .ok (.getfield 19, 3) := by decide +kernel
theorem dX11_name_72 : decode cX11_name 72 = .ok (.aload_n 0, 1) := by decide +kernel
theorem dX11_name_73 : decode cX11_name 73 = .ok (.getfield 26, 3) := by decide +kernel
theorem dX11_name_76 : decode cX11_name 76 = .ok (.invokevirtual 125, 3) := by decide +kernel
theorem dX11_name_79 : decode cX11_name 79 = .ok (.ireturn, 1) := by decide +kernel
theorem dX11_look_0 : decode cX11_look 0 = .ok (.aload_n 0, 1) := by decide +kernel
theorem dX11_look_1 : decode cX11_look 1 = .ok (.iload_n 1, 1) := by decide +kernel
theorem dX11_look_2 : decode cX11_look 2 = .ok (.invokevirtual 128, 3) := by decide +kernel
theorem dX11_look_5 : decode cX11_look 5 = .ok (.iload_n 2, 1) := by decide +kernel
theorem dX11_look_6 : decode cX11_look 6 = .ok (.tableswitch 53 0 2 #[26, 35, 44], 26) := by decide +kernel
theorem dX11_look_32 : decode cX11_look 32 = .ok (.aload_n 0, 1) := by decide +kernel
theorem dX11_look_33 : decode cX11_look 33 = .ok (.getfield 19, 3) := by decide +kernel
theorem dX11_look_36 : decode cX11_look 36 = .ok (.iload_n 1, 1) := by decide +kernel
theorem dX11_look_37 : decode cX11_look 37 = .ok (.invokevirtual 131, 3) := by decide +kernel
theorem dX11_look_40 : decode cX11_look 40 = .ok (.ireturn, 1) := by decide +kernel
theorem dX11_look_41 : decode cX11_look 41 = .ok (.aload_n 0, 1) := by decide +kernel
theorem dX11_look_42 : decode cX11_look 42 = .ok (.getfield 19, 3) := by decide +kernel
theorem dX11_look_45 : decode cX11_look 45 = .ok (.iload_n 1, 1) := by decide +kernel
theorem dX11_look_46 : decode cX11_look 46 = .ok (.invokevirtual 135, 3) := by decide +kernel
theorem dX11_look_49 : decode cX11_look 49 = .ok (.ireturn, 1) := by decide +kernel
theorem dX11_look_50 : decode cX11_look 50 = .ok (.aload_n 0, 1) := by decide +kernel
theorem dX11_look_51 : decode cX11_look 51 = .ok (.getfield 19, 3) := by decide +kernel
theorem dX11_look_54 : decode cX11_look 54 = .ok (.iload_n 1, 1) := by decide +kernel
theorem dX11_look_55 : decode cX11_look 55 = .ok (.invokevirtual 138, 3) := by decide +kernel
theorem dX11_look_58 : decode cX11_look 58 = .ok (.ireturn, 1) := by decide +kernel
theorem dX11_look_59 : decode cX11_look 59 = .ok (.new 141, 3) := by decide +kernel
theorem dX11_look_62 : decode cX11_look 62 = .ok (.dup, 1) := by decide +kernel
theorem dX11_look_63 : decode cX11_look 63 = .ok (.ldc 143, 2) := by decide +kernel
theorem dX11_look_65 : decode cX11_look 65 = .ok (.invokespecial 145, 3) := by decide +kernel
theorem dX11_look_68 : decode cX11_look 68 = .ok (.athrow, 1) := by decide +kernel
theorem dX11_text_0 : decode cX11_text 0 = .ok (.aload_n 0, 1) := by decide +kernel
theorem dX11_text_1 : decode cX11_text 1 = .ok (.iload_n 1, 1) := by decide +kernel
theorem dX11_text_2 : decode cX11_text 2 = .ok (.invokevirtual 128, 3) := by decide +kernel
theorem dX11_text_5 : decode cX11_text 5 = .ok (.aload_n 0, 1) := by decide +kernel
theorem dX11_text_6 : decode cX11_text 6 = .ok (.getfield 19, 3) := by decide +kernel
theorem dX11_text_9 : decode cX11_text 9 = .ok (.iload_n 1, 1) := by decide +kernel
theorem dX11_text_10 : decode cX11_text 10 = .ok (.iload_n 2, 1) := by decide +kernel
theorem dX11_text_11 : decode cX11_text 11 = .ok (.invokevirtual 146, 3) := by decide +kernel
theorem dX11_text_14 : decode cX11_text 14 = .ok (.ireturn, 1) := by decide +kernel
theorem dX11_zone_0 : decode cX11_zone 0 = .ok (.aload_n 0, 1) := by decide +kernel
theorem dX11_zone_1 : decode cX11_zone 1 = .ok (.iload_n 1, 1) := by decide +kernel
theorem dX11_zone_2 : decode cX11_zone 2 = .ok (.invokevirtual 128, 3) := by decide +kernel
theorem dX11_zone_5 : decode cX11_zone 5 = .ok (.iload_n 2, 1) := by decide +kernel
theorem dX11_zone_6 : decode cX11_zone 6 = .ok (.invokestatic 150, 3) := by decide +kernel
theorem dX11_zone_9 : decode cX11_zone 9 = .ok (.ifCond .eq 15, 3) := by decide +kernel
theorem dX11_zone_12 : decode cX11_zone 12 = .ok (.aload_n 0, 1) := by decide +kernel
theorem dX11_zone_13 : decode cX11_zone 13 = .ok (.getfield 35, 3) := by decide +kernel
theorem dX11_zone_16 : decode cX11_zone 16 = .ok (.iload_n 1, 1) := by decide +kernel
theorem dX11_zone_17 : decode cX11_zone 17 = .ok (.invokevirtual 153, 3) := by decide +kernel
theorem dX11_zone_20 : decode cX11_zone 20 = .ok (.iconst (-1), 1) := by decide +kernel
theorem dX11_zone_21 : decode cX11_zone 21 = .ok (.if_icmp .eq 13, 3) := by decide +kernel
theorem dX11_zone_24 : decode cX11_zone 24 = .ok (.new 108, 3) := by decide +kernel
theorem dX11_zone_27 : decode cX11_zone 27 = .ok (.dup, 1) := by decide +kernel
theorem dX11_zone_28 : decode cX11_zone 28 = .ok (.ldc 156, 2) := by decide +kernel
theorem dX11_zone_30 : decode cX11_zone 30 = .ok (.invokespecial 112, 3) := by decide +kernel
theorem dX11_zone_33 : decode cX11_zone 33 = .ok (.athrow, 1) := by decide +kernel
theorem dX11_zone_34 : decode cX11_zone 34 = .ok (.aload_n 0, 1) := by decide +kernel
theorem dX11_zone_35 : decode cX11_zone 35 = .ok (.getfield 35, 3) := by decide +kernel
theorem dX11_zone_38 : decode cX11_zone 38 = .ok (.invokevirtual 158, 3) := by decide +kernel
theorem dX11_zone_41 : decode cX11_zone 41 = .ok (.bipush 12, 2) := by decide +kernel
theorem dX11_zone_43 : decode cX11_zone 43 = .ok (.if_icmp .lt 13, 3) := by decide +kernel
theorem dX11_zone_46 : decode cX11_zone 46 = .ok (.new 120, 3) := by decide +kernel
theorem dX11_zone_49 : decode cX11_zone 49 = .ok (.dup, 1) := by decide +kernel
theorem dX11_zone_50 : decode cX11_zone 50 = .ok (.ldc 159, 2) := by decide +kernel
theorem dX11_zone_52 : decode cX11_zone 52 = .ok (.invokespecial 124, 3) := by decide +kernel
theorem dX11_zone_55 : decode cX11_zone 55 = .ok (.athrow, 1) := by decide +kernel
theorem dX11_zone_56 : decode cX11_zone 56 = .ok (.aload_n 0, 1) := by decide +kernel
theorem dX11_zone_57 : decode cX11_zone 57 = .ok (.getfield 35, 3) := by decide +kernel
theorem dX11_zone_60 : decode cX11_zone 60 = .ok (.iload_n 1, 1) := by decide +kernel
theorem dX11_zone_61 : decode cX11_zone 61 = .ok (.iload_n 2, 1) := by decide +kernel
theorem dX11_zone_62 : decode cX11_zone 62 = .ok (.invokevirtual 161, 3) := by decide +kernel
theorem dX11_zone_65 : decode cX11_zone 65 = .ok (.ireturn, 1) := by decide +kernel
theorem dX11_record_0 : decode cX11_record 0 = .ok (.aload_n 0, 1) := by decide +kernel
theorem dX11_record_1 : decode cX11_record 1 = .ok (.iload_n 1, 1) := by decide +kernel
theorem dX11_record_2 : decode cX11_record 2 = .ok (.invokevirtual 164, 3) := by decide +kernel
theorem dX11_record_5 : decode cX11_record 5 = .ok (.aload_n 0, 1) := by decide +kernel
theorem dX11_record_6 : decode cX11_record 6 = .ok (.iload_n 2, 1) := by decide +kernel
theorem dX11_record_7 : decode cX11_record 7 = .ok (.invokevirtual 128, 3) := by decide +kernel
theorem dX11_record_10 : decode cX11_record 10 = .ok (.aload_n 0, 1) := by decide +kernel
theorem dX11_record_11 : decode cX11_record 11 = .ok (.getfield 19, 3) := by decide +kernel
theorem dX11_record_14 : decode cX11_record 14 = .ok (.iload_n 2, 1) := by decide +kernel
theorem dX11_record_15 : decode cX11_record 15 = .ok (.aload_n 0, 1) := by decide +kernel
theorem dX11_record_16 : decode cX11_record 16 = .ok (.getfield 35, 3) := by decide +kernel
theorem dX11_record_19 : decode cX11_record 19 = .ok (.iload_n 1, 1) := by decide +kernel
theorem dX11_record_20 : decode cX11_record 20 = .ok (.invokevirtual 167, 3) := by decide +kernel
theorem dX11_record_23 : decode cX11_record 23 = .ok (.invokevirtual 170, 3) := by decide +kernel
theorem dX11_record_26 : decode cX11_record 26 = .ok (.ifCond .eq 18, 3) := by decide +kernel
theorem dX11_record_29 : decode cX11_record 29 = .ok (.iload_n 3, 1) := by decide +kernel
theorem dX11_record_30 : decode cX11_record 30 = .ok (.invokestatic 173, 3) := by decide +kernel
theorem dX11_record_33 : decode cX11_record 33 = .ok (.ifCond .eq 11, 3) := by decide +kernel
theorem dX11_record_36 : decode cX11_record 36 = .ok (.iload 5, 2) := by decide +kernel
theorem dX11_record_38 : decode cX11_record 38 = .ok (.invokestatic 150, 3) := by decide +kernel
theorem dX11_record_41 : decode cX11_record 41 = .ok (.ifCond .ne 13, 3) := by decide +kernel
theorem dX11_record_44 : decode cX11_record 44 = .ok (.new 108, 3) := by decide +kernel
theorem dX11_record_47 : decode cX11_record 47 = .ok (.dup, 1) := by decide +kernel
theorem dX11_record_48 : decode cX11_record 48 = .ok (.ldc 176, 2) := by decide +kernel
theorem dX11_record_50 : decode cX11_record 50 = .ok (.invokespecial 112, 3) := by decide +kernel
theorem dX11_record_53 : decode cX11_record 53 = .ok (.athrow, 1) := by decide +kernel
theorem dX11_record_54 : decode cX11_record 54 = .ok (.iload_n 3, 1) := by decide +kernel
theorem dX11_record_55 : decode cX11_record 55 = .ok (.invokestatic 178, 3) := by decide +kernel
theorem dX11_record_58 : decode cX11_record 58 = .ok (.ifCond .eq 25, 3) := by decide +kernel
theorem dX11_record_61 : decode cX11_record 61 = .ok (.aload_n 0, 1) := by decide +kernel
theorem dX11_record_62 : decode cX11_record 62 = .ok (.getfield 19, 3) := by decide +kernel
theorem dX11_record_65 : decode cX11_record 65 = .ok (.iload 4, 2) := by decide +kernel
theorem dX11_record_67 : decode cX11_record 67 = .ok (.invokevirtual 181, 3) := by decide +kernel
theorem dX11_record_70 : decode cX11_record 70 = .ok (.ifCond .ne 13, 3) := by decide +kernel
theorem dX11_record_73 : decode cX11_record 73 = .ok (.new 108, 3) := by decide +kernel
theorem dX11_record_76 : decode cX11_record 76 = .ok (.dup, 1) := by decide +kernel
theorem dX11_record_77 : decode cX11_record 77 = .ok (.ldc 184, 2) := by decide +kernel
theorem dX11_record_79 : decode cX11_record 79 = .ok (.invokespecial 112, 3) := by decide +kernel
theorem dX11_record_82 : decode cX11_record 82 = .ok (.athrow, 1) := by decide +kernel
theorem dX11_record_83 : decode cX11_record 83 = .ok (.aload_n 0, 1) := by decide +kernel
theorem dX11_record_84 : decode cX11_record 84 = .ok (.getfield 35, 3) := by decide +kernel
theorem dX11_record_87 : decode cX11_record 87 = .ok (.invokevirtual 186, 3) := by decide +kernel
theorem dX11_record_90 : decode cX11_record 90 = .ok (.sipush 150, 3) := by decide +kernel
theorem dX11_record_93 : decode cX11_record 93 = .ok (.if_icmp .lt 13, 3) := by decide +kernel
theorem dX11_record_96 : decode cX11_record 96 = .ok (.new 120, 3) := by decide +kernel
theorem dX11_record_99 : decode cX11_record 99 = .ok (.dup, 1) := by decide +kernel
theorem dX11_record_100 : decode cX11_record 100 = .ok (.ldc 189, 2) := by decide +kernel
theorem dX11_record_102 : decode cX11_record 102 = .ok (.invokespecial 124, 3) := by decide +kernel
theorem dX11_record_105 : decode cX11_record 105 = .ok (.athrow, 1) := by decide +kernel
theorem dX11_record_106 : decode cX11_record 106 = .ok (.aload_n 0, 1) := by decide +kernel
theorem dX11_record_107 : decode cX11_record 107 = .ok (.getfield 35, 3) := by decide +kernel
theorem dX11_record_110 : decode cX11_record 110 = .ok (.iload_n 1, 1) := by decide +kernel
theorem dX11_record_111 : decode cX11_record 111 = .ok (.iload_n 2, 1) := by decide +kernel
theorem dX11_record_112 : decode cX11_record 112 = .ok (.iload_n 3, 1) := by decide +kernel
theorem dX11_record_113 : decode cX11_record 113 = .ok (.iload 4, 2) := by decide +kernel
theorem dX11_record_115 : decode cX11_record 115 = .ok (.iload 5, 2) := by decide +kernel
theorem dX11_record_117 : decode cX11_record 117 = .ok (.invokevirtual 191, 3) := by decide +kernel
theorem dX11_record_120 : decode cX11_record 120 = .ok (.aload_n 0, 1) := by decide +kernel
theorem dX11_record_121 : decode cX11_record 121 = .ok (.getfield 35, 3) := by decide +kernel
theorem dX11_record_124 : decode cX11_record 124 = .ok (.iload_n 1, 1) := by decide +kernel
theorem dX11_record_125 : decode cX11_record 125 = .ok (.invokevirtual 195, 3) := by decide +kernel
theorem dX11_record_128 : decode cX11_record 128 = .ok (.ireturn, 1) := by decide +kernel
theorem dX11_drop_0 : decode cX11_drop 0 = .ok (.aload_n 0, 1) := by decide +kernel
theorem dX11_drop_1 : decode cX11_drop 1 = .ok (.iload_n 1, 1) := by decide +kernel
theorem dX11_drop_2 : decode cX11_drop 2 = .ok (.invokevirtual 164, 3) := by decide +kernel
theorem dX11_drop_5 : decode cX11_drop 5 = .ok (.aload_n 0, 1) := by decide +kernel
theorem dX11_drop_6 : decode cX11_drop 6 = .ok (.iload_n 2, 1) := by decide +kernel
theorem dX11_drop_7 : decode cX11_drop 7 = .ok (.invokevirtual 128, 3) := by decide +kernel
theorem dX11_drop_10 : decode cX11_drop 10 = .ok (.aload_n 0, 1) := by decide +kernel
theorem dX11_drop_11 : decode cX11_drop 11 = .ok (.getfield 35, 3) := by decide +kernel
theorem dX11_drop_14 : decode cX11_drop 14 = .ok (.iload_n 1, 1) := by decide +kernel
theorem dX11_drop_15 : decode cX11_drop 15 = .ok (.iload_n 2, 1) := by decide +kernel
theorem dX11_drop_16 : decode cX11_drop 16 = .ok (.iload_n 3, 1) := by decide +kernel
theorem dX11_drop_17 : decode cX11_drop 17 = .ok (.invokevirtual 198, 3) := by decide +kernel
theorem dX11_drop_20 : decode cX11_drop 20 = .ok (.ireturn, 1) := by decide +kernel
theorem dX11_server_0 : decode cX11_server 0 = .ok (.aload_n 0, 1) := by decide +kernel
theorem dX11_server_1 : decode cX11_server 1 = .ok (.getfield 51, 3) := by decide +kernel
theorem dX11_server_4 : decode cX11_server 4 = .ok (.iload_n 1, 1) := by decide +kernel
theorem dX11_server_5 : decode cX11_server 5 = .ok (.invokevirtual 202, 3) := by decide +kernel
theorem dX11_server_8 : decode cX11_server 8 = .ok (.iconst (-1), 1) := by decide +kernel
theorem dX11_server_9 : decode cX11_server 9 = .ok (.if_icmp .eq 13, 3) := by decide +kernel
theorem dX11_server_12 : decode cX11_server 12 = .ok (.new 108, 3) := by decide +kernel
theorem dX11_server_15 : decode cX11_server 15 = .ok (.dup, 1) := by decide +kernel
theorem dX11_server_16 : decode cX11_server 16 = .ok (.ldc 205, 2) := by decide +kernel
theorem dX11_server_18 : decode cX11_server 18 = .ok (.invokespecial 112, 3) := by decide +kernel
theorem dX11_server_21 : decode cX11_server 21 = .ok (.athrow, 1) := by decide +kernel
theorem dX11_server_22 : decode cX11_server 22 = .ok (.aload_n 0, 1) := by decide +kernel
theorem dX11_server_23 : decode cX11_server 23 = .ok (.getfield 51, 3) := by decide +kernel
theorem dX11_server_26 : decode cX11_server 26 = .ok (.invokevirtual 207, 3) := by decide +kernel
theorem dX11_server_29 : decode cX11_server 29 = .ok (.bipush 12, 2) := by decide +kernel
theorem dX11_server_31 : decode cX11_server 31 = .ok (.if_icmp .lt 13, 3) := by decide +kernel
theorem dX11_server_34 : decode cX11_server 34 = .ok (.new 120, 3) := by decide +kernel
theorem dX11_server_37 : decode cX11_server 37 = .ok (.dup, 1) := by decide +kernel
theorem dX11_server_38 : decode cX11_server 38 = .ok (.ldc 208, 2) := by decide +kernel
theorem dX11_server_40 : decode cX11_server 40 = .ok (.invokespecial 124, 3) := by decide +kernel
theorem dX11_server_43 : decode cX11_server 43 = .ok (.athrow, 1) := by decide +kernel
theorem dX11_server_44 : decode cX11_server 44 = .ok (.aload_n 0, 1) := by decide +kernel
theorem dX11_server_45 : decode cX11_server 45 = .ok (.getfield 51, 3) := by decide +kernel
theorem dX11_server_48 : decode cX11_server 48 = .ok (.iload_n 1, 1) := by decide +kernel
theorem dX11_server_49 : decode cX11_server 49 = .ok (.invokevirtual 210, 3) := by decide +kernel
theorem dX11_server_52 : decode cX11_server 52 = .ok (.ireturn, 1) := by decide +kernel
theorem dX11_serve_0 : decode cX11_serve 0 = .ok (.aload_n 0, 1) := by decide +kernel
theorem dX11_serve_1 : decode cX11_serve 1 = .ok (.iload_n 1, 1) := by decide +kernel
theorem dX11_serve_2 : decode cX11_serve 2 = .ok (.invokevirtual 212, 3) := by decide +kernel
theorem dX11_serve_5 : decode cX11_serve 5 = .ok (.aload_n 0, 1) := by decide +kernel
theorem dX11_serve_6 : decode cX11_serve 6 = .ok (.iload_n 2, 1) := by decide +kernel
theorem dX11_serve_7 : decode cX11_serve 7 = .ok (.invokevirtual 164, 3) := by decide +kernel
theorem dX11_serve_10 : decode cX11_serve 10 = .ok (.aload_n 0, 1) := by decide +kernel
theorem dX11_serve_11 : decode cX11_serve 11 = .ok (.getfield 51, 3) := by decide +kernel
theorem dX11_serve_14 : decode cX11_serve 14 = .ok (.iload_n 1, 1) := by decide +kernel
theorem dX11_serve_15 : decode cX11_serve 15 = .ok (.iload_n 2, 1) := by decide +kernel
theorem dX11_serve_16 : decode cX11_serve 16 = .ok (.iload_n 3, 1) := by decide +kernel
theorem dX11_serve_17 : decode cX11_serve 17 = .ok (.invokevirtual 215, 3) := by decide +kernel
theorem dX11_serve_20 : decode cX11_serve 20 = .ok (.ireturn, 1) := by decide +kernel
theorem dX11_say_0 : decode cX11_say 0 = .ok (.aload_n 0, 1) := by decide +kernel
theorem dX11_say_1 : decode cX11_say 1 = .ok (.iload_n 1, 1) := by decide +kernel
theorem dX11_say_2 : decode cX11_say 2 = .ok (.invokevirtual 212, 3) := by decide +kernel
theorem dX11_say_5 : decode cX11_say 5 = .ok (.aload_n 0, 1) := by decide +kernel
theorem dX11_say_6 : decode cX11_say 6 = .ok (.iload_n 2, 1) := by decide +kernel
theorem dX11_say_7 : decode cX11_say 7 = .ok (.invokevirtual 128, 3) := by decide +kernel
theorem dX11_say_10 : decode cX11_say 10 = .ok (.aload_n 0, 1) := by decide +kernel
theorem dX11_say_11 : decode cX11_say 11 = .ok (.getfield 10, 3) := by decide +kernel
theorem dX11_say_14 : decode cX11_say 14 = .ok (.invokevirtual 105, 3) := by decide +kernel
theorem dX11_say_17 : decode cX11_say 17 = .ok (.aload_n 0, 1) := by decide +kernel
theorem dX11_say_18 : decode cX11_say 18 = .ok (.getfield 51, 3) := by decide +kernel
theorem dX11_say_21 : decode cX11_say 21 = .ok (.iload_n 1, 1) := by decide +kernel
theorem dX11_say_22 : decode cX11_say 22 = .ok (.iload_n 2, 1) := by decide +kernel
theorem dX11_say_23 : decode cX11_say 23 = .ok (.invokevirtual 219, 3) := by decide +kernel
theorem dX11_say_26 : decode cX11_say 26 = .ok (.istore 4, 2) := by decide +kernel
theorem dX11_say_28 : decode cX11_say 28 = .ok (.iload 4, 2) := by decide +kernel
theorem dX11_say_30 : decode cX11_say 30 = .ok (.iconst (-1), 1) := by decide +kernel
theorem dX11_say_31 : decode cX11_say 31 = .ok (.if_icmp .eq 36, 3) := by decide +kernel
theorem dX11_say_34 : decode cX11_say 34 = .ok (.aload_n 0, 1) := by decide +kernel
theorem dX11_say_35 : decode cX11_say 35 = .ok (.getfield 35, 3) := by decide +kernel
theorem dX11_say_38 : decode cX11_say 38 = .ok (.iload 4, 2) := by decide +kernel
theorem dX11_say_40 : decode cX11_say 40 = .ok (.iload_n 2, 1) := by decide +kernel
theorem dX11_say_41 : decode cX11_say 41 = .ok (.iload_n 3, 1) := by decide +kernel
theorem dX11_say_42 : decode cX11_say 42 = .ok (.iconst 0, 1) := by decide +kernel
theorem dX11_say_43 : decode cX11_say 43 = .ok (.aload_n 0, 1) := by decide +kernel
theorem dX11_say_44 : decode cX11_say 44 = .ok (.getfield 42, 3) := by decide +kernel
theorem dX11_say_47 : decode cX11_say 47 = .ok (.invokevirtual 222, 3) := by decide +kernel
theorem dX11_say_50 : decode cX11_say 50 = .ok (.ifCond .eq 17, 3) := by decide +kernel
theorem dX11_say_53 : decode cX11_say 53 = .ok (.aload_n 0, 1) := by decide +kernel
theorem dX11_say_54 : decode cX11_say 54 = .ok (.getfield 10, 3) := by decide +kernel
theorem dX11_say_57 : decode cX11_say 57 = .ok (.aload_n 0, 1) := by decide +kernel
theorem dX11_say_58 : decode cX11_say 58 = .ok (.getfield 42, 3) := by decide +kernel
theorem dX11_say_61 : decode cX11_say 61 = .ok (.invokevirtual 226, 3) := by decide +kernel
theorem dX11_say_64 : decode cX11_say 64 = .ok (.invokevirtual 230, 3) := by decide +kernel
theorem dX11_say_67 : decode cX11_say 67 = .ok (.aload_n 0, 1) := by decide +kernel
theorem dX11_say_68 : decode cX11_say 68 = .ok (.getfield 10, 3) := by decide +kernel
theorem dX11_say_71 : decode cX11_say 71 = .ok (.invokevirtual 85, 3) := by decide +kernel
theorem dX11_say_74 : decode cX11_say 74 = .ok (.ireturn, 1) := by decide +kernel
theorem dX11_parse_0 : decode cX11_parse 0 = .ok (.aload_n 0, 1) := by decide +kernel
theorem dX11_parse_1 : decode cX11_parse 1 = .ok (.getfield 58, 3) := by decide +kernel
theorem dX11_parse_4 : decode cX11_parse 4 = .ok (.aload_n 0, 1) := by decide +kernel
theorem dX11_parse_5 : decode cX11_parse 5 = .ok (.getfield 10, 3) := by decide +kernel
theorem dX11_parse_8 : decode cX11_parse 8 = .ok (.invokevirtual 234, 3) := by decide +kernel
theorem dX11_parse_11 : decode cX11_parse 11 = .ok (.istore_n 1, 1) := by decide +kernel
theorem dX11_parse_12 : decode cX11_parse 12 = .ok (.aload_n 0, 1) := by decide +kernel
theorem dX11_parse_13 : decode cX11_parse 13 = .ok (.getfield 10, 3) := by decide +kernel
theorem dX11_parse_16 : decode cX11_parse 16 = .ok (.invokevirtual 105, 3) := by decide +kernel
theorem dX11_parse_19 : decode cX11_parse 19 = .ok (.iload_n 1, 1) := by decide +kernel
theorem dX11_parse_20 : decode cX11_parse 20 = .ok (.ifCond .eq 6, 3) := by decide +kernel
theorem dX11_parse_23 : decode cX11_parse 23 = .ok (.iload_n 1, 1) := by decide +kernel
theorem dX11_parse_24 : decode cX11_parse 24 = .ok (.ineg, 1) := by decide +kernel
theorem dX11_parse_25 : decode cX11_parse 25 = .ok (.ireturn, 1) := by decide +kernel
theorem dX11_parse_26 : decode cX11_parse 26 = .ok (.aload_n 0, 1) := by decide +kernel
theorem dX11_parse_27 : decode cX11_parse 27 = .ok (.getfield 65, 3) := by decide +kernel
theorem dX11_parse_30 : decode cX11_parse 30 = .ok (.aload_n 0, 1) := by decide +kernel
theorem dX11_parse_31 : decode cX11_parse 31 = .ok (.getfield 58, 3) := by decide +kernel
theorem dX11_parse_34 : decode cX11_parse 34 = .ok (.invokevirtual 238, 3) := by decide +kernel
theorem dX11_parse_37 : decode cX11_parse 37 = .ok (.invokevirtual 242, 3) := by decide +kernel
theorem dX11_parse_40 : decode cX11_parse 40 = .ok (.aload_n 0, 1) := by decide +kernel
theorem dX11_parse_41 : decode cX11_parse 41 = .ok (.getfield 65, 3) := by decide +kernel
theorem dX11_parse_44 : decode cX11_parse 44 = .ok (.invokevirtual 245, 3) := by decide +kernel
theorem dX11_parse_47 : decode cX11_parse 47 = .ok (.ireturn, 1) := by decide +kernel
theorem dX11_parsed_0 : decode cX11_parsed 0 = .ok (.aload_n 0, 1) := by decide +kernel
theorem dX11_parsed_1 : decode cX11_parsed 1 = .ok (.getfield 65, 3) := by decide +kernel
theorem dX11_parsed_4 : decode cX11_parsed 4 = .ok (.iload_n 1, 1) := by decide +kernel
theorem dX11_parsed_5 : decode cX11_parsed 5 = .ok (.invokevirtual 246, 3) := by decide +kernel
theorem dX11_parsed_8 : decode cX11_parsed 8 = .ok (.ifCond .ne 13, 3) := by decide +kernel
theorem dX11_parsed_11 : decode cX11_parsed 11 = .ok (.new 141, 3) := by decide +kernel
theorem dX11_parsed_14 : decode cX11_parsed 14 = .ok (.dup, 1) := by decide +kernel
theorem dX11_parsed_15 : decode cX11_parsed 15 = .ok (.ldc 247, 2) := by decide +kernel
theorem dX11_parsed_17 : decode cX11_parsed 17 = .ok (.invokespecial 145, 3) := by decide +kernel
theorem dX11_parsed_20 : decode cX11_parsed 20 = .ok (.athrow, 1) := by decide +kernel
theorem dX11_parsed_21 : decode cX11_parsed 21 = .ok (.iload_n 2, 1) := by decide +kernel
theorem dX11_parsed_22 : decode cX11_parsed 22 = .ok (.tableswitch 79 0 4 #[34, 43, 52, 61, 70], 34) := by decide +kernel
theorem dX11_parsed_56 : decode cX11_parsed 56 = .ok (.aload_n 0, 1) := by decide +kernel
theorem dX11_parsed_57 : decode cX11_parsed 57 = .ok (.getfield 65, 3) := by decide +kernel
theorem dX11_parsed_60 : decode cX11_parsed 60 = .ok (.iload_n 1, 1) := by decide +kernel
theorem dX11_parsed_61 : decode cX11_parsed 61 = .ok (.invokevirtual 249, 3) := by decide +kernel
theorem dX11_parsed_64 : decode cX11_parsed 64 = .ok (.ireturn, 1) := by decide +kernel
theorem dX11_parsed_65 : decode cX11_parsed 65 = .ok (.aload_n 0, 1) := by decide +kernel
theorem dX11_parsed_66 : decode cX11_parsed 66 = .ok (.getfield 65, 3) := by decide +kernel
theorem dX11_parsed_69 : decode cX11_parsed 69 = .ok (.iload_n 1, 1) := by decide +kernel
theorem dX11_parsed_70 : decode cX11_parsed 70 = .ok (.invokevirtual 252, 3) := by decide +kernel
theorem dX11_parsed_73 : decode cX11_parsed 73 = .ok (.ireturn, 1) := by decide +kernel
theorem dX11_parsed_74 : decode cX11_parsed 74 = .ok (.aload_n 0, 1) := by decide +kernel
theorem dX11_parsed_75 : decode cX11_parsed 75 = .ok (.getfield 65, 3) := by decide +kernel
theorem dX11_parsed_78 : decode cX11_parsed 78 = .ok (.iload_n 1, 1) := by decide +kernel
theorem dX11_parsed_79 : decode cX11_parsed 79 = .ok (.invokevirtual 255, 3) := by decide +kernel
theorem dX11_parsed_82 : decode cX11_parsed 82 = .ok (.ireturn, 1) := by decide +kernel
theorem dX11_parsed_83 : decode cX11_parsed 83 = .ok (.aload_n 0, 1) := by decide +kernel
theorem dX11_parsed_84 : decode cX11_parsed 84 = .ok (.getfield 65, 3) := by decide +kernel
theorem dX11_parsed_87 : decode cX11_parsed 87 = .ok (.iload_n 1, 1) := by decide +kernel
theorem dX11_parsed_88 : decode cX11_parsed 88 = .ok (.invokevirtual 258, 3) := by decide +kernel
theorem dX11_parsed_91 : decode cX11_parsed 91 = .ok (.ireturn, 1) := by decide +kernel
theorem dX11_parsed_92 : decode cX11_parsed 92 = .ok (.aload_n 0, 1) := by decide +kernel
theorem dX11_parsed_93 : decode cX11_parsed 93 = .ok (.getfield 65, 3) := by decide +kernel
theorem dX11_parsed_96 : decode cX11_parsed 96 = .ok (.iload_n 1, 1) := by decide +kernel
theorem dX11_parsed_97 : decode cX11_parsed 97 = .ok (.invokevirtual 261, 3) := by decide +kernel
theorem dX11_parsed_100 : decode cX11_parsed 100 = .ok (.ireturn, 1) := by decide +kernel
theorem dX11_parsed_101 : decode cX11_parsed 101 = .ok (.new 141, 3) := by decide +kernel
theorem dX11_parsed_104 : decode cX11_parsed 104 = .ok (.dup, 1) := by decide +kernel
theorem dX11_parsed_105 : decode cX11_parsed 105 = .ok (.ldc_w 264, 3) := by decide +kernel
theorem dX11_parsed_108 : decode cX11_parsed 108 = .ok (.invokespecial 145, 3) := by decide +kernel
theorem dX11_parsed_111 : decode cX11_parsed 111 = .ok (.athrow, 1) := by decide +kernel
theorem dX11_hint_0 : decode cX11_hint 0 = .ok (.aload_n 0, 1) := by decide +kernel
theorem dX11_hint_1 : decode cX11_hint 1 = .ok (.getfield 81, 3) := by decide +kernel
theorem dX11_hint_4 : decode cX11_hint 4 = .ok (.iload_n 1, 1) := by decide +kernel
theorem dX11_hint_5 : decode cX11_hint 5 = .ok (.invokevirtual 266, 3) := by decide +kernel
theorem dX11_hint_8 : decode cX11_hint 8 = .ok (.ireturn, 1) := by decide +kernel
theorem dX11_tick_0 : decode cX11_tick 0 = .ok (.iload_n 1, 1) := by decide +kernel
theorem dX11_tick_1 : decode cX11_tick 1 = .ok (.ifCond .lt 10, 3) := by decide +kernel
theorem dX11_tick_4 : decode cX11_tick 4 = .ok (.iload_n 1, 1) := by decide +kernel
theorem dX11_tick_5 : decode cX11_tick 5 = .ok (.ldc_w 269, 3) := by decide +kernel
theorem dX11_tick_8 : decode cX11_tick 8 = .ok (.if_icmp .le 14, 3) := by decide +kernel
theorem dX11_tick_11 : decode cX11_tick 11 = .ok (.new 108, 3) := by decide +kernel
theorem dX11_tick_14 : decode cX11_tick 14 = .ok (.dup, 1) := by decide +kernel
theorem dX11_tick_15 : decode cX11_tick 15 = .ok (.ldc_w 270, 3) := by decide +kernel
theorem dX11_tick_18 : decode cX11_tick 18 = .ok (.invokespecial 112, 3) := by decide +kernel
theorem dX11_tick_21 : decode cX11_tick 21 = .ok (.athrow, 1) := by decide +kernel
theorem dX11_tick_22 : decode cX11_tick 22 = .ok (.aload_n 0, 1) := by decide +kernel
theorem dX11_tick_23 : decode cX11_tick 23 = .ok (.getfield 72, 3) := by decide +kernel
theorem dX11_tick_26 : decode cX11_tick 26 = .ok (.iload_n 1, 1) := by decide +kernel
theorem dX11_tick_27 : decode cX11_tick 27 = .ok (.invokevirtual 272, 3) := by decide +kernel
theorem dX11_tick_30 : decode cX11_tick 30 = .ok (.ireturn, 1) := by decide +kernel
theorem dX11_ask_0 : decode cX11_ask 0 = .ok (.aload_n 0, 1) := by decide +kernel
theorem dX11_ask_1 : decode cX11_ask 1 = .ok (.iload_n 1, 1) := by decide +kernel
theorem dX11_ask_2 : decode cX11_ask 2 = .ok (.invokevirtual 128, 3) := by decide +kernel
theorem dX11_ask_5 : decode cX11_ask 5 = .ok (.aload_n 0, 1) := by decide +kernel
theorem dX11_ask_6 : decode cX11_ask 6 = .ok (.getfield 81, 3) := by decide +kernel
theorem dX11_ask_9 : decode cX11_ask 9 = .ok (.invokevirtual 275, 3) := by decide +kernel
theorem dX11_ask_12 : decode cX11_ask 12 = .ok (.iconst 4, 1) := by decide +kernel
theorem dX11_ask_13 : decode cX11_ask 13 = .ok (.if_icmp .ne 14, 3) := by decide +kernel
theorem dX11_ask_16 : decode cX11_ask 16 = .ok (.new 278, 3) := by decide +kernel
theorem dX11_ask_19 : decode cX11_ask 19 = .ok (.dup, 1) := by decide +kernel
theorem dX11_ask_20 : decode cX11_ask 20 = .ok (.ldc_w 280, 3) := by decide +kernel
theorem dX11_ask_23 : decode cX11_ask 23 = .ok (.invokespecial 282, 3) := by decide +kernel
theorem dX11_ask_26 : decode cX11_ask 26 = .ok (.athrow, 1) := by decide +kernel
theorem dX11_ask_27 : decode cX11_ask 27 = .ok (.iload_n 2, 1) := by decide +kernel
theorem dX11_ask_28 : decode cX11_ask 28 = .ok (.invokestatic 173, 3) := by decide +kernel
theorem dX11_ask_31 : decode cX11_ask 31 = .ok (.ifCond .ne 14, 3) := by decide +kernel
theorem dX11_ask_34 : decode cX11_ask 34 = .ok (.new 108, 3) := by decide +kernel
theorem dX11_ask_37 : decode cX11_ask 37 = .ok (.dup, 1) := by decide +kernel
theorem dX11_ask_38 : decode cX11_ask 38 = .ok (.ldc_w 283, 3) := by decide +kernel
theorem dX11_ask_41 : decode cX11_ask 41 = .ok (.invokespecial 112, 3) := by decide +kernel
theorem dX11_ask_44 : decode cX11_ask 44 = .ok (.athrow, 1) := by decide +kernel
theorem dX11_ask_45 : decode cX11_ask 45 = .ok (.aload_n 0, 1) := by decide +kernel
theorem dX11_ask_46 : decode cX11_ask 46 = .ok (.getfield 81, 3) := by decide +kernel
theorem dX11_ask_49 : decode cX11_ask 49 = .ok (.iload_n 1, 1) := by decide +kernel
theorem dX11_ask_50 : decode cX11_ask 50 = .ok (.iload_n 2, 1) := by decide +kernel
theorem dX11_ask_51 : decode cX11_ask 51 = .ok (.invokevirtual 285, 3) := by decide +kernel
theorem dX11_ask_54 : decode cX11_ask 54 = .ok (.aload_n 0, 1) := by decide +kernel
theorem dX11_ask_55 : decode cX11_ask 55 = .ok (.getfield 81, 3) := by decide +kernel
theorem dX11_ask_58 : decode cX11_ask 58 = .ok (.invokevirtual 289, 3) := by decide +kernel
theorem dX11_ask_61 : decode cX11_ask 61 = .ok (.ireturn, 1) := by decide +kernel
theorem dX11_step_0 : decode cX11_step 0 = .ok (.aload_n 0, 1) := by decide +kernel
theorem dX11_step_1 : decode cX11_step 1 = .ok (.invokevirtual 291, 3) := by decide +kernel
theorem dX11_step_4 : decode cX11_step 4 = .ok (.aload_n 0, 1) := by decide +kernel
theorem dX11_step_5 : decode cX11_step 5 = .ok (.getfield 51, 3) := by decide +kernel
theorem dX11_step_8 : decode cX11_step 8 = .ok (.aload_n 0, 1) := by decide +kernel
theorem dX11_step_9 : decode cX11_step 9 = .ok (.getfield 81, 3) := by decide +kernel
theorem dX11_step_12 : decode cX11_step 12 = .ok (.invokevirtual 294, 3) := by decide +kernel
theorem dX11_step_15 : decode cX11_step 15 = .ok (.invokevirtual 202, 3) := by decide +kernel
theorem dX11_step_18 : decode cX11_step 18 = .ok (.istore_n 1, 1) := by decide +kernel
theorem dX11_step_19 : decode cX11_step 19 = .ok (.aload_n 0, 1) := by decide +kernel
theorem dX11_step_20 : decode cX11_step 20 = .ok (.getfield 51, 3) := by decide +kernel
theorem dX11_step_23 : decode cX11_step 23 = .ok (.iload_n 1, 1) := by decide +kernel
theorem dX11_step_24 : decode cX11_step 24 = .ok (.aload_n 0, 1) := by decide +kernel
theorem dX11_step_25 : decode cX11_step 25 = .ok (.getfield 81, 3) := by decide +kernel
theorem dX11_step_28 : decode cX11_step 28 = .ok (.invokevirtual 297, 3) := by decide +kernel
theorem dX11_step_31 : decode cX11_step 31 = .ok (.invokevirtual 219, 3) := by decide +kernel
theorem dX11_step_34 : decode cX11_step 34 = .ok (.istore_n 2, 1) := by decide +kernel
theorem dX11_step_35 : decode cX11_step 35 = .ok (.iload_n 2, 1) := by decide +kernel
theorem dX11_step_36 : decode cX11_step 36 = .ok (.iconst (-1), 1) := by decide +kernel
theorem dX11_step_37 : decode cX11_step 37 = .ok (.if_icmp .eq 83, 3) := by decide +kernel
theorem dX11_step_40 : decode cX11_step 40 = .ok (.aload_n 0, 1) := by decide +kernel
theorem dX11_step_41 : decode cX11_step 41 = .ok (.getfield 35, 3) := by decide +kernel
theorem dX11_step_44 : decode cX11_step 44 = .ok (.iload_n 2, 1) := by decide +kernel
theorem dX11_step_45 : decode cX11_step 45 = .ok (.aload_n 0, 1) := by decide +kernel
theorem dX11_step_46 : decode cX11_step 46 = .ok (.getfield 81, 3) := by decide +kernel
theorem dX11_step_49 : decode cX11_step 49 = .ok (.invokevirtual 297, 3) := by decide +kernel
theorem dX11_step_52 : decode cX11_step 52 = .ok (.aload_n 0, 1) := by decide +kernel
theorem dX11_step_53 : decode cX11_step 53 = .ok (.getfield 81, 3) := by decide +kernel
theorem dX11_step_56 : decode cX11_step 56 = .ok (.invokevirtual 300, 3) := by decide +kernel
theorem dX11_step_59 : decode cX11_step 59 = .ok (.aload_n 0, 1) := by decide +kernel
theorem dX11_step_60 : decode cX11_step 60 = .ok (.getfield 81, 3) := by decide +kernel
theorem dX11_step_63 : decode cX11_step 63 = .ok (.invokevirtual 303, 3) := by decide +kernel
theorem dX11_step_66 : decode cX11_step 66 = .ok (.aload_n 0, 1) := by decide +kernel
theorem dX11_step_67 : decode cX11_step 67 = .ok (.getfield 42, 3) := by decide +kernel
theorem dX11_step_70 : decode cX11_step 70 = .ok (.invokevirtual 222, 3) := by decide +kernel
theorem dX11_step_73 : decode cX11_step 73 = .ok (.ifCond .eq 47, 3) := by decide +kernel
theorem dX11_step_76 : decode cX11_step 76 = .ok (.aload_n 0, 1) := by decide +kernel
theorem dX11_step_77 : decode cX11_step 77 = .ok (.getfield 58, 3) := by decide +kernel
theorem dX11_step_80 : decode cX11_step 80 = .ok (.aload_n 0, 1) := by decide +kernel
theorem dX11_step_81 : decode cX11_step 81 = .ok (.getfield 42, 3) := by decide +kernel
theorem dX11_step_84 : decode cX11_step 84 = .ok (.invokevirtual 226, 3) := by decide +kernel
theorem dX11_step_87 : decode cX11_step 87 = .ok (.invokevirtual 234, 3) := by decide +kernel
theorem dX11_step_90 : decode cX11_step 90 = .ok (.istore_n 3, 1) := by decide +kernel
theorem dX11_step_91 : decode cX11_step 91 = .ok (.iload_n 3, 1) := by decide +kernel
theorem dX11_step_92 : decode cX11_step 92 = .ok (.ifCond .ne 28, 3) := by decide +kernel
theorem dX11_step_95 : decode cX11_step 95 = .ok (.aload_n 0, 1) := by decide +kernel
theorem dX11_step_96 : decode cX11_step 96 = .ok (.getfield 81, 3) := by decide +kernel
theorem dX11_step_99 : decode cX11_step 99 = .ok (.aload_n 0, 1) := by decide +kernel
theorem dX11_step_100 : decode cX11_step 100 = .ok (.getfield 58, 3) := by decide +kernel
theorem dX11_step_103 : decode cX11_step 103 = .ok (.invokevirtual 306, 3) := by decide +kernel
theorem dX11_step_106 : decode cX11_step 106 = .ok (.ifCond .eq 14, 3) := by decide +kernel
theorem dX11_step_109 : decode cX11_step 109 = .ok (.aload_n 0, 1) := by decide +kernel
theorem dX11_step_110 : decode cX11_step 110 = .ok (.getfield 81, 3) := by decide +kernel
theorem dX11_step_113 : decode cX11_step 113 = .ok (.aload_n 0, 1) := by decide +kernel
theorem dX11_step_114 : decode cX11_step 114 = .ok (.getfield 58, 3) := by decide +kernel
theorem dX11_step_117 : decode cX11_step 117 = .ok (.invokevirtual 310, 3) := by decide +kernel
theorem dX11_step_120 : decode cX11_step 120 = .ok (.aload_n 0, 1) := by decide +kernel
theorem dX11_step_121 : decode cX11_step 121 = .ok (.getfield 81, 3) := by decide +kernel
theorem dX11_step_124 : decode cX11_step 124 = .ok (.invokevirtual 289, 3) := by decide +kernel
theorem dX11_step_127 : decode cX11_step 127 = .ok (.ireturn, 1) := by decide +kernel
theorem dX11_lose_0 : decode cX11_lose 0 = .ok (.aload_n 0, 1) := by decide +kernel
theorem dX11_lose_1 : decode cX11_lose 1 = .ok (.invokevirtual 291, 3) := by decide +kernel
theorem dX11_lose_4 : decode cX11_lose 4 = .ok (.aload_n 0, 1) := by decide +kernel
theorem dX11_lose_5 : decode cX11_lose 5 = .ok (.getfield 81, 3) := by decide +kernel
theorem dX11_lose_8 : decode cX11_lose 8 = .ok (.invokevirtual 289, 3) := by decide +kernel
theorem dX11_lose_11 : decode cX11_lose 11 = .ok (.ireturn, 1) := by decide +kernel
theorem dX11_forge_0 : decode cX11_forge 0 = .ok (.aload_n 0, 1) := by decide +kernel
theorem dX11_forge_1 : decode cX11_forge 1 = .ok (.getfield 81, 3) := by decide +kernel
theorem dX11_forge_4 : decode cX11_forge 4 = .ok (.invokevirtual 314, 3) := by decide +kernel
theorem dX11_forge_7 : decode cX11_forge 7 = .ok (.ifCond .ne 21, 3) := by decide +kernel
theorem dX11_forge_10 : decode cX11_forge 10 = .ok (.aload_n 0, 1) := by decide +kernel
theorem dX11_forge_11 : decode cX11_forge 11 = .ok (.getfield 10, 3) := by decide +kernel
theorem dX11_forge_14 : decode cX11_forge 14 = .ok (.invokevirtual 105, 3) := by decide +kernel
theorem dX11_forge_17 : decode cX11_forge 17 = .ok (.new 278, 3) := by decide +kernel
theorem dX11_forge_20 : decode cX11_forge 20 = .ok (.dup, 1) := by decide +kernel
theorem dX11_forge_21 : decode cX11_forge 21 = .ok (.ldc_w 318, 3) := by decide +kernel
theorem dX11_forge_24 : decode cX11_forge 24 = .ok (.invokespecial 282, 3) := by decide +kernel
theorem dX11_forge_27 : decode cX11_forge 27 = .ok (.athrow, 1) := by decide +kernel
theorem dX11_forge_28 : decode cX11_forge 28 = .ok (.aload_n 0, 1) := by decide +kernel
theorem dX11_forge_29 : decode cX11_forge 29 = .ok (.getfield 58, 3) := by decide +kernel
theorem dX11_forge_32 : decode cX11_forge 32 = .ok (.aload_n 0, 1) := by decide +kernel
theorem dX11_forge_33 : decode cX11_forge 33 = .ok (.getfield 10, 3) := by decide +kernel
theorem dX11_forge_36 : decode cX11_forge 36 = .ok (.invokevirtual 234, 3) := by decide +kernel
theorem dX11_forge_39 : decode cX11_forge 39 = .ok (.istore_n 1, 1) := by decide +kernel
theorem dX11_forge_40 : decode cX11_forge 40 = .ok (.aload_n 0, 1) := by decide +kernel
theorem dX11_forge_41 : decode cX11_forge 41 = .ok (.getfield 10, 3) := by decide +kernel
theorem dX11_forge_44 : decode cX11_forge 44 = .ok (.invokevirtual 105, 3) := by decide +kernel
theorem dX11_forge_47 : decode cX11_forge 47 = .ok (.iload_n 1, 1) := by decide +kernel
theorem dX11_forge_48 : decode cX11_forge 48 = .ok (.ifCond .ne 17, 3) := by decide +kernel
theorem dX11_forge_51 : decode cX11_forge 51 = .ok (.aload_n 0, 1) := by decide +kernel
theorem dX11_forge_52 : decode cX11_forge 52 = .ok (.getfield 81, 3) := by decide +kernel
theorem dX11_forge_55 : decode cX11_forge 55 = .ok (.aload_n 0, 1) := by decide +kernel
theorem dX11_forge_56 : decode cX11_forge 56 = .ok (.getfield 58, 3) := by decide +kernel
theorem dX11_forge_59 : decode cX11_forge 59 = .ok (.invokevirtual 306, 3) := by decide +kernel
theorem dX11_forge_62 : decode cX11_forge 62 = .ok (.ifCond .ne 5, 3) := by decide +kernel
theorem dX11_forge_65 : decode cX11_forge 65 = .ok (.iconst (-1), 1) := by decide +kernel
theorem dX11_forge_66 : decode cX11_forge 66 = .ok (.ireturn, 1) := by decide +kernel
theorem dX11_forge_67 : decode cX11_forge 67 = .ok (.aload_n 0, 1) := by decide +kernel
theorem dX11_forge_68 : decode cX11_forge 68 = .ok (.getfield 81, 3) := by decide +kernel
theorem dX11_forge_71 : decode cX11_forge 71 = .ok (.aload_n 0, 1) := by decide +kernel
theorem dX11_forge_72 : decode cX11_forge 72 = .ok (.getfield 58, 3) := by decide +kernel
theorem dX11_forge_75 : decode cX11_forge 75 = .ok (.invokevirtual 310, 3) := by decide +kernel
theorem dX11_forge_78 : decode cX11_forge 78 = .ok (.aload_n 0, 1) := by decide +kernel
theorem dX11_forge_79 : decode cX11_forge 79 = .ok (.getfield 81, 3) := by decide +kernel
theorem dX11_forge_82 : decode cX11_forge 82 = .ok (.invokevirtual 289, 3) := by decide +kernel
theorem dX11_forge_85 : decode cX11_forge 85 = .ok (.ireturn, 1) := by decide +kernel
theorem dX11_query_0 : decode cX11_query 0 = .ok (.aload_n 0, 1) := by decide +kernel
theorem dX11_query_1 : decode cX11_query 1 = .ok (.invokevirtual 291, 3) := by decide +kernel
theorem dX11_query_4 : decode cX11_query 4 = .ok (.iload_n 1, 1) := by decide +kernel
theorem dX11_query_5 : decode cX11_query 5 = .ok (.tableswitch 87 0 5 #[39, 47, 55, 63, 71, 79], 39) := by decide +kernel
theorem dX11_query_44 : decode cX11_query 44 = .ok (.aload_n 0, 1) := by decide +kernel
theorem dX11_query_45 : decode cX11_query 45 = .ok (.getfield 81, 3) := by decide +kernel
theorem dX11_query_48 : decode cX11_query 48 = .ok (.invokevirtual 294, 3) := by decide +kernel
theorem dX11_query_51 : decode cX11_query 51 = .ok (.ireturn, 1) := by decide +kernel
theorem dX11_query_52 : decode cX11_query 52 = .ok (.aload_n 0, 1) := by decide +kernel
theorem dX11_query_53 : decode cX11_query 53 = .ok (.getfield 81, 3) := by decide +kernel
theorem dX11_query_56 : decode cX11_query 56 = .ok (.invokevirtual 303, 3) := by decide +kernel
theorem dX11_query_59 : decode cX11_query 59 = .ok (.ireturn, 1) := by decide +kernel
theorem dX11_query_60 : decode cX11_query 60 = .ok (.aload_n 0, 1) := by decide +kernel
theorem dX11_query_61 : decode cX11_query 61 = .ok (.getfield 81, 3) := by decide +kernel
theorem dX11_query_64 : decode cX11_query 64 = .ok (.invokevirtual 297, 3) := by decide +kernel
theorem dX11_query_67 : decode cX11_query 67 = .ok (.ireturn, 1) := by decide +kernel
theorem dX11_query_68 : decode cX11_query 68 = .ok (.aload_n 0, 1) := by decide +kernel
theorem dX11_query_69 : decode cX11_query 69 = .ok (.getfield 81, 3) := by decide +kernel
theorem dX11_query_72 : decode cX11_query 72 = .ok (.invokevirtual 300, 3) := by decide +kernel
theorem dX11_query_75 : decode cX11_query 75 = .ok (.ireturn, 1) := by decide +kernel
theorem dX11_query_76 : decode cX11_query 76 = .ok (.aload_n 0, 1) := by decide +kernel
theorem dX11_query_77 : decode cX11_query 77 = .ok (.getfield 81, 3) := by decide +kernel
theorem dX11_query_80 : decode cX11_query 80 = .ok (.invokevirtual 320, 3) := by decide +kernel
theorem dX11_query_83 : decode cX11_query 83 = .ok (.ireturn, 1) := by decide +kernel
theorem dX11_query_84 : decode cX11_query 84 = .ok (.aload_n 0, 1) := by decide +kernel
theorem dX11_query_85 : decode cX11_query 85 = .ok (.getfield 81, 3) := by decide +kernel
theorem dX11_query_88 : decode cX11_query 88 = .ok (.invokevirtual 322, 3) := by decide +kernel
theorem dX11_query_91 : decode cX11_query 91 = .ok (.ireturn, 1) := by decide +kernel
theorem dX11_query_92 : decode cX11_query 92 = .ok (.new 141, 3) := by decide +kernel
theorem dX11_query_95 : decode cX11_query 95 = .ok (.dup, 1) := by decide +kernel
theorem dX11_query_96 : decode cX11_query 96 = .ok (.ldc_w 325, 3) := by decide +kernel
theorem dX11_query_99 : decode cX11_query 99 = .ok (.invokespecial 145, 3) := by decide +kernel
theorem dX11_query_102 : decode cX11_query 102 = .ok (.athrow, 1) := by decide +kernel
theorem dX11_result_0 : decode cX11_result 0 = .ok (.iload_n 1, 1) := by decide +kernel
theorem dX11_result_1 : decode cX11_result 1 = .ok (.tableswitch 75 0 4 #[35, 43, 51, 59, 67], 35) := by decide +kernel
theorem dX11_result_36 : decode cX11_result 36 = .ok (.aload_n 0, 1) := by decide +kernel
theorem dX11_result_37 : decode cX11_result 37 = .ok (.getfield 81, 3) := by decide +kernel
theorem dX11_result_40 : decode cX11_result 40 = .ok (.invokevirtual 275, 3) := by decide +kernel
theorem dX11_result_43 : decode cX11_result 43 = .ok (.ireturn, 1) := by decide +kernel
theorem dX11_result_44 : decode cX11_result 44 = .ok (.aload_n 0, 1) := by decide +kernel
theorem dX11_result_45 : decode cX11_result 45 = .ok (.getfield 81, 3) := by decide +kernel
theorem dX11_result_48 : decode cX11_result 48 = .ok (.invokevirtual 327, 3) := by decide +kernel
theorem dX11_result_51 : decode cX11_result 51 = .ok (.ireturn, 1) := by decide +kernel
theorem dX11_result_52 : decode cX11_result 52 = .ok (.aload_n 0, 1) := by decide +kernel
theorem dX11_result_53 : decode cX11_result 53 = .ok (.getfield 81, 3) := by decide +kernel
theorem dX11_result_56 : decode cX11_result 56 = .ok (.invokevirtual 330, 3) := by decide +kernel
theorem dX11_result_59 : decode cX11_result 59 = .ok (.ireturn, 1) := by decide +kernel
theorem dX11_result_60 : decode cX11_result 60 = .ok (.aload_n 0, 1) := by decide +kernel
theorem dX11_result_61 : decode cX11_result 61 = .ok (.getfield 81, 3) := by decide +kernel
theorem dX11_result_64 : decode cX11_result 64 = .ok (.invokevirtual 333, 3) := by decide +kernel
theorem dX11_result_67 : decode cX11_result 67 = .ok (.ireturn, 1) := by decide +kernel
theorem dX11_result_68 : decode cX11_result 68 = .ok (.aload_n 0, 1) := by decide +kernel
theorem dX11_result_69 : decode cX11_result 69 = .ok (.getfield 81, 3) := by decide +kernel
theorem dX11_result_72 : decode cX11_result 72 = .ok (.invokevirtual 336, 3) := by decide +kernel
theorem dX11_result_75 : decode cX11_result 75 = .ok (.ireturn, 1) := by decide +kernel
theorem dX11_result_76 : decode cX11_result 76 = .ok (.new 141, 3) := by decide +kernel
theorem dX11_result_79 : decode cX11_result 79 = .ok (.dup, 1) := by decide +kernel
theorem dX11_result_80 : decode cX11_result 80 = .ok (.ldc_w 339, 3) := by decide +kernel
theorem dX11_result_83 : decode cX11_result 83 = .ok (.invokespecial 145, 3) := by decide +kernel
theorem dX11_result_86 : decode cX11_result 86 = .ok (.athrow, 1) := by decide +kernel
theorem dX11_data_0 : decode cX11_data 0 = .ok (.aload_n 0, 1) := by decide +kernel
theorem dX11_data_1 : decode cX11_data 1 = .ok (.getfield 81, 3) := by decide +kernel
theorem dX11_data_4 : decode cX11_data 4 = .ok (.iload_n 1, 1) := by decide +kernel
theorem dX11_data_5 : decode cX11_data 5 = .ok (.invokevirtual 341, 3) := by decide +kernel
theorem dX11_data_8 : decode cX11_data 8 = .ok (.ireturn, 1) := by decide +kernel
theorem dX11_cached_0 : decode cX11_cached 0 = .ok (.aload_n 0, 1) := by decide +kernel
theorem dX11_cached_1 : decode cX11_cached 1 = .ok (.iload_n 1, 1) := by decide +kernel
theorem dX11_cached_2 : decode cX11_cached 2 = .ok (.invokevirtual 128, 3) := by decide +kernel
theorem dX11_cached_5 : decode cX11_cached 5 = .ok (.aload_n 0, 1) := by decide +kernel
theorem dX11_cached_6 : decode cX11_cached 6 = .ok (.getfield 72, 3) := by decide +kernel
theorem dX11_cached_9 : decode cX11_cached 9 = .ok (.iload_n 1, 1) := by decide +kernel
theorem dX11_cached_10 : decode cX11_cached 10 = .ok (.iload_n 2, 1) := by decide +kernel
theorem dX11_cached_11 : decode cX11_cached 11 = .ok (.invokevirtual 344, 3) := by decide +kernel
theorem dX11_cached_14 : decode cX11_cached 14 = .ok (.ireturn, 1) := by decide +kernel
theorem dX11_count_0 : decode cX11_count 0 = .ok (.iload_n 1, 1) := by decide +kernel
theorem dX11_count_1 : decode cX11_count 1 = .ok (.tableswitch 123 0 8 #[51, 59, 67, 75, 83, 91, 99, 107, 115], 51) := by decide +kernel
theorem dX11_count_52 : decode cX11_count 52 = .ok (.aload_n 0, 1) := by decide +kernel
theorem dX11_count_53 : decode cX11_count 53 = .ok (.getfield 19, 3) := by decide +kernel
theorem dX11_count_56 : decode cX11_count 56 = .ok (.invokevirtual 115, 3) := by decide +kernel
theorem dX11_count_59 : decode cX11_count 59 = .ok (.ireturn, 1) := by decide +kernel
theorem dX11_count_60 : decode cX11_count 60 = .ok (.aload_n 0, 1) := by decide +kernel
theorem dX11_count_61 : decode cX11_count 61 = .ok (.getfield 35, 3) := by decide +kernel
theorem dX11_count_64 : decode cX11_count 64 = .ok (.invokevirtual 158, 3) := by decide +kernel
theorem dX11_count_67 : decode cX11_count 67 = .ok (.ireturn, 1) := by decide +kernel
theorem dX11_count_68 : decode cX11_count 68 = .ok (.aload_n 0, 1) := by decide +kernel
theorem dX11_count_69 : decode cX11_count 69 = .ok (.getfield 35, 3) := by decide +kernel
theorem dX11_count_72 : decode cX11_count 72 = .ok (.invokevirtual 186, 3) := by decide +kernel
theorem dX11_count_75 : decode cX11_count 75 = .ok (.ireturn, 1) := by decide +kernel
theorem dX11_count_76 : decode cX11_count 76 = .ok (.aload_n 0, 1) := by decide +kernel
theorem dX11_count_77 : decode cX11_count 77 = .ok (.getfield 51, 3) := by decide +kernel
theorem dX11_count_80 : decode cX11_count 80 = .ok (.invokevirtual 207, 3) := by decide +kernel
theorem dX11_count_83 : decode cX11_count 83 = .ok (.ireturn, 1) := by decide +kernel
theorem dX11_count_84 : decode cX11_count 84 = .ok (.aload_n 0, 1) := by decide +kernel
theorem dX11_count_85 : decode cX11_count 85 = .ok (.getfield 81, 3) := by decide +kernel
theorem dX11_count_88 : decode cX11_count 88 = .ok (.invokevirtual 347, 3) := by decide +kernel
theorem dX11_count_91 : decode cX11_count 91 = .ok (.ireturn, 1) := by decide +kernel
theorem dX11_count_92 : decode cX11_count 92 = .ok (.aload_n 0, 1) := by decide +kernel
theorem dX11_count_93 : decode cX11_count 93 = .ok (.getfield 72, 3) := by decide +kernel
theorem dX11_count_96 : decode cX11_count 96 = .ok (.invokevirtual 350, 3) := by decide +kernel
theorem dX11_count_99 : decode cX11_count 99 = .ok (.ireturn, 1) := by decide +kernel
theorem dX11_count_100 : decode cX11_count 100 = .ok (.aload_n 0, 1) := by decide +kernel
theorem dX11_count_101 : decode cX11_count 101 = .ok (.getfield 72, 3) := by decide +kernel
theorem dX11_count_104 : decode cX11_count 104 = .ok (.invokevirtual 353, 3) := by decide +kernel
theorem dX11_count_107 : decode cX11_count 107 = .ok (.ireturn, 1) := by decide +kernel
theorem dX11_count_108 : decode cX11_count 108 = .ok (.aload_n 0, 1) := by decide +kernel
theorem dX11_count_109 : decode cX11_count 109 = .ok (.getfield 81, 3) := by decide +kernel
theorem dX11_count_112 : decode cX11_count 112 = .ok (.invokevirtual 354, 3) := by decide +kernel
theorem dX11_count_115 : decode cX11_count 115 = .ok (.ireturn, 1) := by decide +kernel
theorem dX11_count_116 : decode cX11_count 116 = .ok (.aload_n 0, 1) := by decide +kernel
theorem dX11_count_117 : decode cX11_count 117 = .ok (.getfield 10, 3) := by decide +kernel
theorem dX11_count_120 : decode cX11_count 120 = .ok (.invokevirtual 85, 3) := by decide +kernel
theorem dX11_count_123 : decode cX11_count 123 = .ok (.ireturn, 1) := by decide +kernel
theorem dX11_count_124 : decode cX11_count 124 = .ok (.iconst (-1), 1) := by decide +kernel
theorem dX11_count_125 : decode cX11_count 125 = .ok (.ireturn, 1) := by decide +kernel
theorem dX11_needName_0 : decode cX11_needName 0 = .ok (.aload_n 0, 1) := by decide +kernel
theorem dX11_needName_1 : decode cX11_needName 1 = .ok (.getfield 19, 3) := by decide +kernel
theorem dX11_needName_4 : decode cX11_needName 4 = .ok (.iload_n 1, 1) := by decide +kernel
theorem dX11_needName_5 : decode cX11_needName 5 = .ok (.invokevirtual 181, 3) := by decide +kernel
theorem dX11_needName_8 : decode cX11_needName 8 = .ok (.ifCond .ne 14, 3) := by decide +kernel
theorem dX11_needName_11 : decode cX11_needName 11 = .ok (.new 357, 3) := by decide +kernel
theorem dX11_needName_14 : decode cX11_needName 14 = .ok (.dup, 1) := by decide +kernel
theorem dX11_needName_15 : decode cX11_needName 15 = .ok (.ldc_w 359, 3) := by decide +kernel
theorem dX11_needName_18 : decode cX11_needName 18 = .ok (.invokespecial 361, 3) := by decide +kernel
theorem dX11_needName_21 : decode cX11_needName 21 = .ok (.athrow, 1) := by decide +kernel
theorem dX11_needName_22 : decode cX11_needName 22 = .ok (.return_, 1) := by decide +kernel
theorem dX11_needZone_0 : decode cX11_needZone 0 = .ok (.aload_n 0, 1) := by decide +kernel
theorem dX11_needZone_1 : decode cX11_needZone 1 = .ok (.getfield 35, 3) := by decide +kernel
theorem dX11_needZone_4 : decode cX11_needZone 4 = .ok (.iload_n 1, 1) := by decide +kernel
theorem dX11_needZone_5 : decode cX11_needZone 5 = .ok (.invokevirtual 362, 3) := by decide +kernel
theorem dX11_needZone_8 : decode cX11_needZone 8 = .ok (.ifCond .ne 14, 3) := by decide +kernel
theorem dX11_needZone_11 : decode cX11_needZone 11 = .ok (.new 357, 3) := by decide +kernel
theorem dX11_needZone_14 : decode cX11_needZone 14 = .ok (.dup, 1) := by decide +kernel
theorem dX11_needZone_15 : decode cX11_needZone 15 = .ok (.ldc_w 363, 3) := by decide +kernel
theorem dX11_needZone_18 : decode cX11_needZone 18 = .ok (.invokespecial 361, 3) := by decide +kernel
theorem dX11_needZone_21 : decode cX11_needZone 21 = .ok (.athrow, 1) := by decide +kernel
theorem dX11_needZone_22 : decode cX11_needZone 22 = .ok (.return_, 1) := by decide +kernel
theorem dX11_needServer_0 : decode cX11_needServer 0 = .ok (.aload_n 0, 1) := by decide +kernel
theorem dX11_needServer_1 : decode cX11_needServer 1 = .ok (.getfield 51, 3) := by decide +kernel
theorem dX11_needServer_4 : decode cX11_needServer 4 = .ok (.iload_n 1, 1) := by decide +kernel
theorem dX11_needServer_5 : decode cX11_needServer 5 = .ok (.invokevirtual 365, 3) := by decide +kernel
theorem dX11_needServer_8 : decode cX11_needServer 8 = .ok (.ifCond .ne 14, 3) := by decide +kernel
theorem dX11_needServer_11 : decode cX11_needServer 11 = .ok (.new 357, 3) := by decide +kernel
theorem dX11_needServer_14 : decode cX11_needServer 14 = .ok (.dup, 1) := by decide +kernel
theorem dX11_needServer_15 : decode cX11_needServer 15 = .ok (.ldc_w 366, 3) := by decide +kernel
theorem dX11_needServer_18 : decode cX11_needServer 18 = .ok (.invokespecial 361, 3) := by decide +kernel
theorem dX11_needServer_21 : decode cX11_needServer 21 = .ok (.athrow, 1) := by decide +kernel
theorem dX11_needServer_22 : decode cX11_needServer 22 = .ok (.return_, 1) := by decide +kernel
theorem dX11_needQuery_0 : decode cX11_needQuery 0 = .ok (.aload_n 0, 1) := by decide +kernel
theorem dX11_needQuery_1 : decode cX11_needQuery 1 = .ok (.getfield 81, 3) := by decide +kernel
theorem dX11_needQuery_4 : decode cX11_needQuery 4 = .ok (.invokevirtual 314, 3) := by decide +kernel
theorem dX11_needQuery_7 : decode cX11_needQuery 7 = .ok (.ifCond .ne 14, 3) := by decide +kernel
theorem dX11_needQuery_10 : decode cX11_needQuery 10 = .ok (.new 278, 3) := by decide +kernel
theorem dX11_needQuery_13 : decode cX11_needQuery 13 = .ok (.dup, 1) := by decide +kernel
theorem dX11_needQuery_14 : decode cX11_needQuery 14 = .ok (.ldc_w 318, 3) := by decide +kernel
theorem dX11_needQuery_17 : decode cX11_needQuery 17 = .ok (.invokespecial 282, 3) := by decide +kernel
theorem dX11_needQuery_20 : decode cX11_needQuery 20 = .ok (.athrow, 1) := by decide +kernel
theorem dX11_needQuery_21 : decode cX11_needQuery 21 = .ok (.return_, 1) := by decide +kernel
theorem dX11_isLife_0 : decode cX11_isLife 0 = .ok (.iload_n 0, 1) := by decide +kernel
theorem dX11_isLife_1 : decode cX11_isLife 1 = .ok (.iconst 1, 1) := by decide +kernel
theorem dX11_isLife_2 : decode cX11_isLife 2 = .ok (.if_icmp .lt 14, 3) := by decide +kernel
theorem dX11_isLife_5 : decode cX11_isLife 5 = .ok (.iload_n 0, 1) := by decide +kernel
theorem dX11_isLife_6 : decode cX11_isLife 6 = .ok (.ldc_w 269, 3) := by decide +kernel
theorem dX11_isLife_9 : decode cX11_isLife 9 = .ok (.if_icmp .gt 7, 3) := by decide +kernel
theorem dX11_isLife_12 : decode cX11_isLife 12 = .ok (.iconst 1, 1) := by decide +kernel
theorem dX11_isLife_13 : decode cX11_isLife 13 = .ok (.goto 4, 3) := by decide +kernel
theorem dX11_isLife_16 : decode cX11_isLife 16 = .ok (.iconst 0, 1) := by decide +kernel
theorem dX11_isLife_17 : decode cX11_isLife 17 = .ok (.ireturn, 1) := by decide +kernel
theorem dX11_isKept_0 : decode cX11_isKept 0 = .ok (.iload_n 0, 1) := by decide +kernel
theorem dX11_isKept_1 : decode cX11_isKept 1 = .ok (.iconst 1, 1) := by decide +kernel
theorem dX11_isKept_2 : decode cX11_isKept 2 = .ok (.if_icmp .eq 19, 3) := by decide +kernel
theorem dX11_isKept_5 : decode cX11_isKept 5 = .ok (.iload_n 0, 1) := by decide +kernel
theorem dX11_isKept_6 : decode cX11_isKept 6 = .ok (.iconst 2, 1) := by decide +kernel
theorem dX11_isKept_7 : decode cX11_isKept 7 = .ok (.if_icmp .eq 14, 3) := by decide +kernel
theorem dX11_isKept_10 : decode cX11_isKept 10 = .ok (.iload_n 0, 1) := by decide +kernel
theorem dX11_isKept_11 : decode cX11_isKept 11 = .ok (.iconst 5, 1) := by decide +kernel
theorem dX11_isKept_12 : decode cX11_isKept 12 = .ok (.if_icmp .eq 9, 3) := by decide +kernel
theorem dX11_isKept_15 : decode cX11_isKept 15 = .ok (.iload_n 0, 1) := by decide +kernel
theorem dX11_isKept_16 : decode cX11_isKept 16 = .ok (.bipush 16, 2) := by decide +kernel
theorem dX11_isKept_18 : decode cX11_isKept 18 = .ok (.if_icmp .ne 7, 3) := by decide +kernel
theorem dX11_isKept_21 : decode cX11_isKept 21 = .ok (.iconst 1, 1) := by decide +kernel
theorem dX11_isKept_22 : decode cX11_isKept 22 = .ok (.goto 4, 3) := by decide +kernel
theorem dX11_isKept_25 : decode cX11_isKept 25 = .ok (.iconst 0, 1) := by decide +kernel
theorem dX11_isKept_26 : decode cX11_isKept 26 = .ok (.ireturn, 1) := by decide +kernel
theorem dX11_isNamed_0 : decode cX11_isNamed 0 = .ok (.iload_n 0, 1) := by decide +kernel
theorem dX11_isNamed_1 : decode cX11_isNamed 1 = .ok (.iconst 2, 1) := by decide +kernel
theorem dX11_isNamed_2 : decode cX11_isNamed 2 = .ok (.if_icmp .eq 8, 3) := by decide +kernel
theorem dX11_isNamed_5 : decode cX11_isNamed 5 = .ok (.iload_n 0, 1) := by decide +kernel
theorem dX11_isNamed_6 : decode cX11_isNamed 6 = .ok (.iconst 5, 1) := by decide +kernel
theorem dX11_isNamed_7 : decode cX11_isNamed 7 = .ok (.if_icmp .ne 7, 3) := by decide +kernel
theorem dX11_isNamed_10 : decode cX11_isNamed 10 = .ok (.iconst 1, 1) := by decide +kernel
theorem dX11_isNamed_11 : decode cX11_isNamed 11 = .ok (.goto 4, 3) := by decide +kernel
theorem dX11_isNamed_14 : decode cX11_isNamed 14 = .ok (.iconst 0, 1) := by decide +kernel
theorem dX11_isNamed_15 : decode cX11_isNamed 15 = .ok (.ireturn, 1) := by decide +kernel
