theorem dX4_init_0 : decode cX4_init 0 = .ok (.aload_n 0, 1) := by decide +kernel
theorem dX4_init_1 : decode cX4_init 1 = .ok (.invokespecial 3, 3) := by decide +kernel
theorem dX4_init_4 : decode cX4_init 4 = .ok (.aload_n 0, 1) := by decide +kernel
theorem dX4_init_5 : decode cX4_init 5 = .ok (.aload_n 1, 1) := by decide +kernel
theorem dX4_init_6 : decode cX4_init 6 = .ok (.putfield 9, 3) := by decide +kernel
theorem dX4_init_9 : decode cX4_init 9 = .ok (.aload_n 0, 1) := by decide +kernel
theorem dX4_init_10 : decode cX4_init 10 = .ok (.new 15, 3) := by decide +kernel
theorem dX4_init_13 : decode cX4_init 13 = .ok (.dup, 1) := by decide +kernel
theorem dX4_init_14 : decode cX4_init 14 = .ok (.invokespecial 17, 3) := by decide +kernel
theorem dX4_init_17 : decode cX4_init 17 = .ok (.putfield 18, 3) := by decide +kernel
theorem dX4_init_20 : decode cX4_init 20 = .ok (.aload_n 0, 1) := by decide +kernel
theorem dX4_init_21 : decode cX4_init 21 = .ok (.new 22, 3) := by decide +kernel
theorem dX4_init_24 : decode cX4_init 24 = .ok (.dup, 1) := by decide +kernel
theorem dX4_init_25 : decode cX4_init 25 = .ok (.invokespecial 24, 3) := by decide +kernel
theorem dX4_init_28 : decode cX4_init 28 = .ok (.putfield 25, 3) := by decide +kernel
theorem dX4_init_31 : decode cX4_init 31 = .ok (.return_, 1) := by decide +kernel
theorem dX4_rows_0 : decode cX4_rows 0 = .ok (.aload_n 0, 1) := by decide +kernel
theorem dX4_rows_1 : decode cX4_rows 1 = .ok (.getfield 25, 3) := by decide +kernel
theorem dX4_rows_4 : decode cX4_rows 4 = .ok (.areturn, 1) := by decide +kernel
theorem dX4_flags_0 : decode cX4_flags 0 = .ok (.aload_n 0, 1) := by decide +kernel
theorem dX4_flags_1 : decode cX4_flags 1 = .ok (.getfield 29, 3) := by decide +kernel
theorem dX4_flags_4 : decode cX4_flags 4 = .ok (.ireturn, 1) := by decide +kernel
theorem dX4_isReplyTo_0 : decode cX4_isReplyTo 0 = .ok (.aload_n 0, 1) := by decide +kernel
theorem dX4_isReplyTo_1 : decode cX4_isReplyTo 1 = .ok (.getfield 33, 3) := by decide +kernel
theorem dX4_isReplyTo_4 : decode cX4_isReplyTo 4 = .ok (.iload_n 1, 1) := by decide +kernel
theorem dX4_isReplyTo_5 : decode cX4_isReplyTo 5 = .ok (.if_icmp .ne 41, 3) := by decide +kernel
theorem dX4_isReplyTo_8 : decode cX4_isReplyTo 8 = .ok (.aload_n 0, 1) := by decide +kernel
theorem dX4_isReplyTo_9 : decode cX4_isReplyTo 9 = .ok (.getfield 36, 3) := by decide +kernel
theorem dX4_isReplyTo_12 : decode cX4_isReplyTo 12 = .ok (.iload_n 2, 1) := by decide +kernel
theorem dX4_isReplyTo_13 : decode cX4_isReplyTo 13 = .ok (.if_icmp .ne 33, 3) := by decide +kernel
theorem dX4_isReplyTo_16 : decode cX4_isReplyTo 16 = .ok (.aload_n 0, 1) := by decide +kernel
theorem dX4_isReplyTo_17 : decode cX4_isReplyTo 17 = .ok (.getfield 39, 3) := by decide +kernel
theorem dX4_isReplyTo_20 : decode cX4_isReplyTo 20 = .ok (.iload_n 3, 1) := by decide +kernel
theorem dX4_isReplyTo_21 : decode cX4_isReplyTo 21 = .ok (.if_icmp .ne 25, 3) := by decide +kernel
theorem dX4_isReplyTo_24 : decode cX4_isReplyTo 24 = .ok (.aload_n 0, 1) := by decide +kernel
theorem dX4_isReplyTo_25 : decode cX4_isReplyTo 25 = .ok (.getfield 42, 3) := by decide +kernel
theorem dX4_isReplyTo_28 : decode cX4_isReplyTo 28 = .ok (.iconst 1, 1) := by decide +kernel
theorem dX4_isReplyTo_29 : decode cX4_isReplyTo 29 = .ok (.if_icmp .ne 17, 3) := by decide +kernel
theorem dX4_isReplyTo_32 : decode cX4_isReplyTo 32 = .ok (.aload_n 0, 1) := by decide +kernel
theorem dX4_isReplyTo_33 : decode cX4_isReplyTo 33 = .ok (.getfield 29, 3) := by decide +kernel
theorem dX4_isReplyTo_36 : decode cX4_isReplyTo 36 = .ok (.ldc 45, 2) := by decide +kernel
theorem dX4_isReplyTo_38 : decode cX4_isReplyTo 38 = .ok (.iand, 1) := by decide +kernel
theorem dX4_isReplyTo_39 : decode cX4_isReplyTo 39 = .ok (.ifCond .eq 7, 3) := by decide +kernel
theorem dX4_isReplyTo_42 : decode cX4_isReplyTo 42 = .ok (.iconst 1, 1) := by decide +kernel
theorem dX4_isReplyTo_43 : decode cX4_isReplyTo 43 = .ok (.goto 4, 3) := by decide +kernel
theorem dX4_isReplyTo_46 : decode cX4_isReplyTo 46 = .ok (.iconst 0, 1) := by decide +kernel
theorem dX4_isReplyTo_47 : decode cX4_isReplyTo 47 = .ok (.ireturn, 1) := by decide +kernel
theorem dX4_read_0 : decode cX4_read 0 = .ok (.aload_n 0, 1) := by decide +kernel
theorem dX4_read_1 : decode cX4_read 1 = .ok (.getfield 25, 3) := by decide +kernel
theorem dX4_read_4 : decode cX4_read 4 = .ok (.invokevirtual 46, 3) := by decide +kernel
theorem dX4_read_7 : decode cX4_read 7 = .ok (.aload_n 1, 1) := by decide +kernel
theorem dX4_read_8 : decode cX4_read 8 = .ok (.invokevirtual 49, 3) := by decide +kernel
theorem dX4_read_11 : decode cX4_read 11 = .ok (.bipush 12, 2) := by decide +kernel
theorem dX4_read_13 : decode cX4_read 13 = .ok (.if_icmp .lt 12, 3) := by decide +kernel
theorem dX4_read_16 : decode cX4_read 16 = .ok (.aload_n 1, 1) := by decide +kernel
theorem dX4_read_17 : decode cX4_read 17 = .ok (.iconst 4, 1) := by decide +kernel
theorem dX4_read_18 : decode cX4_read 18 = .ok (.invokevirtual 55, 3) := by decide +kernel
theorem dX4_read_21 : decode cX4_read 21 = .ok (.iconst 1, 1) := by decide +kernel
theorem dX4_read_22 : decode cX4_read 22 = .ok (.if_icmp .eq 5, 3) := by decide +kernel
theorem dX4_read_25 : decode cX4_read 25 = .ok (.iconst 1, 1) := by decide +kernel
theorem dX4_read_26 : decode cX4_read 26 = .ok (.ireturn, 1) := by decide +kernel
theorem dX4_read_27 : decode cX4_read 27 = .ok (.aload_n 0, 1) := by decide +kernel
theorem dX4_read_28 : decode cX4_read 28 = .ok (.aload_n 1, 1) := by decide +kernel
theorem dX4_read_29 : decode cX4_read 29 = .ok (.iconst 0, 1) := by decide +kernel
theorem dX4_read_30 : decode cX4_read 30 = .ok (.invokevirtual 55, 3) := by decide +kernel
theorem dX4_read_33 : decode cX4_read 33 = .ok (.putfield 33, 3) := by decide +kernel
theorem dX4_read_36 : decode cX4_read 36 = .ok (.aload_n 0, 1) := by decide +kernel
theorem dX4_read_37 : decode cX4_read 37 = .ok (.aload_n 1, 1) := by decide +kernel
theorem dX4_read_38 : decode cX4_read 38 = .ok (.iconst 2, 1) := by decide +kernel
theorem dX4_read_39 : decode cX4_read 39 = .ok (.invokevirtual 55, 3) := by decide +kernel
theorem dX4_read_42 : decode cX4_read 42 = .ok (.putfield 29, 3) := by decide +kernel
theorem dX4_read_45 : decode cX4_read 45 = .ok (.aload_n 0, 1) := by decide +kernel
theorem dX4_read_46 : decode cX4_read 46 = .ok (.bipush 12, 2) := by decide +kernel
theorem dX4_read_48 : decode cX4_read 48 = .ok (.putfield 59, 3) := by decide +kernel
theorem dX4_read_51 : decode cX4_read 51 = .ok (.aload_n 0, 1) := by decide +kernel
theorem dX4_read_52 : decode cX4_read 52 = .ok (.aload_n 1, 1) := by decide +kernel
theorem dX4_read_53 : decode cX4_read 53 = .ok (.invokevirtual 62, 3) := by decide +kernel
theorem dX4_read_56 : decode cX4_read 56 = .ok (.istore_n 2, 1) := by decide +kernel
theorem dX4_read_57 : decode cX4_read 57 = .ok (.iconst 0, 1) := by decide +kernel
theorem dX4_read_58 : decode cX4_read 58 = .ok (.istore_n 3, 1) := by decide +kernel
theorem dX4_read_59 : decode cX4_read 59 = .ok (.iload_n 3, 1) := by decide +kernel
theorem dX4_read_60 : decode cX4_read 60 = .ok (.iconst 3, 1) := by decide +kernel
theorem dX4_read_61 : decode cX4_read 61 = .ok (.if_icmp .ge 48, 3) := by decide +kernel
theorem dX4_read_64 : decode cX4_read 64 = .ok (.aload_n 1, 1) := by decide +kernel
theorem dX4_read_65 : decode cX4_read 65 = .ok (.bipush 6, 2) := by decide +kernel
theorem dX4_read_67 : decode cX4_read 67 = .ok (.iconst 2, 1) := by decide +kernel
theorem dX4_read_68 : decode cX4_read 68 = .ok (.iload_n 3, 1) := by decide +kernel
theorem dX4_read_69 : decode cX4_read 69 = .ok (.imul, 1) := by decide +kernel
theorem dX4_read_70 : decode cX4_read 70 = .ok (.iadd, 1) := by decide +kernel
theorem dX4_read_71 : decode cX4_read 71 = .ok (.invokevirtual 55, 3) := by decide +kernel
theorem dX4_read_74 : decode cX4_read 74 = .ok (.istore 4, 2) := by decide +kernel
theorem dX4_read_76 : decode cX4_read 76 = .ok (.iconst 0, 1) := by decide +kernel
theorem dX4_read_77 : decode cX4_read 77 = .ok (.istore 5, 2) := by decide +kernel
theorem dX4_read_79 : decode cX4_read 79 = .ok (.iload 5, 2) := by decide +kernel
theorem dX4_read_81 : decode cX4_read 81 = .ok (.iload 4, 2) := by decide +kernel
theorem dX4_read_83 : decode cX4_read 83 = .ok (.if_icmp .ge 20, 3) := by decide +kernel
theorem dX4_read_86 : decode cX4_read 86 = .ok (.iload_n 2, 1) := by decide +kernel
theorem dX4_read_87 : decode cX4_read 87 = .ok (.ifCond .ne 16, 3) := by decide +kernel
theorem dX4_read_90 : decode cX4_read 90 = .ok (.aload_n 0, 1) := by decide +kernel
theorem dX4_read_91 : decode cX4_read 91 = .ok (.aload_n 1, 1) := by decide +kernel
theorem dX4_read_92 : decode cX4_read 92 = .ok (.iload_n 3, 1) := by decide +kernel
theorem dX4_read_93 : decode cX4_read 93 = .ok (.invokevirtual 66, 3) := by decide +kernel
theorem dX4_read_96 : decode cX4_read 96 = .ok (.istore_n 2, 1) := by decide +kernel
theorem dX4_read_97 : decode cX4_read 97 = .ok (.iinc 5 1, 3) := by decide +kernel
theorem dX4_read_100 : decode cX4_read 100 = .ok (.goto (-21), 3) := by decide +kernel
theorem dX4_read_103 : decode cX4_read 103 = .ok (.iinc 3 1, 3) := by decide +kernel
theorem dX4_read_106 : decode cX4_read 106 = .ok (.goto (-47), 3) := by decide +kernel
theorem dX4_read_109 : decode cX4_read 109 = .ok (.iload_n 2, 1) := by decide +kernel
theorem dX4_read_110 : decode cX4_read 110 = .ok (.ifCond .ne 16, 3) := by decide +kernel
theorem dX4_read_113 : decode cX4_read 113 = .ok (.aload_n 0, 1) := by decide +kernel
theorem dX4_read_114 : decode cX4_read 114 = .ok (.getfield 59, 3) := by decide +kernel
theorem dX4_read_117 : decode cX4_read 117 = .ok (.aload_n 1, 1) := by decide +kernel
theorem dX4_read_118 : decode cX4_read 118 = .ok (.invokevirtual 49, 3) := by decide +kernel
theorem dX4_read_121 : decode cX4_read 121 = .ok (.if_icmp .ge 5, 3) := by decide +kernel
theorem dX4_read_124 : decode cX4_read 124 = .ok (.iconst 5, 1) := by decide +kernel
theorem dX4_read_125 : decode cX4_read 125 = .ok (.ireturn, 1) := by decide +kernel
theorem dX4_read_126 : decode cX4_read 126 = .ok (.iload_n 2, 1) := by decide +kernel
theorem dX4_read_127 : decode cX4_read 127 = .ok (.ireturn, 1) := by decide +kernel
theorem dX4_readQuestion_0 : decode cX4_readQuestion 0 = .ok (.aload_n 0, 1) := by decide +kernel
theorem dX4_readQuestion_1 : decode cX4_readQuestion 1 = .ok (.aload_n 1, 1) := by decide +kernel
theorem dX4_readQuestion_2 : decode cX4_readQuestion 2 = .ok (.invokevirtual 70, 3) := by decide +kernel
theorem dX4_readQuestion_5 : decode cX4_readQuestion 5 = .ok (.istore_n 2, 1) := by decide +kernel
theorem dX4_readQuestion_6 : decode cX4_readQuestion 6 = .ok (.iload_n 2, 1) := by decide +kernel
theorem dX4_readQuestion_7 : decode cX4_readQuestion 7 = .ok (.ifCond .eq 5, 3) := by decide +kernel
theorem dX4_readQuestion_10 : decode cX4_readQuestion 10 = .ok (.iload_n 2, 1) := by decide +kernel
theorem dX4_readQuestion_11 : decode cX4_readQuestion 11 = .ok (.ireturn, 1) := by decide +kernel
theorem dX4_readQuestion_12 : decode cX4_readQuestion 12 = .ok (.aload_n 0, 1) := by decide +kernel
theorem dX4_readQuestion_13 : decode cX4_readQuestion 13 = .ok (.getfield 59, 3) := by decide +kernel
theorem dX4_readQuestion_16 : decode cX4_readQuestion 16 = .ok (.iconst 4, 1) := by decide +kernel
theorem dX4_readQuestion_17 : decode cX4_readQuestion 17 = .ok (.iadd, 1) := by decide +kernel
theorem dX4_readQuestion_18 : decode cX4_readQuestion 18 = .ok (.aload_n 1, 1) := by decide +kernel
theorem dX4_readQuestion_19 : decode cX4_readQuestion 19 = .ok (.invokevirtual 49, 3) := by decide +kernel
theorem dX4_readQuestion_22 : decode cX4_readQuestion 22 = .ok (.if_icmp .le 5, 3) := by decide +kernel
theorem dX4_readQuestion_25 : decode cX4_readQuestion 25 = .ok (.iconst 3, 1) := by decide +kernel
theorem dX4_readQuestion_26 : decode cX4_readQuestion 26 = .ok (.ireturn, 1) := by decide +kernel
theorem dX4_readQuestion_27 : decode cX4_readQuestion 27 = .ok (.aload_n 0, 1) := by decide +kernel
theorem dX4_readQuestion_28 : decode cX4_readQuestion 28 = .ok (.aload_n 0, 1) := by decide +kernel
theorem dX4_readQuestion_29 : decode cX4_readQuestion 29 = .ok (.getfield 73, 3) := by decide +kernel
theorem dX4_readQuestion_32 : decode cX4_readQuestion 32 = .ok (.putfield 36, 3) := by decide +kernel
theorem dX4_readQuestion_35 : decode cX4_readQuestion 35 = .ok (.aload_n 0, 1) := by decide +kernel
theorem dX4_readQuestion_36 : decode cX4_readQuestion 36 = .ok (.aload_n 1, 1) := by decide +kernel
theorem dX4_readQuestion_37 : decode cX4_readQuestion 37 = .ok (.aload_n 0, 1) := by decide +kernel
theorem dX4_readQuestion_38 : decode cX4_readQuestion 38 = .ok (.getfield 59, 3) := by decide +kernel
theorem dX4_readQuestion_41 : decode cX4_readQuestion 41 = .ok (.invokevirtual 55, 3) := by decide +kernel
theorem dX4_readQuestion_44 : decode cX4_readQuestion 44 = .ok (.putfield 39, 3) := by decide +kernel
theorem dX4_readQuestion_47 : decode cX4_readQuestion 47 = .ok (.aload_n 0, 1) := by decide +kernel
theorem dX4_readQuestion_48 : decode cX4_readQuestion 48 = .ok (.aload_n 1, 1) := by decide +kernel
theorem dX4_readQuestion_49 : decode cX4_readQuestion 49 = .ok (.aload_n 0, 1) := by decide +kernel
theorem dX4_readQuestion_50 : decode cX4_readQuestion 50 = .ok (.getfield 59, 3) := by decide +kernel
theorem dX4_readQuestion_53 : decode cX4_readQuestion 53 = .ok (.iconst 2, 1) := by decide +kernel
theorem dX4_readQuestion_54 : decode cX4_readQuestion 54 = .ok (.iadd, 1) := by decide +kernel
theorem dX4_readQuestion_55 : decode cX4_readQuestion 55 = .ok (.invokevirtual 55, 3) := by decide +kernel
theorem dX4_readQuestion_58 : decode cX4_readQuestion 58 = .ok (.putfield 42, 3) := by decide +kernel
theorem dX4_readQuestion_61 : decode cX4_readQuestion 61 = .ok (.aload_n 0, 1) := by decide +kernel
theorem dX4_readQuestion_62 : decode cX4_readQuestion 62 = .ok (.dup, 1) := by decide +kernel
theorem dX4_readQuestion_63 : decode cX4_readQuestion 63 = .ok (.getfield 59, 3) := by decide +kernel
theorem dX4_readQuestion_66 : decode cX4_readQuestion 66 = .ok (.iconst 4, 1) := by decide +kernel
theorem dX4_readQuestion_67 : decode cX4_readQuestion 67 = .ok (.iadd, 1) := by decide +kernel
theorem dX4_readQuestion_68 : decode cX4_readQuestion 68 = .ok (.putfield 59, 3) := by decide +kernel
theorem dX4_readQuestion_71 : decode cX4_readQuestion 71 = .ok (.iconst 0, 1) := by decide +kernel
theorem dX4_readQuestion_72 : decode cX4_readQuestion 72 = .ok (.ireturn, 1) := by decide +kernel
theorem dX4_readRecord_0 : decode cX4_readRecord 0 = .ok (.aload_n 0, 1) := by decide +kernel
theorem dX4_readRecord_1 : decode cX4_readRecord 1 = .ok (.aload_n 1, 1) := by decide +kernel
theorem dX4_readRecord_2 : decode cX4_readRecord 2 = .ok (.invokevirtual 70, 3) := by decide +kernel
theorem dX4_readRecord_5 : decode cX4_readRecord 5 = .ok (.istore_n 3, 1) := by decide +kernel
theorem dX4_readRecord_6 : decode cX4_readRecord 6 = .ok (.iload_n 3, 1) := by decide +kernel
theorem dX4_readRecord_7 : decode cX4_readRecord 7 = .ok (.ifCond .eq 5, 3) := by decide +kernel
theorem dX4_readRecord_10 : decode cX4_readRecord 10 = .ok (.iload_n 3, 1) := by decide +kernel
theorem dX4_readRecord_11 : decode cX4_readRecord 11 = .ok (.ireturn, 1) := by decide +kernel
theorem dX4_readRecord_12 : decode cX4_readRecord 12 = .ok (.aload_n 0, 1) := by decide +kernel
theorem dX4_readRecord_13 : decode cX4_readRecord 13 = .ok (.getfield 73, 3) := by decide +kernel
theorem dX4_readRecord_16 : decode cX4_readRecord 16 = .ok (.istore 4, 2) := by decide +kernel
theorem dX4_readRecord_18 : decode cX4_readRecord 18 = .ok (.aload_n 0, 1) := by decide +kernel
theorem dX4_readRecord_19 : decode cX4_readRecord 19 = .ok (.getfield 59, 3) := by decide +kernel
theorem dX4_readRecord_22 : decode cX4_readRecord 22 = .ok (.istore 5, 2) := by decide +kernel
theorem dX4_readRecord_24 : decode cX4_readRecord 24 = .ok (.iload 5, 2) := by decide +kernel
theorem dX4_readRecord_26 : decode cX4_readRecord 26 = .ok (.bipush 10, 2) := by decide +kernel
theorem dX4_readRecord_28 : decode cX4_readRecord 28 = .ok (.iadd, 1) := by decide +kernel
theorem dX4_readRecord_29 : decode cX4_readRecord 29 = .ok (.istore 6, 2) := by decide +kernel
theorem dX4_readRecord_31 : decode cX4_readRecord 31 = .ok (.iload 6, 2) := by decide +kernel
theorem dX4_readRecord_33 : decode cX4_readRecord 33 = .ok (.aload_n 1, 1) := by decide +kernel
theorem dX4_readRecord_34 : decode cX4_readRecord 34 = .ok (.invokevirtual 49, 3) := by decide +kernel
theorem dX4_readRecord_37 : decode cX4_readRecord 37 = .ok (.if_icmp .le 5, 3) := by decide +kernel
theorem dX4_readRecord_40 : decode cX4_readRecord 40 = .ok (.iconst 3, 1) := by decide +kernel
theorem dX4_readRecord_41 : decode cX4_readRecord 41 = .ok (.ireturn, 1) := by decide +kernel
theorem dX4_readRecord_42 : decode cX4_readRecord 42 = .ok (.aload_n 1, 1) := by decide +kernel
theorem dX4_readRecord_43 : decode cX4_readRecord 43 = .ok (.iload 5, 2) := by decide +kernel
theorem dX4_readRecord_45 : decode cX4_readRecord 45 = .ok (.invokevirtual 55, 3) := by decide +kernel
theorem dX4_readRecord_48 : decode cX4_readRecord 48 = .ok (.istore 7, 2) := by decide +kernel
theorem dX4_readRecord_50 : decode cX4_readRecord 50 = .ok (.iload 6, 2) := by decide +kernel
theorem dX4_readRecord_52 : decode cX4_readRecord 52 = .ok (.aload_n 1, 1) := by decide +kernel
theorem dX4_readRecord_53 : decode cX4_readRecord 53 = .ok (.iload 5, 2) := by decide +kernel
theorem dX4_readRecord_55 : decode cX4_readRecord 55 = .ok (.bipush 8, 2) := by decide +kernel
theorem dX4_readRecord_57 : decode cX4_readRecord 57 = .ok (.iadd, 1) := by decide +kernel
theorem dX4_readRecord_58 : decode cX4_readRecord 58 = .ok (.invokevirtual 55, 3) := by decide +kernel
theorem dX4_readRecord_61 : decode cX4_readRecord 61 = .ok (.iadd, 1) := by decide +kernel
theorem dX4_readRecord_62 : decode cX4_readRecord 62 = .ok (.istore 8, 2) := by decide +kernel
theorem dX4_readRecord_64 : decode cX4_readRecord 64 = .ok (.iload 8, 2) := by decide +kernel
theorem dX4_readRecord_66 : decode cX4_readRecord 66 = .ok (.aload_n 1, 1) := by decide +kernel
theorem dX4_readRecord_67 : decode cX4_readRecord 67 = .ok (.invokevirtual 49, 3) := by decide +kernel
theorem dX4_readRecord_70 : decode cX4_readRecord 70 = .ok (.if_icmp .le 5, 3) := by decide +kernel
theorem dX4_readRecord_73 : decode cX4_readRecord 73 = .ok (.iconst 3, 1) := by decide +kernel
theorem dX4_readRecord_74 : decode cX4_readRecord 74 = .ok (.ireturn, 1) := by decide +kernel
theorem dX4_readRecord_75 : decode cX4_readRecord 75 = .ok (.iload 7, 2) := by decide +kernel
theorem dX4_readRecord_77 : decode cX4_readRecord 77 = .ok (.invokestatic 76, 3) := by decide +kernel
theorem dX4_readRecord_80 : decode cX4_readRecord 80 = .ok (.ifCond .eq 15, 3) := by decide +kernel
theorem dX4_readRecord_83 : decode cX4_readRecord 83 = .ok (.aload_n 0, 1) := by decide +kernel
theorem dX4_readRecord_84 : decode cX4_readRecord 84 = .ok (.aload_n 1, 1) := by decide +kernel
theorem dX4_readRecord_85 : decode cX4_readRecord 85 = .ok (.iload 6, 2) := by decide +kernel
theorem dX4_readRecord_87 : decode cX4_readRecord 87 = .ok (.iload 8, 2) := by decide +kernel
theorem dX4_readRecord_89 : decode cX4_readRecord 89 = .ok (.invokevirtual 80, 3) := by decide +kernel
theorem dX4_readRecord_92 : decode cX4_readRecord 92 = .ok (.goto 14, 3) := by decide +kernel
theorem dX4_readRecord_95 : decode cX4_readRecord 95 = .ok (.aload_n 0, 1) := by decide +kernel
theorem dX4_readRecord_96 : decode cX4_readRecord 96 = .ok (.aload_n 1, 1) := by decide +kernel
theorem dX4_readRecord_97 : decode cX4_readRecord 97 = .ok (.iload 7, 2) := by decide +kernel
theorem dX4_readRecord_99 : decode cX4_readRecord 99 = .ok (.iload 6, 2) := by decide +kernel
theorem dX4_readRecord_101 : decode cX4_readRecord 101 = .ok (.iload 8, 2) := by decide +kernel
theorem dX4_readRecord_103 : decode cX4_readRecord 103 = .ok (.invokevirtual 84, 3) := by decide +kernel
theorem dX4_readRecord_106 : decode cX4_readRecord 106 = .ok (.istore_n 3, 1) := by decide +kernel
theorem dX4_readRecord_107 : decode cX4_readRecord 107 = .ok (.iload_n 3, 1) := by decide +kernel
theorem dX4_readRecord_108 : decode cX4_readRecord 108 = .ok (.ifCond .eq 5, 3) := by decide +kernel
theorem dX4_readRecord_111 : decode cX4_readRecord 111 = .ok (.iload_n 3, 1) := by decide +kernel
theorem dX4_readRecord_112 : decode cX4_readRecord 112 = .ok (.ireturn, 1) := by decide +kernel
theorem dX4_readRecord_113 : decode cX4_readRecord 113 = .ok (.aload_n 0, 1) := by decide +kernel
theorem dX4_readRecord_114 : decode cX4_readRecord 114 = .ok (.iload 8, 2) := by decide +kernel
theorem dX4_readRecord_116 : decode cX4_readRecord 116 = .ok (.putfield 59, 3) := by decide +kernel
theorem dX4_readRecord_119 : decode cX4_readRecord 119 = .ok (.aload_n 1, 1) := by decide +kernel
theorem dX4_readRecord_120 : decode cX4_readRecord 120 = .ok (.iload 5, 2) := by decide +kernel
theorem dX4_readRecord_122 : decode cX4_readRecord 122 = .ok (.iconst 2, 1) := by decide +kernel
theorem dX4_readRecord_123 : decode cX4_readRecord 123 = .ok (.iadd, 1) := by decide +kernel
theorem dX4_readRecord_124 : decode cX4_readRecord 124 = .ok (.invokevirtual 55, 3) := by decide +kernel
theorem dX4_readRecord_127 : decode cX4_readRecord 127 = .ok (.iconst 1, 1) := by decide +kernel
theorem dX4_readRecord_128 : decode cX4_readRecord 128 = .ok (.if_icmp .ne 42, 3) := by decide +kernel
theorem dX4_readRecord_131 : decode cX4_readRecord 131 = .ok (.iload 7, 2) := by decide +kernel
theorem dX4_readRecord_133 : decode cX4_readRecord 133 = .ok (.invokestatic 88, 3) := by decide +kernel
theorem dX4_readRecord_136 : decode cX4_readRecord 136 = .ok (.ifCond .ne 10, 3) := by decide +kernel
theorem dX4_readRecord_139 : decode cX4_readRecord 139 = .ok (.iload 7, 2) := by decide +kernel
theorem dX4_readRecord_141 : decode cX4_readRecord 141 = .ok (.bipush 6, 2) := by decide +kernel
theorem dX4_readRecord_143 : decode cX4_readRecord 143 = .ok (.if_icmp .ne 27, 3) := by decide +kernel
theorem dX4_readRecord_146 : decode cX4_readRecord 146 = .ok (.aload_n 0, 1) := by decide +kernel
theorem dX4_readRecord_147 : decode cX4_readRecord 147 = .ok (.getfield 25, 3) := by decide +kernel
theorem dX4_readRecord_150 : decode cX4_readRecord 150 = .ok (.iload_n 2, 1) := by decide +kernel
theorem dX4_readRecord_151 : decode cX4_readRecord 151 = .ok (.iload 4, 2) := by decide +kernel
theorem dX4_readRecord_153 : decode cX4_readRecord 153 = .ok (.iload 7, 2) := by decide +kernel
theorem dX4_readRecord_155 : decode cX4_readRecord 155 = .ok (.aload_n 0, 1) := by decide +kernel
theorem dX4_readRecord_156 : decode cX4_readRecord 156 = .ok (.getfield 73, 3) := by decide +kernel
theorem dX4_readRecord_159 : decode cX4_readRecord 159 = .ok (.aload_n 1, 1) := by decide +kernel
theorem dX4_readRecord_160 : decode cX4_readRecord 160 = .ok (.iload 5, 2) := by decide +kernel
theorem dX4_readRecord_162 : decode cX4_readRecord 162 = .ok (.iconst 4, 1) := by decide +kernel
theorem dX4_readRecord_163 : decode cX4_readRecord 163 = .ok (.iadd, 1) := by decide +kernel
theorem dX4_readRecord_164 : decode cX4_readRecord 164 = .ok (.invokevirtual 91, 3) := by decide +kernel
theorem dX4_readRecord_167 : decode cX4_readRecord 167 = .ok (.invokevirtual 94, 3) := by decide +kernel
theorem dX4_readRecord_170 : decode cX4_readRecord 170 = .ok (.iconst 0, 1) := by decide +kernel
theorem dX4_readRecord_171 : decode cX4_readRecord 171 = .ok (.ireturn, 1) := by decide +kernel
theorem dX4_readData_0 : decode cX4_readData 0 = .ok (.iload 4, 2) := by decide +kernel
theorem dX4_readData_2 : decode cX4_readData 2 = .ok (.iload_n 3, 1) := by decide +kernel
theorem dX4_readData_3 : decode cX4_readData 3 = .ok (.isub, 1) := by decide +kernel
theorem dX4_readData_4 : decode cX4_readData 4 = .ok (.istore 5, 2) := by decide +kernel
theorem dX4_readData_6 : decode cX4_readData 6 = .ok (.iload_n 2, 1) := by decide +kernel
theorem dX4_readData_7 : decode cX4_readData 7 = .ok (.lookupswitch 119 #[(1, 33), (6, 86), (16, 54)], 33) := by decide +kernel
theorem dX4_readData_40 : decode cX4_readData 40 = .ok (.aload_n 0, 1) := by decide +kernel
theorem dX4_readData_41 : decode cX4_readData 41 = .ok (.aload_n 1, 1) := by decide +kernel
theorem dX4_readData_42 : decode cX4_readData 42 = .ok (.iload_n 3, 1) := by decide +kernel
theorem dX4_readData_43 : decode cX4_readData 43 = .ok (.invokevirtual 91, 3) := by decide +kernel
theorem dX4_readData_46 : decode cX4_readData 46 = .ok (.putfield 73, 3) := by decide +kernel
theorem dX4_readData_49 : decode cX4_readData 49 = .ok (.iload 5, 2) := by decide +kernel
theorem dX4_readData_51 : decode cX4_readData 51 = .ok (.iconst 4, 1) := by decide +kernel
theorem dX4_readData_52 : decode cX4_readData 52 = .ok (.if_icmp .ne 7, 3) := by decide +kernel
theorem dX4_readData_55 : decode cX4_readData 55 = .ok (.iconst 0, 1) := by decide +kernel
theorem dX4_readData_56 : decode cX4_readData 56 = .ok (.goto 4, 3) := by decide +kernel
theorem dX4_readData_59 : decode cX4_readData 59 = .ok (.iconst 4, 1) := by decide +kernel
theorem dX4_readData_60 : decode cX4_readData 60 = .ok (.ireturn, 1) := by decide +kernel
theorem dX4_readData_61 : decode cX4_readData 61 = .ok (.aload_n 0, 1) := by decide +kernel
theorem dX4_readData_62 : decode cX4_readData 62 = .ok (.aload_n 1, 1) := by decide +kernel
theorem dX4_readData_63 : decode cX4_readData 63 = .ok (.iload_n 3, 1) := by decide +kernel
theorem dX4_readData_64 : decode cX4_readData 64 = .ok (.iconst 1, 1) := by decide +kernel
theorem dX4_readData_65 : decode cX4_readData 65 = .ok (.iadd, 1) := by decide +kernel
theorem dX4_readData_66 : decode cX4_readData 66 = .ok (.invokevirtual 91, 3) := by decide +kernel
theorem dX4_readData_69 : decode cX4_readData 69 = .ok (.putfield 73, 3) := by decide +kernel
theorem dX4_readData_72 : decode cX4_readData 72 = .ok (.iload 5, 2) := by decide +kernel
theorem dX4_readData_74 : decode cX4_readData 74 = .ok (.iconst 5, 1) := by decide +kernel
theorem dX4_readData_75 : decode cX4_readData 75 = .ok (.if_icmp .ne 16, 3) := by decide +kernel
theorem dX4_readData_78 : decode cX4_readData 78 = .ok (.aload_n 1, 1) := by decide +kernel
theorem dX4_readData_79 : decode cX4_readData 79 = .ok (.iload_n 3, 1) := by decide +kernel
theorem dX4_readData_80 : decode cX4_readData 80 = .ok (.invokevirtual 98, 3) := by decide +kernel
theorem dX4_readData_83 : decode cX4_readData 83 = .ok (.iconst 4, 1) := by decide +kernel
theorem dX4_readData_84 : decode cX4_readData 84 = .ok (.if_icmp .ne 7, 3) := by decide +kernel
theorem dX4_readData_87 : decode cX4_readData 87 = .ok (.iconst 0, 1) := by decide +kernel
theorem dX4_readData_88 : decode cX4_readData 88 = .ok (.goto 4, 3) := by decide +kernel
theorem dX4_readData_91 : decode cX4_readData 91 = .ok (.iconst 4, 1) := by decide +kernel
theorem dX4_readData_92 : decode cX4_readData 92 = .ok (.ireturn, 1) := by decide +kernel
theorem dX4_readData_93 : decode cX4_readData 93 = .ok (.aload_n 0, 1) := by decide +kernel
theorem dX4_readData_94 : decode cX4_readData 94 = .ok (.aload_n 1, 1) := by decide +kernel
theorem dX4_readData_95 : decode cX4_readData 95 = .ok (.iload 4, 2) := by decide +kernel
theorem dX4_readData_97 : decode cX4_readData 97 = .ok (.iconst 4, 1) := by decide +kernel
theorem dX4_readData_98 : decode cX4_readData 98 = .ok (.isub, 1) := by decide +kernel
theorem dX4_readData_99 : decode cX4_readData 99 = .ok (.invokevirtual 91, 3) := by decide +kernel
theorem dX4_readData_102 : decode cX4_readData 102 = .ok (.putfield 73, 3) := by decide +kernel
theorem dX4_readData_105 : decode cX4_readData 105 = .ok (.iload 5, 2) := by decide +kernel
theorem dX4_readData_107 : decode cX4_readData 107 = .ok (.bipush 22, 2) := by decide +kernel
theorem dX4_readData_109 : decode cX4_readData 109 = .ok (.if_icmp .ne 15, 3) := by decide +kernel
theorem dX4_readData_112 : decode cX4_readData 112 = .ok (.aload_n 1, 1) := by decide +kernel
theorem dX4_readData_113 : decode cX4_readData 113 = .ok (.iload_n 3, 1) := by decide +kernel
theorem dX4_readData_114 : decode cX4_readData 114 = .ok (.invokevirtual 55, 3) := by decide +kernel
theorem dX4_readData_117 : decode cX4_readData 117 = .ok (.ifCond .ne 7, 3) := by decide +kernel
theorem dX4_readData_120 : decode cX4_readData 120 = .ok (.iconst 0, 1) := by decide +kernel
theorem dX4_readData_121 : decode cX4_readData 121 = .ok (.goto 4, 3) := by decide +kernel
theorem dX4_readData_124 : decode cX4_readData 124 = .ok (.iconst 4, 1) := by decide +kernel
theorem dX4_readData_125 : decode cX4_readData 125 = .ok (.ireturn, 1) := by decide +kernel
theorem dX4_readData_126 : decode cX4_readData 126 = .ok (.iconst 0, 1) := by decide +kernel
theorem dX4_readData_127 : decode cX4_readData 127 = .ok (.ireturn, 1) := by decide +kernel
theorem dX4_readDataName_0 : decode cX4_readDataName 0 = .ok (.aload_n 0, 1) := by decide +kernel
theorem dX4_readDataName_1 : decode cX4_readDataName 1 = .ok (.iload_n 2, 1) := by decide +kernel
theorem dX4_readDataName_2 : decode cX4_readDataName 2 = .ok (.putfield 59, 3) := by decide +kernel
theorem dX4_readDataName_5 : decode cX4_readDataName 5 = .ok (.aload_n 0, 1) := by decide +kernel
theorem dX4_readDataName_6 : decode cX4_readDataName 6 = .ok (.aload_n 1, 1) := by decide +kernel
theorem dX4_readDataName_7 : decode cX4_readDataName 7 = .ok (.invokevirtual 70, 3) := by decide +kernel
theorem dX4_readDataName_10 : decode cX4_readDataName 10 = .ok (.istore 4, 2) := by decide +kernel
theorem dX4_readDataName_12 : decode cX4_readDataName 12 = .ok (.iload 4, 2) := by decide +kernel
theorem dX4_readDataName_14 : decode cX4_readDataName 14 = .ok (.bipush 6, 2) := by decide +kernel
theorem dX4_readDataName_16 : decode cX4_readDataName 16 = .ok (.if_icmp .ne 6, 3) := by decide +kernel
theorem dX4_readDataName_19 : decode cX4_readDataName 19 = .ok (.iload 4, 2) := by decide +kernel
theorem dX4_readDataName_21 : decode cX4_readDataName 21 = .ok (.ireturn, 1) := by decide +kernel
theorem dX4_readDataName_22 : decode cX4_readDataName 22 = .ok (.iload 4, 2) := by decide +kernel
theorem dX4_readDataName_24 : decode cX4_readDataName 24 = .ok (.ifCond .ne 15, 3) := by decide +kernel
theorem dX4_readDataName_27 : decode cX4_readDataName 27 = .ok (.aload_n 0, 1) := by decide +kernel
theorem dX4_readDataName_28 : decode cX4_readDataName 28 = .ok (.getfield 59, 3) := by decide +kernel
theorem dX4_readDataName_31 : decode cX4_readDataName 31 = .ok (.iload_n 3, 1) := by decide +kernel
theorem dX4_readDataName_32 : decode cX4_readDataName 32 = .ok (.if_icmp .ne 7, 3) := by decide +kernel
theorem dX4_readDataName_35 : decode cX4_readDataName 35 = .ok (.iconst 0, 1) := by decide +kernel
theorem dX4_readDataName_36 : decode cX4_readDataName 36 = .ok (.goto 4, 3) := by decide +kernel
theorem dX4_readDataName_39 : decode cX4_readDataName 39 = .ok (.iconst 4, 1) := by decide +kernel
theorem dX4_readDataName_40 : decode cX4_readDataName 40 = .ok (.ireturn, 1) := by decide +kernel
theorem dX4_readName_0 : decode cX4_readName 0 = .ok (.aload_n 0, 1) := by decide +kernel
theorem dX4_readName_1 : decode cX4_readName 1 = .ok (.getfield 18, 3) := by decide +kernel
theorem dX4_readName_4 : decode cX4_readName 4 = .ok (.invokevirtual 100, 3) := by decide +kernel
theorem dX4_readName_7 : decode cX4_readName 7 = .ok (.aload_n 0, 1) := by decide +kernel
theorem dX4_readName_8 : decode cX4_readName 8 = .ok (.getfield 59, 3) := by decide +kernel
theorem dX4_readName_11 : decode cX4_readName 11 = .ok (.istore_n 2, 1) := by decide +kernel
theorem dX4_readName_12 : decode cX4_readName 12 = .ok (.aload_n 0, 1) := by decide +kernel
theorem dX4_readName_13 : decode cX4_readName 13 = .ok (.getfield 59, 3) := by decide +kernel
theorem dX4_readName_16 : decode cX4_readName 16 = .ok (.istore_n 3, 1) := by decide +kernel
theorem dX4_readName_17 : decode cX4_readName 17 = .ok (.iconst (-1), 1) := by decide +kernel
theorem dX4_readName_18 : decode cX4_readName 18 = .ok (.istore 4, 2) := by decide +kernel
theorem dX4_readName_20 : decode cX4_readName 20 = .ok (.iconst 0, 1) := by decide +kernel
theorem dX4_readName_21 : decode cX4_readName 21 = .ok (.istore 5, 2) := by decide +kernel
theorem dX4_readName_23 : decode cX4_readName 23 = .ok (.iload 5, 2) := by decide +kernel
theorem dX4_readName_25 : decode cX4_readName 25 = .ok (.sipush 1012, 3) := by decide +kernel
theorem dX4_readName_28 : decode cX4_readName 28 = .ok (.if_icmp .ge 173, 3) := by decide +kernel
theorem dX4_readName_31 : decode cX4_readName 31 = .ok (.aload_n 1, 1) := by decide +kernel
theorem dX4_readName_32 : decode cX4_readName 32 = .ok (.iload_n 3, 1) := by decide +kernel
theorem dX4_readName_33 : decode cX4_readName 33 = .ok (.invokevirtual 98, 3) := by decide +kernel
theorem dX4_readName_36 : decode cX4_readName 36 = .ok (.istore 6, 2) := by decide +kernel
theorem dX4_readName_38 : decode cX4_readName 38 = .ok (.iload 6, 2) := by decide +kernel
theorem dX4_readName_40 : decode cX4_readName 40 = .ok (.iconst (-1), 1) := by decide +kernel
theorem dX4_readName_41 : decode cX4_readName 41 = .ok (.if_icmp .ne 5, 3) := by decide +kernel
theorem dX4_readName_44 : decode cX4_readName 44 = .ok (.iconst 3, 1) := by decide +kernel
theorem dX4_readName_45 : decode cX4_readName 45 = .ok (.ireturn, 1) := by decide +kernel
theorem dX4_readName_46 : decode cX4_readName 46 = .ok (.iload 6, 2) := by decide +kernel
theorem dX4_readName_48 : decode cX4_readName 48 = .ok (.ifCond .ne 51, 3) := by decide +kernel
theorem dX4_readName_51 : decode cX4_readName 51 = .ok (.aload_n 0, 1) := by decide +kernel
theorem dX4_readName_52 : decode cX4_readName 52 = .ok (.iload 4, 2) := by decide +kernel
theorem dX4_readName_54 : decode cX4_readName 54 = .ok (.iconst (-1), 1) := by decide +kernel
theorem dX4_readName_55 : decode cX4_readName 55 = .ok (.if_icmp .ne 9, 3) := by decide +kernel
theorem dX4_readName_58 : decode cX4_readName 58 = .ok (.iload_n 3, 1) := by decide +kernel
theorem dX4_readName_59 : decode cX4_readName 59 = .ok (.iconst 1, 1) := by decide +kernel
theorem dX4_readName_60 : decode cX4_readName 60 = .ok (.iadd, 1) := by decide +kernel
theorem dX4_readName_61 : decode cX4_readName 61 = .ok (.goto 5, 3) := by decide +kernel
theorem dX4_readName_64 : decode cX4_readName 64 = .ok (.iload 4, 2) := by decide +kernel
theorem dX4_readName_66 : decode cX4_readName 66 = .ok (.putfield 59, 3) := by decide +kernel
theorem dX4_readName_69 : decode cX4_readName 69 = .ok (.aload_n 0, 1) := by decide +kernel
theorem dX4_readName_70 : decode cX4_readName 70 = .ok (.aload_n 0, 1) := by decide +kernel
theorem dX4_readName_71 : decode cX4_readName 71 = .ok (.getfield 9, 3) := by decide +kernel
theorem dX4_readName_74 : decode cX4_readName 74 = .ok (.aload_n 0, 1) := by decide +kernel
theorem dX4_readName_75 : decode cX4_readName 75 = .ok (.getfield 18, 3) := by decide +kernel
theorem dX4_readName_78 : decode cX4_readName 78 = .ok (.invokevirtual 101, 3) := by decide +kernel
theorem dX4_readName_81 : decode cX4_readName 81 = .ok (.putfield 73, 3) := by decide +kernel
theorem dX4_readName_84 : decode cX4_readName 84 = .ok (.aload_n 0, 1) := by decide +kernel
theorem dX4_readName_85 : decode cX4_readName 85 = .ok (.getfield 73, 3) := by decide +kernel
theorem dX4_readName_88 : decode cX4_readName 88 = .ok (.iconst (-1), 1) := by decide +kernel
theorem dX4_readName_89 : decode cX4_readName 89 = .ok (.if_icmp .ne 8, 3) := by decide +kernel
theorem dX4_readName_92 : decode cX4_readName 92 = .ok (.bipush 6, 2) := by decide +kernel
theorem dX4_readName_94 : decode cX4_readName 94 = .ok (.goto 4, 3) := by decide +kernel
theorem dX4_readName_97 : decode cX4_readName 97 = .ok (.iconst 0, 1) := by decide +kernel
theorem dX4_readName_98 : decode cX4_readName 98 = .ok (.ireturn, 1) := by decide +kernel
theorem dX4_readName_99 : decode cX4_readName 99 = .ok (.iload 6, 2) := by decide +kernel
theorem dX4_readName_101 : decode cX4_readName 101 = .ok (.sipush 192, 3) := by decide +kernel
theorem dX4_readName_104 : decode cX4_readName 104 = .ok (.if_icmp .ge 31, 3) := by decide +kernel
theorem dX4_readName_107 : decode cX4_readName 107 = .ok (.aload_n 0, 1) := by decide +kernel
theorem dX4_readName_108 : decode cX4_readName 108 = .ok (.aload_n 1, 1) := by decide +kernel
theorem dX4_readName_109 : decode cX4_readName 109 = .ok (.iload_n 3, 1) := by decide +kernel
theorem dX4_readName_110 : decode cX4_readName 110 = .ok (.iload 6, 2) := by decide +kernel
theorem dX4_readName_112 : decode cX4_readName 112 = .ok (.invokevirtual 107, 3) := by decide +kernel
theorem dX4_readName_115 : decode cX4_readName 115 = .ok (.istore 7, 2) := by decide +kernel
theorem dX4_readName_117 : decode cX4_readName 117 = .ok (.iload 7, 2) := by decide +kernel
theorem dX4_readName_119 : decode cX4_readName 119 = .ok (.ifCond .eq 6, 3) := by decide +kernel
theorem dX4_readName_122 : decode cX4_readName 122 = .ok (.iload 7, 2) := by decide +kernel
theorem dX4_readName_124 : decode cX4_readName 124 = .ok (.ireturn, 1) := by decide +kernel
theorem dX4_readName_125 : decode cX4_readName 125 = .ok (.iload_n 3, 1) := by decide +kernel
theorem dX4_readName_126 : decode cX4_readName 126 = .ok (.iload 6, 2) := by decide +kernel
theorem dX4_readName_128 : decode cX4_readName 128 = .ok (.iconst 1, 1) := by decide +kernel
theorem dX4_readName_129 : decode cX4_readName 129 = .ok (.iadd, 1) := by decide +kernel
theorem dX4_readName_130 : decode cX4_readName 130 = .ok (.iadd, 1) := by decide +kernel
theorem dX4_readName_131 : decode cX4_readName 131 = .ok (.istore_n 3, 1) := by decide +kernel
theorem dX4_readName_132 : decode cX4_readName 132 = .ok (.goto 63, 3) := by decide +kernel
theorem dX4_readName_135 : decode cX4_readName 135 = .ok (.aload_n 1, 1) := by decide +kernel
theorem dX4_readName_136 : decode cX4_readName 136 = .ok (.iload_n 3, 1) := by decide +kernel
theorem dX4_readName_137 : decode cX4_readName 137 = .ok (.iconst 1, 1) := by decide +kernel
theorem dX4_readName_138 : decode cX4_readName 138 = .ok (.iadd, 1) := by decide +kernel
theorem dX4_readName_139 : decode cX4_readName 139 = .ok (.invokevirtual 98, 3) := by decide +kernel
theorem dX4_readName_142 : decode cX4_readName 142 = .ok (.istore 7, 2) := by decide +kernel
theorem dX4_readName_144 : decode cX4_readName 144 = .ok (.iload 7, 2) := by decide +kernel
theorem dX4_readName_146 : decode cX4_readName 146 = .ok (.iconst (-1), 1) := by decide +kernel
theorem dX4_readName_147 : decode cX4_readName 147 = .ok (.if_icmp .ne 5, 3) := by decide +kernel
theorem dX4_readName_150 : decode cX4_readName 150 = .ok (.iconst 3, 1) := by decide +kernel
theorem dX4_readName_151 : decode cX4_readName 151 = .ok (.ireturn, 1) := by decide +kernel
theorem dX4_readName_152 : decode cX4_readName 152 = .ok (.iload 6, 2) := by decide +kernel
theorem dX4_readName_154 : decode cX4_readName 154 = .ok (.bipush 63, 2) := by decide +kernel
theorem dX4_readName_156 : decode cX4_readName 156 = .ok (.iand, 1) := by decide +kernel
theorem dX4_readName_157 : decode cX4_readName 157 = .ok (.bipush 8, 2) := by decide +kernel
theorem dX4_readName_159 : decode cX4_readName 159 = .ok (.ishl, 1) := by decide +kernel
theorem dX4_readName_160 : decode cX4_readName 160 = .ok (.iload 7, 2) := by decide +kernel
theorem dX4_readName_162 : decode cX4_readName 162 = .ok (.iadd, 1) := by decide +kernel
theorem dX4_readName_163 : decode cX4_readName 163 = .ok (.istore 8, 2) := by decide +kernel
theorem dX4_readName_165 : decode cX4_readName 165 = .ok (.iload 8, 2) := by decide +kernel
theorem dX4_readName_167 : decode cX4_readName 167 = .ok (.iload_n 2, 1) := by decide +kernel
theorem dX4_readName_168 : decode cX4_readName 168 = .ok (.if_icmp .lt 5, 3) := by decide +kernel
theorem dX4_readName_171 : decode cX4_readName 171 = .ok (.iconst 2, 1) := by decide +kernel
theorem dX4_readName_172 : decode cX4_readName 172 = .ok (.ireturn, 1) := by decide +kernel
theorem dX4_readName_173 : decode cX4_readName 173 = .ok (.iload 4, 2) := by decide +kernel
theorem dX4_readName_175 : decode cX4_readName 175 = .ok (.iconst (-1), 1) := by decide +kernel
theorem dX4_readName_176 : decode cX4_readName 176 = .ok (.if_icmp .ne 9, 3) := by decide +kernel
theorem dX4_readName_179 : decode cX4_readName 179 = .ok (.iload_n 3, 1) := by decide +kernel
theorem dX4_readName_180 : decode cX4_readName 180 = .ok (.iconst 2, 1) := by decide +kernel
theorem dX4_readName_181 : decode cX4_readName 181 = .ok (.iadd, 1) := by decide +kernel
theorem dX4_readName_182 : decode cX4_readName 182 = .ok (.goto 5, 3) := by decide +kernel
theorem dX4_readName_185 : decode cX4_readName 185 = .ok (.iload 4, 2) := by decide +kernel
theorem dX4_readName_187 : decode cX4_readName 187 = .ok (.istore 4, 2) := by decide +kernel
theorem dX4_readName_189 : decode cX4_readName 189 = .ok (.iload 8, 2) := by decide +kernel
theorem dX4_readName_191 : decode cX4_readName 191 = .ok (.istore_n 2, 1) := by decide +kernel
theorem dX4_readName_192 : decode cX4_readName 192 = .ok (.iload 8, 2) := by decide +kernel
theorem dX4_readName_194 : decode cX4_readName 194 = .ok (.istore_n 3, 1) := by decide +kernel
theorem dX4_readName_195 : decode cX4_readName 195 = .ok (.iinc 5 1, 3) := by decide +kernel
theorem dX4_readName_198 : decode cX4_readName 198 = .ok (.goto (-175), 3) := by decide +kernel
theorem dX4_readName_201 : decode cX4_readName 201 = .ok (.iconst 2, 1) := by decide +kernel
theorem dX4_readName_202 : decode cX4_readName 202 = .ok (.ireturn, 1) := by decide +kernel
theorem dX4_readLabel_0 : decode cX4_readLabel 0 = .ok (.iload_n 3, 1) := by decide +kernel
theorem dX4_readLabel_1 : decode cX4_readLabel 1 = .ok (.bipush 10, 2) := by decide +kernel
theorem dX4_readLabel_3 : decode cX4_readLabel 3 = .ok (.if_icmp .gt 13, 3) := by decide +kernel
theorem dX4_readLabel_6 : decode cX4_readLabel 6 = .ok (.aload_n 0, 1) := by decide +kernel
theorem dX4_readLabel_7 : decode cX4_readLabel 7 = .ok (.getfield 18, 3) := by decide +kernel
theorem dX4_readLabel_10 : decode cX4_readLabel 10 = .ok (.invokevirtual 110, 3) := by decide +kernel
theorem dX4_readLabel_13 : decode cX4_readLabel 13 = .ok (.ifCond .ne 5, 3) := by decide +kernel
theorem dX4_readLabel_16 : decode cX4_readLabel 16 = .ok (.iconst 2, 1) := by decide +kernel
theorem dX4_readLabel_17 : decode cX4_readLabel 17 = .ok (.ireturn, 1) := by decide +kernel
theorem dX4_readLabel_18 : decode cX4_readLabel 18 = .ok (.iconst 1, 1) := by decide +kernel
theorem dX4_readLabel_19 : decode cX4_readLabel 19 = .ok (.istore 4, 2) := by decide +kernel
theorem dX4_readLabel_21 : decode cX4_readLabel 21 = .ok (.iload 4, 2) := by decide +kernel
theorem dX4_readLabel_23 : decode cX4_readLabel 23 = .ok (.iload_n 3, 1) := by decide +kernel
theorem dX4_readLabel_24 : decode cX4_readLabel 24 = .ok (.if_icmp .gt 41, 3) := by decide +kernel
theorem dX4_readLabel_27 : decode cX4_readLabel 27 = .ok (.aload_n 1, 1) := by decide +kernel
theorem dX4_readLabel_28 : decode cX4_readLabel 28 = .ok (.iload_n 2, 1) := by decide +kernel
theorem dX4_readLabel_29 : decode cX4_readLabel 29 = .ok (.iload 4, 2) := by decide +kernel
theorem dX4_readLabel_31 : decode cX4_readLabel 31 = .ok (.iadd, 1) := by decide +kernel
theorem dX4_readLabel_32 : decode cX4_readLabel 32 = .ok (.invokevirtual 98, 3) := by decide +kernel
theorem dX4_readLabel_35 : decode cX4_readLabel 35 = .ok (.istore 5, 2) := by decide +kernel
theorem dX4_readLabel_37 : decode cX4_readLabel 37 = .ok (.iload 5, 2) := by decide +kernel
theorem dX4_readLabel_39 : decode cX4_readLabel 39 = .ok (.iconst (-1), 1) := by decide +kernel
theorem dX4_readLabel_40 : decode cX4_readLabel 40 = .ok (.if_icmp .ne 5, 3) := by decide +kernel
theorem dX4_readLabel_43 : decode cX4_readLabel 43 = .ok (.iconst 3, 1) := by decide +kernel
theorem dX4_readLabel_44 : decode cX4_readLabel 44 = .ok (.ireturn, 1) := by decide +kernel
theorem dX4_readLabel_45 : decode cX4_readLabel 45 = .ok (.aload_n 0, 1) := by decide +kernel
theorem dX4_readLabel_46 : decode cX4_readLabel 46 = .ok (.getfield 18, 3) := by decide +kernel
theorem dX4_readLabel_49 : decode cX4_readLabel 49 = .ok (.iload 5, 2) := by decide +kernel
theorem dX4_readLabel_51 : decode cX4_readLabel 51 = .ok (.invokevirtual 114, 3) := by decide +kernel
theorem dX4_readLabel_54 : decode cX4_readLabel 54 = .ok (.ifCond .ne 5, 3) := by decide +kernel
theorem dX4_readLabel_57 : decode cX4_readLabel 57 = .ok (.iconst 2, 1) := by decide +kernel
theorem dX4_readLabel_58 : decode cX4_readLabel 58 = .ok (.ireturn, 1) := by decide +kernel
theorem dX4_readLabel_59 : decode cX4_readLabel 59 = .ok (.iinc 4 1, 3) := by decide +kernel
theorem dX4_readLabel_62 : decode cX4_readLabel 62 = .ok (.goto (-41), 3) := by decide +kernel
theorem dX4_readLabel_65 : decode cX4_readLabel 65 = .ok (.iconst 0, 1) := by decide +kernel
theorem dX4_readLabel_66 : decode cX4_readLabel 66 = .ok (.ireturn, 1) := by decide +kernel
theorem dX7_init_0 : decode cX7_init 0 = .ok (.aload_n 0, 1) := by decide +kernel
theorem dX7_init_1 : decode cX7_init 1 = .ok (.invokespecial 3, 3) := by decide +kernel
theorem dX7_init_4 : decode cX7_init 4 = .ok (.aload_n 0, 1) := by decide +kernel
theorem dX7_init_5 : decode cX7_init 5 = .ok (.aload_n 1, 1) := by decide +kernel
theorem dX7_init_6 : decode cX7_init 6 = .ok (.putfield 9, 3) := by decide +kernel
theorem dX7_init_9 : decode cX7_init 9 = .ok (.aload_n 0, 1) := by decide +kernel
theorem dX7_init_10 : decode cX7_init 10 = .ok (.aload_n 2, 1) := by decide +kernel
theorem dX7_init_11 : decode cX7_init 11 = .ok (.putfield 15, 3) := by decide +kernel
theorem dX7_init_14 : decode cX7_init 14 = .ok (.aload_n 0, 1) := by decide +kernel
theorem dX7_init_15 : decode cX7_init 15 = .ok (.bipush 12, 2) := by decide +kernel
theorem dX7_init_17 : decode cX7_init 17 = .ok (.newarray .int, 2) := by decide +kernel
theorem dX7_init_19 : decode cX7_init 19 = .ok (.putfield 19, 3) := by decide +kernel
theorem dX7_init_22 : decode cX7_init 22 = .ok (.aload_n 0, 1) := by decide +kernel
theorem dX7_init_23 : decode cX7_init 23 = .ok (.bipush 12, 2) := by decide +kernel
theorem dX7_init_25 : decode cX7_init 25 = .ok (.newarray .int, 2) := by decide +kernel
theorem dX7_init_27 : decode cX7_init 27 = .ok (.putfield 23, 3) := by decide +kernel
theorem dX7_init_30 : decode cX7_init 30 = .ok (.aload_n 0, 1) := by decide +kernel
theorem dX7_init_31 : decode cX7_init 31 = .ok (.iconst 0, 1) := by decide +kernel
theorem dX7_init_32 : decode cX7_init 32 = .ok (.putfield 26, 3) := by decide +kernel
theorem dX7_init_35 : decode cX7_init 35 = .ok (.return_, 1) := by decide +kernel
theorem dX7_size_0 : decode cX7_size 0 = .ok (.aload_n 0, 1) := by decide +kernel
theorem dX7_size_1 : decode cX7_size 1 = .ok (.getfield 26, 3) := by decide +kernel
theorem dX7_size_4 : decode cX7_size 4 = .ok (.ireturn, 1) := by decide +kernel
theorem dX7_has_0 : decode cX7_has 0 = .ok (.iload_n 1, 1) := by decide +kernel
theorem dX7_has_1 : decode cX7_has 1 = .ok (.ifCond .lt 15, 3) := by decide +kernel
theorem dX7_has_4 : decode cX7_has 4 = .ok (.iload_n 1, 1) := by decide +kernel
theorem dX7_has_5 : decode cX7_has 5 = .ok (.aload_n 0, 1) := by decide +kernel
theorem dX7_has_6 : decode cX7_has 6 = .ok (.getfield 26, 3) := by decide +kernel
theorem dX7_has_9 : decode cX7_has 9 = .ok (.if_icmp .ge 7, 3) := by decide +kernel
theorem dX7_has_12 : decode cX7_has 12 = .ok (.iconst 1, 1) := by decide +kernel
theorem dX7_has_13 : decode cX7_has 13 = .ok (.goto 4, 3) := by decide +kernel
theorem dX7_has_16 : decode cX7_has 16 = .ok (.iconst 0, 1) := by decide +kernel
theorem dX7_has_17 : decode cX7_has 17 = .ok (.ireturn, 1) := by decide +kernel
theorem dX7_ofAddress_0 : decode cX7_ofAddress 0 = .ok (.iconst 0, 1) := by decide +kernel
theorem dX7_ofAddress_1 : decode cX7_ofAddress 1 = .ok (.istore_n 2, 1) := by decide +kernel
theorem dX7_ofAddress_2 : decode cX7_ofAddress 2 = .ok (.iload_n 2, 1) := by decide +kernel
theorem dX7_ofAddress_3 : decode cX7_ofAddress 3 = .ok (.aload_n 0, 1) := by decide +kernel
theorem dX7_ofAddress_4 : decode cX7_ofAddress 4 = .ok (.getfield 26, 3) := by decide +kernel
theorem dX7_ofAddress_7 : decode cX7_ofAddress 7 = .ok (.if_icmp .ge 21, 3) := by decide +kernel
theorem dX7_ofAddress_10 : decode cX7_ofAddress 10 = .ok (.aload_n 0, 1) := by decide +kernel
theorem dX7_ofAddress_11 : decode cX7_ofAddress 11 = .ok (.getfield 19, 3) := by decide +kernel
theorem dX7_ofAddress_14 : decode cX7_ofAddress 14 = .ok (.iload_n 2, 1) := by decide +kernel
theorem dX7_ofAddress_15 : decode cX7_ofAddress 15 = .ok (.iaload, 1) := by decide +kernel
theorem dX7_ofAddress_16 : decode cX7_ofAddress 16 = .ok (.iload_n 1, 1) := by decide +kernel
theorem dX7_ofAddress_17 : decode cX7_ofAddress 17 = .ok (.if_icmp .ne 5, 3) := by decide +kernel
theorem dX7_ofAddress_20 : decode cX7_ofAddress 20 = .ok (.iload_n 2, 1) := by decide +kernel
theorem dX7_ofAddress_21 : decode cX7_ofAddress 21 = .ok (.ireturn, 1) := by decide +kernel
theorem dX7_ofAddress_22 : decode cX7_ofAddress 22 = .ok (.iinc 2 1, 3) := by decide +kernel
theorem dX7_ofAddress_25 : decode cX7_ofAddress 25 = .ok (.goto (-23), 3) := by decide +kernel
theorem dX7_ofAddress_28 : decode cX7_ofAddress 28 = .ok (.iconst (-1), 1) := by decide +kernel
theorem dX7_ofAddress_29 : decode cX7_ofAddress 29 = .ok (.ireturn, 1) := by decide +kernel
theorem dX7_open_0 : decode cX7_open 0 = .ok (.aload_n 0, 1) := by decide +kernel
theorem dX7_open_1 : decode cX7_open 1 = .ok (.getfield 26, 3) := by decide +kernel
theorem dX7_open_4 : decode cX7_open 4 = .ok (.bipush 12, 2) := by decide +kernel
theorem dX7_open_6 : decode cX7_open 6 = .ok (.if_icmp .lt 5, 3) := by decide +kernel
theorem dX7_open_9 : decode cX7_open 9 = .ok (.iconst (-1), 1) := by decide +kernel
theorem dX7_open_10 : decode cX7_open 10 = .ok (.ireturn, 1) := by decide +kernel
theorem dX7_open_11 : decode cX7_open 11 = .ok (.aload_n 0, 1) := by decide +kernel
theorem dX7_open_12 : decode cX7_open 12 = .ok (.getfield 19, 3) := by decide +kernel
theorem dX7_open_15 : decode cX7_open 15 = .ok (.aload_n 0, 1) := by decide +kernel
theorem dX7_open_16 : decode cX7_open 16 = .ok (.getfield 26, 3) := by decide +kernel
theorem dX7_open_19 : decode cX7_open 19 = .ok (.iload_n 1, 1) := by decide +kernel
theorem dX7_open_20 : decode cX7_open 20 = .ok (.iastore, 1) := by decide +kernel
theorem dX7_open_21 : decode cX7_open 21 = .ok (.aload_n 0, 1) := by decide +kernel
theorem dX7_open_22 : decode cX7_open 22 = .ok (.getfield 23, 3) := by decide +kernel
theorem dX7_open_25 : decode cX7_open 25 = .ok (.aload_n 0, 1) := by decide +kernel
theorem dX7_open_26 : decode cX7_open 26 = .ok (.getfield 26, 3) := by decide +kernel
theorem dX7_open_29 : decode cX7_open 29 = .ok (.iconst 0, 1) := by decide +kernel
theorem dX7_open_30 : decode cX7_open 30 = .ok (.iastore, 1) := by decide +kernel
theorem dX7_open_31 : decode cX7_open 31 = .ok (.aload_n 0, 1) := by decide +kernel
theorem dX7_open_32 : decode cX7_open 32 = .ok (.dup, 1) := by decide +kernel
theorem dX7_open_33 : decode cX7_open 33 = .ok (.getfield 26, 3) := by decide +kernel
theorem dX7_open_36 : decode cX7_open 36 = .ok (.iconst 1, 1) := by decide +kernel
theorem dX7_open_37 : decode cX7_open 37 = .ok (.iadd, 1) := by decide +kernel
theorem dX7_open_38 : decode cX7_open 38 = .ok (.putfield 26, 3) := by decide +kernel
theorem dX7_open_41 : decode cX7_open 41 = .ok (.aload_n 0, 1) := by decide +kernel
theorem dX7_open_42 : decode cX7_open 42 = .ok (.getfield 26, 3) := by decide +kernel
theorem dX7_open_45 : decode cX7_open 45 = .ok (.iconst 1, 1) := by decide +kernel
theorem dX7_open_46 : decode cX7_open 46 = .ok (.isub, 1) := by decide +kernel
theorem dX7_open_47 : decode cX7_open 47 = .ok (.ireturn, 1) := by decide +kernel
theorem dX7_change_0 : decode cX7_change 0 = .ok (.aload_n 0, 1) := by decide +kernel
theorem dX7_change_1 : decode cX7_change 1 = .ok (.iload_n 1, 1) := by decide +kernel
theorem dX7_change_2 : decode cX7_change 2 = .ok (.invokevirtual 30, 3) := by decide +kernel
theorem dX7_change_5 : decode cX7_change 5 = .ok (.ifCond .eq 13, 3) := by decide +kernel
theorem dX7_change_8 : decode cX7_change 8 = .ok (.aload_n 0, 1) := by decide +kernel
theorem dX7_change_9 : decode cX7_change 9 = .ok (.iload_n 1, 1) := by decide +kernel
theorem dX7_change_10 : decode cX7_change 10 = .ok (.iload_n 2, 1) := by decide +kernel
theorem dX7_change_11 : decode cX7_change 11 = .ok (.invokevirtual 34, 3) := by decide +kernel
theorem dX7_change_14 : decode cX7_change 14 = .ok (.iload_n 3, 1) := by decide +kernel
theorem dX7_change_15 : decode cX7_change 15 = .ok (.if_icmp .ne 5, 3) := by decide +kernel
theorem dX7_change_18 : decode cX7_change 18 = .ok (.iconst 0, 1) := by decide +kernel
theorem dX7_change_19 : decode cX7_change 19 = .ok (.ireturn, 1) := by decide +kernel
theorem dX7_change_20 : decode cX7_change 20 = .ok (.aload_n 0, 1) := by decide +kernel
theorem dX7_change_21 : decode cX7_change 21 = .ok (.getfield 23, 3) := by decide +kernel
theorem dX7_change_24 : decode cX7_change 24 = .ok (.iload_n 1, 1) := by decide +kernel
theorem dX7_change_25 : decode cX7_change 25 = .ok (.dup2, 1) := by decide +kernel
theorem dX7_change_26 : decode cX7_change 26 = .ok (.iaload, 1) := by decide +kernel
theorem dX7_change_27 : decode cX7_change 27 = .ok (.iconst 1, 1) := by decide +kernel
theorem dX7_change_28 : decode cX7_change 28 = .ok (.iload_n 2, 1) := by decide +kernel
theorem dX7_change_29 : decode cX7_change 29 = .ok (.ishl, 1) := by decide +kernel
theorem dX7_change_30 : decode cX7_change 30 = .ok (.ixor, 1) := by decide +kernel
theorem dX7_change_31 : decode cX7_change 31 = .ok (.iastore, 1) := by decide +kernel
theorem dX7_change_32 : decode cX7_change 32 = .ok (.iconst 1, 1) := by decide +kernel
theorem dX7_change_33 : decode cX7_change 33 = .ok (.ireturn, 1) := by decide +kernel
theorem dX7_zoneFor_0 : decode cX7_zoneFor 0 = .ok (.iload_n 2, 1) := by decide +kernel
theorem dX7_zoneFor_1 : decode cX7_zoneFor 1 = .ok (.istore_n 3, 1) := by decide +kernel
theorem dX7_zoneFor_2 : decode cX7_zoneFor 2 = .ok (.iconst 0, 1) := by decide +kernel
theorem dX7_zoneFor_3 : decode cX7_zoneFor 3 = .ok (.istore 4, 2) := by decide +kernel
theorem dX7_zoneFor_5 : decode cX7_zoneFor 5 = .ok (.iload 4, 2) := by decide +kernel
theorem dX7_zoneFor_7 : decode cX7_zoneFor 7 = .ok (.bipush 6, 2) := by decide +kernel
theorem dX7_zoneFor_9 : decode cX7_zoneFor 9 = .ok (.if_icmp .gt 47, 3) := by decide +kernel
theorem dX7_zoneFor_12 : decode cX7_zoneFor 12 = .ok (.aload_n 0, 1) := by decide +kernel
theorem dX7_zoneFor_13 : decode cX7_zoneFor 13 = .ok (.getfield 15, 3) := by decide +kernel
theorem dX7_zoneFor_16 : decode cX7_zoneFor 16 = .ok (.iload_n 3, 1) := by decide +kernel
theorem dX7_zoneFor_17 : decode cX7_zoneFor 17 = .ok (.invokevirtual 38, 3) := by decide +kernel
theorem dX7_zoneFor_20 : decode cX7_zoneFor 20 = .ok (.istore 5, 2) := by decide +kernel
theorem dX7_zoneFor_22 : decode cX7_zoneFor 22 = .ok (.iload 5, 2) := by decide +kernel
theorem dX7_zoneFor_24 : decode cX7_zoneFor 24 = .ok (.iconst (-1), 1) := by decide +kernel
theorem dX7_zoneFor_25 : decode cX7_zoneFor 25 = .ok (.if_icmp .eq 16, 3) := by decide +kernel
theorem dX7_zoneFor_28 : decode cX7_zoneFor 28 = .ok (.aload_n 0, 1) := by decide +kernel
theorem dX7_zoneFor_29 : decode cX7_zoneFor 29 = .ok (.iload_n 1, 1) := by decide +kernel
theorem dX7_zoneFor_30 : decode cX7_zoneFor 30 = .ok (.iload 5, 2) := by decide +kernel
theorem dX7_zoneFor_32 : decode cX7_zoneFor 32 = .ok (.invokevirtual 34, 3) := by decide +kernel
theorem dX7_zoneFor_35 : decode cX7_zoneFor 35 = .ok (.ifCond .eq 6, 3) := by decide +kernel
theorem dX7_zoneFor_38 : decode cX7_zoneFor 38 = .ok (.iload 5, 2) := by decide +kernel
theorem dX7_zoneFor_40 : decode cX7_zoneFor 40 = .ok (.ireturn, 1) := by decide +kernel
theorem dX7_zoneFor_41 : decode cX7_zoneFor 41 = .ok (.aload_n 0, 1) := by decide +kernel
theorem dX7_zoneFor_42 : decode cX7_zoneFor 42 = .ok (.getfield 9, 3) := by decide +kernel
theorem dX7_zoneFor_45 : decode cX7_zoneFor 45 = .ok (.iload_n 3, 1) := by decide +kernel
theorem dX7_zoneFor_46 : decode cX7_zoneFor 46 = .ok (.invokevirtual 44, 3) := by decide +kernel
theorem dX7_zoneFor_49 : decode cX7_zoneFor 49 = .ok (.istore_n 3, 1) := by decide +kernel
theorem dX7_zoneFor_50 : decode cX7_zoneFor 50 = .ok (.iinc 4 1, 3) := by decide +kernel
theorem dX7_zoneFor_53 : decode cX7_zoneFor 53 = .ok (.goto (-48), 3) := by decide +kernel
theorem dX7_zoneFor_56 : decode cX7_zoneFor 56 = .ok (.iconst (-1), 1) := by decide +kernel
theorem dX7_zoneFor_57 : decode cX7_zoneFor 57 = .ok (.ireturn, 1) := by decide +kernel
theorem dX7_isServed_0 : decode cX7_isServed 0 = .ok (.aload_n 0, 1) := by decide +kernel
theorem dX7_isServed_1 : decode cX7_isServed 1 = .ok (.iload_n 1, 1) := by decide +kernel
theorem dX7_isServed_2 : decode cX7_isServed 2 = .ok (.invokevirtual 30, 3) := by decide +kernel
theorem dX7_isServed_5 : decode cX7_isServed 5 = .ok (.ifCond .eq 21, 3) := by decide +kernel
theorem dX7_isServed_8 : decode cX7_isServed 8 = .ok (.aload_n 0, 1) := by decide +kernel
theorem dX7_isServed_9 : decode cX7_isServed 9 = .ok (.getfield 23, 3) := by decide +kernel
theorem dX7_isServed_12 : decode cX7_isServed 12 = .ok (.iload_n 1, 1) := by decide +kernel
theorem dX7_isServed_13 : decode cX7_isServed 13 = .ok (.iaload, 1) := by decide +kernel
theorem dX7_isServed_14 : decode cX7_isServed 14 = .ok (.iload_n 2, 1) := by decide +kernel
theorem dX7_isServed_15 : decode cX7_isServed 15 = .ok (.ishr, 1) := by decide +kernel
theorem dX7_isServed_16 : decode cX7_isServed 16 = .ok (.iconst 1, 1) := by decide +kernel
theorem dX7_isServed_17 : decode cX7_isServed 17 = .ok (.iand, 1) := by decide +kernel
theorem dX7_isServed_18 : decode cX7_isServed 18 = .ok (.iconst 1, 1) := by decide +kernel
theorem dX7_isServed_19 : decode cX7_isServed 19 = .ok (.if_icmp .ne 7, 3) := by decide +kernel
theorem dX7_isServed_22 : decode cX7_isServed 22 = .ok (.iconst 1, 1) := by decide +kernel
theorem dX7_isServed_23 : decode cX7_isServed 23 = .ok (.goto 4, 3) := by decide +kernel
theorem dX7_isServed_26 : decode cX7_isServed 26 = .ok (.iconst 0, 1) := by decide +kernel
theorem dX7_isServed_27 : decode cX7_isServed 27 = .ok (.ireturn, 1) := by decide +kernel
theorem dX9_init_0 : decode cX9_init 0 = .ok (.aload_n 0, 1) := by decide +kernel
theorem dX9_init_1 : decode cX9_init 1 = .ok (.invokespecial 3, 3) := by decide +kernel
theorem dX9_init_4 : decode cX9_init 4 = .ok (.aload_n 0, 1) := by decide +kernel
theorem dX9_init_5 : decode cX9_init 5 = .ok (.aload_n 1, 1) := by decide +kernel
theorem dX9_init_6 : decode cX9_init 6 = .ok (.putfield 9, 3) := by decide +kernel
theorem dX9_init_9 : decode cX9_init 9 = .ok (.aload_n 0, 1) := by decide +kernel
theorem dX9_init_10 : decode cX9_init 10 = .ok (.new 15, 3) := by decide +kernel
theorem dX9_init_13 : decode cX9_init 13 = .ok (.dup, 1) := by decide +kernel
theorem dX9_init_14 : decode cX9_init 14 = .ok (.invokespecial 17, 3) := by decide +kernel
theorem dX9_init_17 : decode cX9_init 17 = .ok (.putfield 18, 3) := by decide +kernel
theorem dX9_init_20 : decode cX9_init 20 = .ok (.aload_n 0, 1) := by decide +kernel
theorem dX9_init_21 : decode cX9_init 21 = .ok (.sipush 300, 3) := by decide +kernel
theorem dX9_init_24 : decode cX9_init 24 = .ok (.newarray .int, 2) := by decide +kernel
theorem dX9_init_26 : decode cX9_init 26 = .ok (.putfield 22, 3) := by decide +kernel
theorem dX9_init_29 : decode cX9_init 29 = .ok (.aload_n 0, 1) := by decide +kernel
theorem dX9_init_30 : decode cX9_init 30 = .ok (.iconst 3, 1) := by decide +kernel
theorem dX9_init_31 : decode cX9_init 31 = .ok (.newarray .int, 2) := by decide +kernel
theorem dX9_init_33 : decode cX9_init 33 = .ok (.putfield 26, 3) := by decide +kernel
theorem dX9_init_36 : decode cX9_init 36 = .ok (.return_, 1) := by decide +kernel
theorem dX9_message_0 : decode cX9_message 0 = .ok (.aload_n 0, 1) := by decide +kernel
theorem dX9_message_1 : decode cX9_message 1 = .ok (.getfield 18, 3) := by decide +kernel
theorem dX9_message_4 : decode cX9_message 4 = .ok (.areturn, 1) := by decide +kernel
theorem dX9_begin_0 : decode cX9_begin 0 = .ok (.aload_n 0, 1) := by decide +kernel
theorem dX9_begin_1 : decode cX9_begin 1 = .ok (.getfield 18, 3) := by decide +kernel
theorem dX9_begin_4 : decode cX9_begin 4 = .ok (.invokevirtual 29, 3) := by decide +kernel
theorem dX9_begin_7 : decode cX9_begin 7 = .ok (.aload_n 0, 1) := by decide +kernel
theorem dX9_begin_8 : decode cX9_begin 8 = .ok (.getfield 22, 3) := by decide +kernel
theorem dX9_begin_11 : decode cX9_begin 11 = .ok (.iconst 0, 1) := by decide +kernel
theorem dX9_begin_12 : decode cX9_begin 12 = .ok (.invokestatic 32, 3) := by decide +kernel
theorem dX9_begin_15 : decode cX9_begin 15 = .ok (.aload_n 0, 1) := by decide +kernel
theorem dX9_begin_16 : decode cX9_begin 16 = .ok (.getfield 26, 3) := by decide +kernel
theorem dX9_begin_19 : decode cX9_begin 19 = .ok (.iconst 0, 1) := by decide +kernel
theorem dX9_begin_20 : decode cX9_begin 20 = .ok (.invokestatic 32, 3) := by decide +kernel
theorem dX9_begin_23 : decode cX9_begin 23 = .ok (.aload_n 0, 1) := by decide +kernel
theorem dX9_begin_24 : decode cX9_begin 24 = .ok (.getfield 18, 3) := by decide +kernel
theorem dX9_begin_27 : decode cX9_begin 27 = .ok (.iload_n 1, 1) := by decide +kernel
theorem dX9_begin_28 : decode cX9_begin 28 = .ok (.invokevirtual 38, 3) := by decide +kernel
theorem dX9_begin_31 : decode cX9_begin 31 = .ok (.aload_n 0, 1) := by decide +kernel
theorem dX9_begin_32 : decode cX9_begin 32 = .ok (.getfield 18, 3) := by decide +kernel
theorem dX9_begin_35 : decode cX9_begin 35 = .ok (.ldc 42, 2) := by decide +kernel
theorem dX9_begin_37 : decode cX9_begin 37 = .ok (.invokevirtual 38, 3) := by decide +kernel
theorem dX9_begin_40 : decode cX9_begin 40 = .ok (.aload_n 0, 1) := by decide +kernel
theorem dX9_begin_41 : decode cX9_begin 41 = .ok (.getfield 18, 3) := by decide +kernel
theorem dX9_begin_44 : decode cX9_begin 44 = .ok (.iconst 1, 1) := by decide +kernel
theorem dX9_begin_45 : decode cX9_begin 45 = .ok (.invokevirtual 38, 3) := by decide +kernel
theorem dX9_begin_48 : decode cX9_begin 48 = .ok (.aload_n 0, 1) := by decide +kernel
theorem dX9_begin_49 : decode cX9_begin 49 = .ok (.getfield 18, 3) := by decide +kernel
theorem dX9_begin_52 : decode cX9_begin 52 = .ok (.iconst 0, 1) := by decide +kernel
theorem dX9_begin_53 : decode cX9_begin 53 = .ok (.invokevirtual 38, 3) := by decide +kernel
theorem dX9_begin_56 : decode cX9_begin 56 = .ok (.aload_n 0, 1) := by decide +kernel
theorem dX9_begin_57 : decode cX9_begin 57 = .ok (.getfield 18, 3) := by decide +kernel
theorem dX9_begin_60 : decode cX9_begin 60 = .ok (.iconst 0, 1) := by decide +kernel
theorem dX9_begin_61 : decode cX9_begin 61 = .ok (.invokevirtual 43, 3) := by decide +kernel
theorem dX9_begin_64 : decode cX9_begin 64 = .ok (.aload_n 0, 1) := by decide +kernel
theorem dX9_begin_65 : decode cX9_begin 65 = .ok (.iload_n 2, 1) := by decide +kernel
theorem dX9_begin_66 : decode cX9_begin 66 = .ok (.invokevirtual 46, 3) := by decide +kernel
theorem dX9_begin_69 : decode cX9_begin 69 = .ok (.aload_n 0, 1) := by decide +kernel
theorem dX9_begin_70 : decode cX9_begin 70 = .ok (.getfield 18, 3) := by decide +kernel
theorem dX9_begin_73 : decode cX9_begin 73 = .ok (.iload_n 3, 1) := by decide +kernel
theorem dX9_begin_74 : decode cX9_begin 74 = .ok (.invokevirtual 38, 3) := by decide +kernel
theorem dX9_begin_77 : decode cX9_begin 77 = .ok (.aload_n 0, 1) := by decide +kernel
theorem dX9_begin_78 : decode cX9_begin 78 = .ok (.getfield 18, 3) := by decide +kernel
theorem dX9_begin_81 : decode cX9_begin 81 = .ok (.iconst 1, 1) := by decide +kernel
theorem dX9_begin_82 : decode cX9_begin 82 = .ok (.invokevirtual 38, 3) := by decide +kernel
theorem dX9_begin_85 : decode cX9_begin 85 = .ok (.return_, 1) := by decide +kernel
theorem dX9_addRecord_0 : decode cX9_addRecord 0 = .ok (.aload_n 0, 1) := by decide +kernel
theorem dX9_addRecord_1 : decode cX9_addRecord 1 = .ok (.iload_n 1, 1) := by decide +kernel
theorem dX9_addRecord_2 : decode cX9_addRecord 2 = .ok (.iload_n 2, 1) := by decide +kernel
theorem dX9_addRecord_3 : decode cX9_addRecord 3 = .ok (.iload_n 3, 1) := by decide +kernel
theorem dX9_addRecord_4 : decode cX9_addRecord 4 = .ok (.iload 5, 2) := by decide +kernel
theorem dX9_addRecord_6 : decode cX9_addRecord 6 = .ok (.invokevirtual 49, 3) := by decide +kernel
theorem dX9_addRecord_9 : decode cX9_addRecord 9 = .ok (.istore 6, 2) := by decide +kernel
theorem dX9_addRecord_11 : decode cX9_addRecord 11 = .ok (.iload_n 3, 1) := by decide +kernel
theorem dX9_addRecord_12 : decode cX9_addRecord 12 = .ok (.invokestatic 53, 3) := by decide +kernel
theorem dX9_addRecord_15 : decode cX9_addRecord 15 = .ok (.ifCond .eq 12, 3) := by decide +kernel
theorem dX9_addRecord_18 : decode cX9_addRecord 18 = .ok (.aload_n 0, 1) := by decide +kernel
theorem dX9_addRecord_19 : decode cX9_addRecord 19 = .ok (.iload 4, 2) := by decide +kernel
theorem dX9_addRecord_21 : decode cX9_addRecord 21 = .ok (.invokevirtual 46, 3) := by decide +kernel
theorem dX9_addRecord_24 : decode cX9_addRecord 24 = .ok (.goto 26, 3) := by decide +kernel
theorem dX9_addRecord_27 : decode cX9_addRecord 27 = .ok (.iload_n 3, 1) := by decide +kernel
theorem dX9_addRecord_28 : decode cX9_addRecord 28 = .ok (.bipush 16, 2) := by decide +kernel
theorem dX9_addRecord_30 : decode cX9_addRecord 30 = .ok (.if_icmp .ne 11, 3) := by decide +kernel
theorem dX9_addRecord_33 : decode cX9_addRecord 33 = .ok (.aload_n 0, 1) := by decide +kernel
theorem dX9_addRecord_34 : decode cX9_addRecord 34 = .ok (.getfield 18, 3) := by decide +kernel
theorem dX9_addRecord_37 : decode cX9_addRecord 37 = .ok (.iconst 4, 1) := by decide +kernel
theorem dX9_addRecord_38 : decode cX9_addRecord 38 = .ok (.invokevirtual 57, 3) := by decide +kernel
theorem dX9_addRecord_41 : decode cX9_addRecord 41 = .ok (.aload_n 0, 1) := by decide +kernel
theorem dX9_addRecord_42 : decode cX9_addRecord 42 = .ok (.getfield 18, 3) := by decide +kernel
theorem dX9_addRecord_45 : decode cX9_addRecord 45 = .ok (.iload 4, 2) := by decide +kernel
theorem dX9_addRecord_47 : decode cX9_addRecord 47 = .ok (.invokevirtual 43, 3) := by decide +kernel
theorem dX9_addRecord_50 : decode cX9_addRecord 50 = .ok (.aload_n 0, 1) := by decide +kernel
theorem dX9_addRecord_51 : decode cX9_addRecord 51 = .ok (.iload 6, 2) := by decide +kernel
theorem dX9_addRecord_53 : decode cX9_addRecord 53 = .ok (.invokevirtual 60, 3) := by decide +kernel
theorem dX9_addRecord_56 : decode cX9_addRecord 56 = .ok (.return_, 1) := by decide +kernel
theorem dX9_addSoa_0 : decode cX9_addSoa 0 = .ok (.aload_n 0, 1) := by decide +kernel
theorem dX9_addSoa_1 : decode cX9_addSoa 1 = .ok (.iconst 1, 1) := by decide +kernel
theorem dX9_addSoa_2 : decode cX9_addSoa 2 = .ok (.iload_n 1, 1) := by decide +kernel
theorem dX9_addSoa_3 : decode cX9_addSoa 3 = .ok (.bipush 6, 2) := by decide +kernel
theorem dX9_addSoa_5 : decode cX9_addSoa 5 = .ok (.iload_n 2, 1) := by decide +kernel
theorem dX9_addSoa_6 : decode cX9_addSoa 6 = .ok (.invokevirtual 49, 3) := by decide +kernel
theorem dX9_addSoa_9 : decode cX9_addSoa 9 = .ok (.istore_n 3, 1) := by decide +kernel
theorem dX9_addSoa_10 : decode cX9_addSoa 10 = .ok (.aload_n 0, 1) := by decide +kernel
theorem dX9_addSoa_11 : decode cX9_addSoa 11 = .ok (.iconst 0, 1) := by decide +kernel
theorem dX9_addSoa_12 : decode cX9_addSoa 12 = .ok (.invokevirtual 46, 3) := by decide +kernel
theorem dX9_addSoa_15 : decode cX9_addSoa 15 = .ok (.aload_n 0, 1) := by decide +kernel
theorem dX9_addSoa_16 : decode cX9_addSoa 16 = .ok (.iconst 0, 1) := by decide +kernel
theorem dX9_addSoa_17 : decode cX9_addSoa 17 = .ok (.invokevirtual 46, 3) := by decide +kernel
theorem dX9_addSoa_20 : decode cX9_addSoa 20 = .ok (.aload_n 0, 1) := by decide +kernel
theorem dX9_addSoa_21 : decode cX9_addSoa 21 = .ok (.getfield 18, 3) := by decide +kernel
theorem dX9_addSoa_24 : decode cX9_addSoa 24 = .ok (.iconst 1, 1) := by decide +kernel
theorem dX9_addSoa_25 : decode cX9_addSoa 25 = .ok (.invokevirtual 43, 3) := by decide +kernel
theorem dX9_addSoa_28 : decode cX9_addSoa 28 = .ok (.aload_n 0, 1) := by decide +kernel
theorem dX9_addSoa_29 : decode cX9_addSoa 29 = .ok (.getfield 18, 3) := by decide +kernel
theorem dX9_addSoa_32 : decode cX9_addSoa 32 = .ok (.iconst 0, 1) := by decide +kernel
theorem dX9_addSoa_33 : decode cX9_addSoa 33 = .ok (.invokevirtual 43, 3) := by decide +kernel
theorem dX9_addSoa_36 : decode cX9_addSoa 36 = .ok (.aload_n 0, 1) := by decide +kernel
theorem dX9_addSoa_37 : decode cX9_addSoa 37 = .ok (.getfield 18, 3) := by decide +kernel
theorem dX9_addSoa_40 : decode cX9_addSoa 40 = .ok (.iconst 0, 1) := by decide +kernel
theorem dX9_addSoa_41 : decode cX9_addSoa 41 = .ok (.invokevirtual 43, 3) := by decide +kernel
theorem dX9_addSoa_44 : decode cX9_addSoa 44 = .ok (.aload_n 0, 1) := by decide +kernel
theorem dX9_addSoa_45 : decode cX9_addSoa 45 = .ok (.getfield 18, 3) := by decide +kernel
theorem dX9_addSoa_48 : decode cX9_addSoa 48 = .ok (.iconst 0, 1) := by decide +kernel
theorem dX9_addSoa_49 : decode cX9_addSoa 49 = .ok (.invokevirtual 43, 3) := by decide +kernel
theorem dX9_addSoa_52 : decode cX9_addSoa 52 = .ok (.aload_n 0, 1) := by decide +kernel
theorem dX9_addSoa_53 : decode cX9_addSoa 53 = .ok (.getfield 18, 3) := by decide +kernel
theorem dX9_addSoa_56 : decode cX9_addSoa 56 = .ok (.iload_n 2, 1) := by decide +kernel
theorem dX9_addSoa_57 : decode cX9_addSoa 57 = .ok (.invokevirtual 43, 3) := by decide +kernel
theorem dX9_addSoa_60 : decode cX9_addSoa 60 = .ok (.aload_n 0, 1) := by decide +kernel
theorem dX9_addSoa_61 : decode cX9_addSoa 61 = .ok (.iload_n 3, 1) := by decide +kernel
theorem dX9_addSoa_62 : decode cX9_addSoa 62 = .ok (.invokevirtual 60, 3) := by decide +kernel
theorem dX9_addSoa_65 : decode cX9_addSoa 65 = .ok (.return_, 1) := by decide +kernel
theorem dX9_finish_0 : decode cX9_finish 0 = .ok (.aload_n 0, 1) := by decide +kernel
theorem dX9_finish_1 : decode cX9_finish 1 = .ok (.getfield 18, 3) := by decide +kernel
theorem dX9_finish_4 : decode cX9_finish 4 = .ok (.invokevirtual 63, 3) := by decide +kernel
theorem dX9_finish_7 : decode cX9_finish 7 = .ok (.ifCond .eq 5, 3) := by decide +kernel
theorem dX9_finish_10 : decode cX9_finish 10 = .ok (.iconst 0, 1) := by decide +kernel
theorem dX9_finish_11 : decode cX9_finish 11 = .ok (.ireturn, 1) := by decide +kernel
theorem dX9_finish_12 : decode cX9_finish 12 = .ok (.aload_n 0, 1) := by decide +kernel
theorem dX9_finish_13 : decode cX9_finish 13 = .ok (.getfield 18, 3) := by decide +kernel
theorem dX9_finish_16 : decode cX9_finish 16 = .ok (.iconst 2, 1) := by decide +kernel
theorem dX9_finish_17 : decode cX9_finish 17 = .ok (.ldc 42, 2) := by decide +kernel
theorem dX9_finish_19 : decode cX9_finish 19 = .ok (.iload_n 1, 1) := by decide +kernel
theorem dX9_finish_20 : decode cX9_finish 20 = .ok (.iadd, 1) := by decide +kernel
theorem dX9_finish_21 : decode cX9_finish 21 = .ok (.invokevirtual 67, 3) := by decide +kernel
theorem dX9_finish_24 : decode cX9_finish 24 = .ok (.aload_n 0, 1) := by decide +kernel
theorem dX9_finish_25 : decode cX9_finish 25 = .ok (.getfield 18, 3) := by decide +kernel
theorem dX9_finish_28 : decode cX9_finish 28 = .ok (.bipush 6, 2) := by decide +kernel
theorem dX9_finish_30 : decode cX9_finish 30 = .ok (.aload_n 0, 1) := by decide +kernel
theorem dX9_finish_31 : decode cX9_finish 31 = .ok (.getfield 26, 3) := by decide +kernel
theorem dX9_finish_34 : decode cX9_finish 34 = .ok (.iconst 0, 1) := by decide +kernel
theorem dX9_finish_35 : decode cX9_finish 35 = .ok (.iaload, 1) := by decide +kernel
theorem dX9_finish_36 : decode cX9_finish 36 = .ok (.invokevirtual 67, 3) := by decide +kernel
theorem dX9_finish_39 : decode cX9_finish 39 = .ok (.aload_n 0, 1) := by decide +kernel
theorem dX9_finish_40 : decode cX9_finish 40 = .ok (.getfield 18, 3) := by decide +kernel
theorem dX9_finish_43 : decode cX9_finish 43 = .ok (.bipush 8, 2) := by decide +kernel
theorem dX9_finish_45 : decode cX9_finish 45 = .ok (.aload_n 0, 1) := by decide +kernel
theorem dX9_finish_46 : decode cX9_finish 46 = .ok (.getfield 26, 3) := by decide +kernel
theorem dX9_finish_49 : decode cX9_finish 49 = .ok (.iconst 1, 1) := by decide +kernel
theorem dX9_finish_50 : decode cX9_finish 50 = .ok (.iaload, 1) := by decide +kernel
theorem dX9_finish_51 : decode cX9_finish 51 = .ok (.invokevirtual 67, 3) := by decide +kernel
theorem dX9_finish_54 : decode cX9_finish 54 = .ok (.aload_n 0, 1) := by decide +kernel
theorem dX9_finish_55 : decode cX9_finish 55 = .ok (.getfield 18, 3) := by decide +kernel
theorem dX9_finish_58 : decode cX9_finish 58 = .ok (.bipush 10, 2) := by decide +kernel
theorem dX9_finish_60 : decode cX9_finish 60 = .ok (.aload_n 0, 1) := by decide +kernel
theorem dX9_finish_61 : decode cX9_finish 61 = .ok (.getfield 26, 3) := by decide +kernel
theorem dX9_finish_64 : decode cX9_finish 64 = .ok (.iconst 2, 1) := by decide +kernel
theorem dX9_finish_65 : decode cX9_finish 65 = .ok (.iaload, 1) := by decide +kernel
theorem dX9_finish_66 : decode cX9_finish 66 = .ok (.invokevirtual 67, 3) := by decide +kernel
theorem dX9_finish_69 : decode cX9_finish 69 = .ok (.iconst 1, 1) := by decide +kernel
theorem dX9_finish_70 : decode cX9_finish 70 = .ok (.ireturn, 1) := by decide +kernel
theorem dX9_openRecord_0 : decode cX9_openRecord 0 = .ok (.iload_n 1, 1) := by decide +kernel
theorem dX9_openRecord_1 : decode cX9_openRecord 1 = .ok (.ifCond .lt 18, 3) := by decide +kernel
theorem dX9_openRecord_4 : decode cX9_openRecord 4 = .ok (.iload_n 1, 1) := by decide +kernel
theorem dX9_openRecord_5 : decode cX9_openRecord 5 = .ok (.iconst 3, 1) := by decide +kernel
theorem dX9_openRecord_6 : decode cX9_openRecord 6 = .ok (.if_icmp .ge 13, 3) := by decide +kernel
theorem dX9_openRecord_9 : decode cX9_openRecord 9 = .ok (.aload_n 0, 1) := by decide +kernel
theorem dX9_openRecord_10 : decode cX9_openRecord 10 = .ok (.getfield 26, 3) := by decide +kernel
theorem dX9_openRecord_13 : decode cX9_openRecord 13 = .ok (.iload_n 1, 1) := by decide +kernel
theorem dX9_openRecord_14 : decode cX9_openRecord 14 = .ok (.dup2, 1) := by decide +kernel
theorem dX9_openRecord_15 : decode cX9_openRecord 15 = .ok (.iaload, 1) := by decide +kernel
theorem dX9_openRecord_16 : decode cX9_openRecord 16 = .ok (.iconst 1, 1) := by decide +kernel
theorem dX9_openRecord_17 : decode cX9_openRecord 17 = .ok (.iadd, 1) := by decide +kernel
theorem dX9_openRecord_18 : decode cX9_openRecord 18 = .ok (.iastore, 1) := by decide +kernel
theorem dX9_openRecord_19 : decode cX9_openRecord 19 = .ok (.aload_n 0, 1) := by decide +kernel
theorem dX9_openRecord_20 : decode cX9_openRecord 20 = .ok (.iload_n 2, 1) := by decide +kernel
theorem dX9_openRecord_21 : decode cX9_openRecord 21 = .ok (.invokevirtual 46, 3) := by decide +kernel
theorem dX9_openRecord_24 : decode cX9_openRecord 24 = .ok (.aload_n 0, 1) := by decide +kernel
theorem dX9_openRecord_25 : decode cX9_openRecord 25 = .ok (.getfield 18, 3) := by decide +kernel
theorem dX9_openRecord_28 : decode cX9_openRecord 28 = .ok (.iload_n 3, 1) := by decide +kernel
theorem dX9_openRecord_29 : decode cX9_openRecord 29 = .ok (.invokevirtual 38, 3) := by decide +kernel
theorem dX9_openRecord_32 : decode cX9_openRecord 32 = .ok (.aload_n 0, 1) := by decide +kernel
theorem dX9_openRecord_33 : decode cX9_openRecord 33 = .ok (.getfield 18, 3) := by decide +kernel
theorem dX9_openRecord_36 : decode cX9_openRecord 36 = .ok (.iconst 1, 1) := by decide +kernel
theorem dX9_openRecord_37 : decode cX9_openRecord 37 = .ok (.invokevirtual 38, 3) := by decide +kernel
theorem dX9_openRecord_40 : decode cX9_openRecord 40 = .ok (.aload_n 0, 1) := by decide +kernel
theorem dX9_openRecord_41 : decode cX9_openRecord 41 = .ok (.getfield 18, 3) := by decide +kernel
theorem dX9_openRecord_44 : decode cX9_openRecord 44 = .ok (.iload 4, 2) := by decide +kernel
theorem dX9_openRecord_46 : decode cX9_openRecord 46 = .ok (.invokevirtual 43, 3) := by decide +kernel
theorem dX9_openRecord_49 : decode cX9_openRecord 49 = .ok (.aload_n 0, 1) := by decide +kernel
theorem dX9_openRecord_50 : decode cX9_openRecord 50 = .ok (.getfield 18, 3) := by decide +kernel
theorem dX9_openRecord_53 : decode cX9_openRecord 53 = .ok (.invokevirtual 71, 3) := by decide +kernel
theorem dX9_openRecord_56 : decode cX9_openRecord 56 = .ok (.istore 5, 2) := by decide +kernel
theorem dX9_openRecord_58 : decode cX9_openRecord 58 = .ok (.aload_n 0, 1) := by decide +kernel
theorem dX9_openRecord_59 : decode cX9_openRecord 59 = .ok (.getfield 18, 3) := by decide +kernel
theorem dX9_openRecord_62 : decode cX9_openRecord 62 = .ok (.iconst 0, 1) := by decide +kernel
theorem dX9_openRecord_63 : decode cX9_openRecord 63 = .ok (.invokevirtual 38, 3) := by decide +kernel
theorem dX9_openRecord_66 : decode cX9_openRecord 66 = .ok (.iload 5, 2) := by decide +kernel
theorem dX9_openRecord_68 : decode cX9_openRecord 68 = .ok (.ireturn, 1) := by decide +kernel
theorem dX9_closeRecord_0 : decode cX9_closeRecord 0 = .ok (.aload_n 0, 1) := by decide +kernel
theorem dX9_closeRecord_1 : decode cX9_closeRecord 1 = .ok (.getfield 18, 3) := by decide +kernel
theorem dX9_closeRecord_4 : decode cX9_closeRecord 4 = .ok (.iload_n 1, 1) := by decide +kernel
theorem dX9_closeRecord_5 : decode cX9_closeRecord 5 = .ok (.aload_n 0, 1) := by decide +kernel
theorem dX9_closeRecord_6 : decode cX9_closeRecord 6 = .ok (.getfield 18, 3) := by decide +kernel
theorem dX9_closeRecord_9 : decode cX9_closeRecord 9 = .ok (.invokevirtual 71, 3) := by decide +kernel
theorem dX9_closeRecord_12 : decode cX9_closeRecord 12 = .ok (.iload_n 1, 1) := by decide +kernel
theorem dX9_closeRecord_13 : decode cX9_closeRecord 13 = .ok (.isub, 1) := by decide +kernel
theorem dX9_closeRecord_14 : decode cX9_closeRecord 14 = .ok (.iconst 2, 1) := by decide +kernel
theorem dX9_closeRecord_15 : decode cX9_closeRecord 15 = .ok (.isub, 1) := by decide +kernel
theorem dX9_closeRecord_16 : decode cX9_closeRecord 16 = .ok (.invokevirtual 67, 3) := by decide +kernel
theorem dX9_closeRecord_19 : decode cX9_closeRecord 19 = .ok (.return_, 1) := by decide +kernel
theorem dX9_addName_0 : decode cX9_addName 0 = .ok (.aload_n 0, 1) := by decide +kernel
theorem dX9_addName_1 : decode cX9_addName 1 = .ok (.getfield 9, 3) := by decide +kernel
theorem dX9_addName_4 : decode cX9_addName 4 = .ok (.iload_n 1, 1) := by decide +kernel
theorem dX9_addName_5 : decode cX9_addName 5 = .ok (.invokevirtual 75, 3) := by decide +kernel
theorem dX9_addName_8 : decode cX9_addName 8 = .ok (.ifCond .eq 7, 3) := by decide +kernel
theorem dX9_addName_11 : decode cX9_addName 11 = .ok (.iload_n 1, 1) := by decide +kernel
theorem dX9_addName_12 : decode cX9_addName 12 = .ok (.goto 4, 3) := by decide +kernel
theorem dX9_addName_15 : decode cX9_addName 15 = .ok (.iconst 0, 1) := by decide +kernel
theorem dX9_addName_16 : decode cX9_addName 16 = .ok (.istore_n 2, 1) := by decide +kernel
theorem dX9_addName_17 : decode cX9_addName 17 = .ok (.iconst 0, 1) := by decide +kernel
theorem dX9_addName_18 : decode cX9_addName 18 = .ok (.istore_n 3, 1) := by decide +kernel
theorem dX9_addName_19 : decode cX9_addName 19 = .ok (.iload_n 3, 1) := by decide +kernel
theorem dX9_addName_20 : decode cX9_addName 20 = .ok (.bipush 6, 2) := by decide +kernel
theorem dX9_addName_22 : decode cX9_addName 22 = .ok (.if_icmp .ge 98, 3) := by decide +kernel
theorem dX9_addName_25 : decode cX9_addName 25 = .ok (.iload_n 2, 1) := by decide +kernel
theorem dX9_addName_26 : decode cX9_addName 26 = .ok (.ifCond .eq 94, 3) := by decide +kernel
theorem dX9_addName_29 : decode cX9_addName 29 = .ok (.aload_n 0, 1) := by decide +kernel
theorem dX9_addName_30 : decode cX9_addName 30 = .ok (.getfield 22, 3) := by decide +kernel
theorem dX9_addName_33 : decode cX9_addName 33 = .ok (.iload_n 2, 1) := by decide +kernel
theorem dX9_addName_34 : decode cX9_addName 34 = .ok (.iaload, 1) := by decide +kernel
theorem dX9_addName_35 : decode cX9_addName 35 = .ok (.ifCond .ne 85, 3) := by decide +kernel
theorem dX9_addName_38 : decode cX9_addName 38 = .ok (.aload_n 0, 1) := by decide +kernel
theorem dX9_addName_39 : decode cX9_addName 39 = .ok (.getfield 22, 3) := by decide +kernel
theorem dX9_addName_42 : decode cX9_addName 42 = .ok (.iload_n 2, 1) := by decide +kernel
theorem dX9_addName_43 : decode cX9_addName 43 = .ok (.aload_n 0, 1) := by decide +kernel
theorem dX9_addName_44 : decode cX9_addName 44 = .ok (.getfield 18, 3) := by decide +kernel
theorem dX9_addName_47 : decode cX9_addName 47 = .ok (.invokevirtual 71, 3) := by decide +kernel
theorem dX9_addName_50 : decode cX9_addName 50 = .ok (.iastore, 1) := by decide +kernel
theorem dX9_addName_51 : decode cX9_addName 51 = .ok (.aload_n 0, 1) := by decide +kernel
theorem dX9_addName_52 : decode cX9_addName 52 = .ok (.getfield 18, 3) := by decide +kernel
theorem dX9_addName_55 : decode cX9_addName 55 = .ok (.aload_n 0, 1) := by decide +kernel
theorem dX9_addName_56 : decode cX9_addName 56 = .ok (.getfield 9, 3) := by decide +kernel
theorem dX9_addName_59 : decode cX9_addName 59 = .ok (.iload_n 2, 1) := by decide +kernel
theorem dX9_addName_60 : decode cX9_addName 60 = .ok (.invokevirtual 80, 3) := by decide +kernel
theorem dX9_addName_63 : decode cX9_addName 63 = .ok (.invokevirtual 57, 3) := by decide +kernel
theorem dX9_addName_66 : decode cX9_addName 66 = .ok (.iconst 0, 1) := by decide +kernel
theorem dX9_addName_67 : decode cX9_addName 67 = .ok (.istore 4, 2) := by decide +kernel
theorem dX9_addName_69 : decode cX9_addName 69 = .ok (.iload 4, 2) := by decide +kernel
theorem dX9_addName_71 : decode cX9_addName 71 = .ok (.aload_n 0, 1) := by decide +kernel
theorem dX9_addName_72 : decode cX9_addName 72 = .ok (.getfield 9, 3) := by decide +kernel
theorem dX9_addName_75 : decode cX9_addName 75 = .ok (.iload_n 2, 1) := by decide +kernel
theorem dX9_addName_76 : decode cX9_addName 76 = .ok (.invokevirtual 80, 3) := by decide +kernel
theorem dX9_addName_79 : decode cX9_addName 79 = .ok (.if_icmp .ge 26, 3) := by decide +kernel
theorem dX9_addName_82 : decode cX9_addName 82 = .ok (.aload_n 0, 1) := by decide +kernel
theorem dX9_addName_83 : decode cX9_addName 83 = .ok (.getfield 18, 3) := by decide +kernel
theorem dX9_addName_86 : decode cX9_addName 86 = .ok (.aload_n 0, 1) := by decide +kernel
theorem dX9_addName_87 : decode cX9_addName 87 = .ok (.getfield 9, 3) := by decide +kernel
theorem dX9_addName_90 : decode cX9_addName 90 = .ok (.iload_n 2, 1) := by decide +kernel
theorem dX9_addName_91 : decode cX9_addName 91 = .ok (.iload 4, 2) := by decide +kernel
theorem dX9_addName_93 : decode cX9_addName 93 = .ok (.invokevirtual 84, 3) := by decide +kernel
theorem dX9_addName_96 : decode cX9_addName 96 = .ok (.invokevirtual 57, 3) := by decide +kernel
theorem dX9_addName_99 : decode cX9_addName 99 = .ok (.iinc 4 1, 3) := by decide +kernel
theorem dX9_addName_102 : decode cX9_addName 102 = .ok (.goto (-33), 3) := by decide +kernel
theorem dX9_addName_105 : decode cX9_addName 105 = .ok (.aload_n 0, 1) := by decide +kernel
theorem dX9_addName_106 : decode cX9_addName 106 = .ok (.getfield 9, 3) := by decide +kernel
theorem dX9_addName_109 : decode cX9_addName 109 = .ok (.iload_n 2, 1) := by decide +kernel
theorem dX9_addName_110 : decode cX9_addName 110 = .ok (.invokevirtual 88, 3) := by decide +kernel
theorem dX9_addName_113 : decode cX9_addName 113 = .ok (.istore_n 2, 1) := by decide +kernel
theorem dX9_addName_114 : decode cX9_addName 114 = .ok (.iinc 3 1, 3) := by decide +kernel
theorem dX9_addName_117 : decode cX9_addName 117 = .ok (.goto (-98), 3) := by decide +kernel
theorem dX9_addName_120 : decode cX9_addName 120 = .ok (.iload_n 2, 1) := by decide +kernel
theorem dX9_addName_121 : decode cX9_addName 121 = .ok (.ifCond .ne 14, 3) := by decide +kernel
theorem dX9_addName_124 : decode cX9_addName 124 = .ok (.aload_n 0, 1) := by decide +kernel
theorem dX9_addName_125 : decode cX9_addName 125 = .ok (.getfield 18, 3) := by decide +kernel
theorem dX9_addName_128 : decode cX9_addName 128 = .ok (.iconst 0, 1) := by decide +kernel
theorem dX9_addName_129 : decode cX9_addName 129 = .ok (.invokevirtual 57, 3) := by decide +kernel
theorem dX9_addName_132 : decode cX9_addName 132 = .ok (.goto 19, 3) := by decide +kernel
theorem dX9_addName_135 : decode cX9_addName 135 = .ok (.aload_n 0, 1) := by decide +kernel
theorem dX9_addName_136 : decode cX9_addName 136 = .ok (.getfield 18, 3) := by decide +kernel
theorem dX9_addName_139 : decode cX9_addName 139 = .ok (.ldc 91, 2) := by decide +kernel
theorem dX9_addName_141 : decode cX9_addName 141 = .ok (.aload_n 0, 1) := by decide +kernel
theorem dX9_addName_142 : decode cX9_addName 142 = .ok (.getfield 22, 3) := by decide +kernel
theorem dX9_addName_145 : decode cX9_addName 145 = .ok (.iload_n 2, 1) := by decide +kernel
theorem dX9_addName_146 : decode cX9_addName 146 = .ok (.iaload, 1) := by decide +kernel
theorem dX9_addName_147 : decode cX9_addName 147 = .ok (.iadd, 1) := by decide +kernel
theorem dX9_addName_148 : decode cX9_addName 148 = .ok (.invokevirtual 38, 3) := by decide +kernel
theorem dX9_addName_151 : decode cX9_addName 151 = .ok (.return_, 1) := by decide +kernel
theorem dX10_init_0 : decode cX10_init 0 = .ok (.aload_n 0, 1) := by decide +kernel
theorem dX10_init_1 : decode cX10_init 1 = .ok (.invokespecial 3, 3) := by decide +kernel
theorem dX10_init_4 : decode cX10_init 4 = .ok (.aload_n 0, 1) := by decide +kernel
theorem dX10_init_5 : decode cX10_init 5 = .ok (.aload_n 1, 1) := by decide +kernel
theorem dX10_init_6 : decode cX10_init 6 = .ok (.putfield 9, 3) := by decide +kernel
theorem dX10_init_9 : decode cX10_init 9 = .ok (.aload_n 0, 1) := by decide +kernel
theorem dX10_init_10 : decode cX10_init 10 = .ok (.bipush 12, 2) := by decide +kernel
theorem dX10_init_12 : decode cX10_init 12 = .ok (.newarray .int, 2) := by decide +kernel
theorem dX10_init_14 : decode cX10_init 14 = .ok (.putfield 15, 3) := by decide +kernel
theorem dX10_init_17 : decode cX10_init 17 = .ok (.aload_n 0, 1) := by decide +kernel
theorem dX10_init_18 : decode cX10_init 18 = .ok (.bipush 12, 2) := by decide +kernel
theorem dX10_init_20 : decode cX10_init 20 = .ok (.newarray .int, 2) := by decide +kernel
theorem dX10_init_22 : decode cX10_init 22 = .ok (.putfield 19, 3) := by decide +kernel
theorem dX10_init_25 : decode cX10_init 25 = .ok (.aload_n 0, 1) := by decide +kernel
theorem dX10_init_26 : decode cX10_init 26 = .ok (.iconst 0, 1) := by decide +kernel
theorem dX10_init_27 : decode cX10_init 27 = .ok (.putfield 22, 3) := by decide +kernel
theorem dX10_init_30 : decode cX10_init 30 = .ok (.aload_n 0, 1) := by decide +kernel
theorem dX10_init_31 : decode cX10_init 31 = .ok (.sipush 150, 3) := by decide +kernel
theorem dX10_init_34 : decode cX10_init 34 = .ok (.newarray .int, 2) := by decide +kernel
theorem dX10_init_36 : decode cX10_init 36 = .ok (.putfield 26, 3) := by decide +kernel
theorem dX10_init_39 : decode cX10_init 39 = .ok (.aload_n 0, 1) := by decide +kernel
theorem dX10_init_40 : decode cX10_init 40 = .ok (.sipush 150, 3) := by decide +kernel
theorem dX10_init_43 : decode cX10_init 43 = .ok (.newarray .int, 2) := by decide +kernel
theorem dX10_init_45 : decode cX10_init 45 = .ok (.putfield 29, 3) := by decide +kernel
theorem dX10_init_48 : decode cX10_init 48 = .ok (.aload_n 0, 1) := by decide +kernel
theorem dX10_init_49 : decode cX10_init 49 = .ok (.sipush 150, 3) := by decide +kernel
theorem dX10_init_52 : decode cX10_init 52 = .ok (.newarray .int, 2) := by decide +kernel
theorem dX10_init_54 : decode cX10_init 54 = .ok (.putfield 32, 3) := by decide +kernel
theorem dX10_init_57 : decode cX10_init 57 = .ok (.aload_n 0, 1) := by decide +kernel
theorem dX10_init_58 : decode cX10_init 58 = .ok (.sipush 150, 3) := by decide +kernel
theorem dX10_init_61 : decode cX10_init 61 = .ok (.newarray .int, 2) := by decide +kernel
theorem dX10_init_63 : decode cX10_init 63 = .ok (.putfield 35, 3) := by decide +kernel
theorem dX10_init_66 : decode cX10_init 66 = .ok (.aload_n 0, 1) := by decide +kernel
theorem dX10_init_67 : decode cX10_init 67 = .ok (.sipush 150, 3) := by decide +kernel
theorem dX10_init_70 : decode cX10_init 70 = .ok (.newarray .int, 2) := by decide +kernel
theorem dX10_init_72 : decode cX10_init 72 = .ok (.putfield 38, 3) := by decide +kernel
theorem dX10_init_75 : decode cX10_init 75 = .ok (.aload_n 0, 1) := by decide +kernel
theorem dX10_init_76 : decode cX10_init 76 = .ok (.iconst 0, 1) := by decide +kernel
theorem dX10_init_77 : decode cX10_init 77 = .ok (.putfield 41, 3) := by decide +kernel
theorem dX10_init_80 : decode cX10_init 80 = .ok (.return_, 1) := by decide +kernel
theorem dX10_size_0 : decode cX10_size 0 = .ok (.aload_n 0, 1) := by decide +kernel
theorem dX10_size_1 : decode cX10_size 1 = .ok (.getfield 22, 3) := by decide +kernel
theorem dX10_size_4 : decode cX10_size 4 = .ok (.ireturn, 1) := by decide +kernel
theorem dX10_records_0 : decode cX10_records 0 = .ok (.aload_n 0, 1) := by decide +kernel
theorem dX10_records_1 : decode cX10_records 1 = .ok (.getfield 41, 3) := by decide +kernel
theorem dX10_records_4 : decode cX10_records 4 = .ok (.ireturn, 1) := by decide +kernel
theorem dX10_has_0 : decode cX10_has 0 = .ok (.iload_n 1, 1) := by decide +kernel
theorem dX10_has_1 : decode cX10_has 1 = .ok (.ifCond .lt 15, 3) := by decide +kernel
theorem dX10_has_4 : decode cX10_has 4 = .ok (.iload_n 1, 1) := by decide +kernel
theorem dX10_has_5 : decode cX10_has 5 = .ok (.aload_n 0, 1) := by decide +kernel
theorem dX10_has_6 : decode cX10_has 6 = .ok (.getfield 22, 3) := by decide +kernel
theorem dX10_has_9 : decode cX10_has 9 = .ok (.if_icmp .ge 7, 3) := by decide +kernel
theorem dX10_has_12 : decode cX10_has 12 = .ok (.iconst 1, 1) := by decide +kernel
theorem dX10_has_13 : decode cX10_has 13 = .ok (.goto 4, 3) := by decide +kernel
theorem dX10_has_16 : decode cX10_has 16 = .ok (.iconst 0, 1) := by decide +kernel
theorem dX10_has_17 : decode cX10_has 17 = .ok (.ireturn, 1) := by decide +kernel
theorem dX10_apexOf_0 : decode cX10_apexOf 0 = .ok (.aload_n 0, 1) := by decide +kernel
theorem dX10_apexOf_1 : decode cX10_apexOf 1 = .ok (.iload_n 1, 1) := by decide +kernel
theorem dX10_apexOf_2 : decode cX10_apexOf 2 = .ok (.invokevirtual 44, 3) := by decide +kernel
theorem dX10_apexOf_5 : decode cX10_apexOf 5 = .ok (.ifCond .eq 12, 3) := by decide +kernel
theorem dX10_apexOf_8 : decode cX10_apexOf 8 = .ok (.aload_n 0, 1) := by decide +kernel
theorem dX10_apexOf_9 : decode cX10_apexOf 9 = .ok (.getfield 15, 3) := by decide +kernel
theorem dX10_apexOf_12 : decode cX10_apexOf 12 = .ok (.iload_n 1, 1) := by decide +kernel
theorem dX10_apexOf_13 : decode cX10_apexOf 13 = .ok (.iaload, 1) := by decide +kernel
theorem dX10_apexOf_14 : decode cX10_apexOf 14 = .ok (.goto 4, 3) := by decide +kernel
theorem dX10_apexOf_17 : decode cX10_apexOf 17 = .ok (.iconst 0, 1) := by decide +kernel
theorem dX10_apexOf_18 : decode cX10_apexOf 18 = .ok (.ireturn, 1) := by decide +kernel
theorem dX10_ofApex_0 : decode cX10_ofApex 0 = .ok (.iconst 0, 1) := by decide +kernel
theorem dX10_ofApex_1 : decode cX10_ofApex 1 = .ok (.istore_n 2, 1) := by decide +kernel
theorem dX10_ofApex_2 : decode cX10_ofApex 2 = .ok (.iload_n 2, 1) := by decide +kernel
theorem dX10_ofApex_3 : decode cX10_ofApex 3 = .ok (.aload_n 0, 1) := by decide +kernel
theorem dX10_ofApex_4 : decode cX10_ofApex 4 = .ok (.getfield 22, 3) := by decide +kernel
theorem dX10_ofApex_7 : decode cX10_ofApex 7 = .ok (.if_icmp .ge 21, 3) := by decide +kernel
theorem dX10_ofApex_10 : decode cX10_ofApex 10 = .ok (.aload_n 0, 1) := by decide +kernel
theorem dX10_ofApex_11 : decode cX10_ofApex 11 = .ok (.getfield 15, 3) := by decide +kernel
theorem dX10_ofApex_14 : decode cX10_ofApex 14 = .ok (.iload_n 2, 1) := by decide +kernel
theorem dX10_ofApex_15 : decode cX10_ofApex 15 = .ok (.iaload, 1) := by decide +kernel
theorem dX10_ofApex_16 : decode cX10_ofApex 16 = .ok (.iload_n 1, 1) := by decide +kernel
theorem dX10_ofApex_17 : decode cX10_ofApex 17 = .ok (.if_icmp .ne 5, 3) := by decide +kernel
theorem dX10_ofApex_20 : decode cX10_ofApex 20 = .ok (.iload_n 2, 1) := by decide +kernel
theorem dX10_ofApex_21 : decode cX10_ofApex 21 = .ok (.ireturn, 1) := by decide +kernel
theorem dX10_ofApex_22 : decode cX10_ofApex 22 = .ok (.iinc 2 1, 3) := by decide +kernel
theorem dX10_ofApex_25 : decode cX10_ofApex 25 = .ok (.goto (-23), 3) := by decide +kernel
theorem dX10_ofApex_28 : decode cX10_ofApex 28 = .ok (.iconst (-1), 1) := by decide +kernel
theorem dX10_ofApex_29 : decode cX10_ofApex 29 = .ok (.ireturn, 1) := by decide +kernel
theorem dX10_open_0 : decode cX10_open 0 = .ok (.aload_n 0, 1) := by decide +kernel
theorem dX10_open_1 : decode cX10_open 1 = .ok (.getfield 22, 3) := by decide +kernel
theorem dX10_open_4 : decode cX10_open 4 = .ok (.bipush 12, 2) := by decide +kernel
theorem dX10_open_6 : decode cX10_open 6 = .ok (.if_icmp .lt 5, 3) := by decide +kernel
theorem dX10_open_9 : decode cX10_open 9 = .ok (.iconst (-1), 1) := by decide +kernel
theorem dX10_open_10 : decode cX10_open 10 = .ok (.ireturn, 1) := by decide +kernel
theorem dX10_open_11 : decode cX10_open 11 = .ok (.aload_n 0, 1) := by decide +kernel
theorem dX10_open_12 : decode cX10_open 12 = .ok (.getfield 15, 3) := by decide +kernel
theorem dX10_open_15 : decode cX10_open 15 = .ok (.aload_n 0, 1) := by decide +kernel
theorem dX10_open_16 : decode cX10_open 16 = .ok (.getfield 22, 3) := by decide +kernel
theorem dX10_open_19 : decode cX10_open 19 = .ok (.iload_n 1, 1) := by decide +kernel
theorem dX10_open_20 : decode cX10_open 20 = .ok (.iastore, 1) := by decide +kernel
theorem dX10_open_21 : decode cX10_open 21 = .ok (.aload_n 0, 1) := by decide +kernel
theorem dX10_open_22 : decode cX10_open 22 = .ok (.getfield 19, 3) := by decide +kernel
theorem dX10_open_25 : decode cX10_open 25 = .ok (.aload_n 0, 1) := by decide +kernel
theorem dX10_open_26 : decode cX10_open 26 = .ok (.getfield 22, 3) := by decide +kernel
theorem dX10_open_29 : decode cX10_open 29 = .ok (.iload_n 2, 1) := by decide +kernel
theorem dX10_open_30 : decode cX10_open 30 = .ok (.iastore, 1) := by decide +kernel
theorem dX10_open_31 : decode cX10_open 31 = .ok (.aload_n 0, 1) := by decide +kernel
theorem dX10_open_32 : decode cX10_open 32 = .ok (.dup, 1) := by decide +kernel
theorem dX10_open_33 : decode cX10_open 33 = .ok (.getfield 22, 3) := by decide +kernel
theorem dX10_open_36 : decode cX10_open 36 = .ok (.iconst 1, 1) := by decide +kernel
theorem dX10_open_37 : decode cX10_open 37 = .ok (.iadd, 1) := by decide +kernel
theorem dX10_open_38 : decode cX10_open 38 = .ok (.putfield 22, 3) := by decide +kernel
theorem dX10_open_41 : decode cX10_open 41 = .ok (.aload_n 0, 1) := by decide +kernel
theorem dX10_open_42 : decode cX10_open 42 = .ok (.getfield 22, 3) := by decide +kernel
theorem dX10_open_45 : decode cX10_open 45 = .ok (.iconst 1, 1) := by decide +kernel
theorem dX10_open_46 : decode cX10_open 46 = .ok (.isub, 1) := by decide +kernel
theorem dX10_open_47 : decode cX10_open 47 = .ok (.ireturn, 1) := by decide +kernel
theorem dX10_add_0 : decode cX10_add 0 = .ok (.aload_n 0, 1) := by decide +kernel
theorem dX10_add_1 : decode cX10_add 1 = .ok (.getfield 41, 3) := by decide +kernel
theorem dX10_add_4 : decode cX10_add 4 = .ok (.sipush 150, 3) := by decide +kernel
theorem dX10_add_7 : decode cX10_add 7 = .ok (.if_icmp .lt 4, 3) := by decide +kernel
theorem dX10_add_10 : decode cX10_add 10 = .ok (.return_, 1) := by decide +kernel
theorem dX10_add_11 : decode cX10_add 11 = .ok (.aload_n 0, 1) := by decide +kernel
theorem dX10_add_12 : decode cX10_add 12 = .ok (.getfield 26, 3) := by decide +kernel
theorem dX10_add_15 : decode cX10_add 15 = .ok (.aload_n 0, 1) := by decide +kernel
theorem dX10_add_16 : decode cX10_add 16 = .ok (.getfield 41, 3) := by decide +kernel
theorem dX10_add_19 : decode cX10_add 19 = .ok (.iload_n 1, 1) := by decide +kernel
theorem dX10_add_20 : decode cX10_add 20 = .ok (.iastore, 1) := by decide +kernel
theorem dX10_add_21 : decode cX10_add 21 = .ok (.aload_n 0, 1) := by decide +kernel
theorem dX10_add_22 : decode cX10_add 22 = .ok (.getfield 29, 3) := by decide +kernel
theorem dX10_add_25 : decode cX10_add 25 = .ok (.aload_n 0, 1) := by decide +kernel
theorem dX10_add_26 : decode cX10_add 26 = .ok (.getfield 41, 3) := by decide +kernel
theorem dX10_add_29 : decode cX10_add 29 = .ok (.iload_n 2, 1) := by decide +kernel
theorem dX10_add_30 : decode cX10_add 30 = .ok (.iastore, 1) := by decide +kernel
theorem dX10_add_31 : decode cX10_add 31 = .ok (.aload_n 0, 1) := by decide +kernel
theorem dX10_add_32 : decode cX10_add 32 = .ok (.getfield 32, 3) := by decide +kernel
theorem dX10_add_35 : decode cX10_add 35 = .ok (.aload_n 0, 1) := by decide +kernel
theorem dX10_add_36 : decode cX10_add 36 = .ok (.getfield 41, 3) := by decide +kernel
theorem dX10_add_39 : decode cX10_add 39 = .ok (.iload_n 3, 1) := by decide +kernel
theorem dX10_add_40 : decode cX10_add 40 = .ok (.iastore, 1) := by decide +kernel
theorem dX10_add_41 : decode cX10_add 41 = .ok (.aload_n 0, 1) := by decide +kernel
theorem dX10_add_42 : decode cX10_add 42 = .ok (.getfield 35, 3) := by decide +kernel
theorem dX10_add_45 : decode cX10_add 45 = .ok (.aload_n 0, 1) := by decide +kernel
theorem dX10_add_46 : decode cX10_add 46 = .ok (.getfield 41, 3) := by decide +kernel
theorem dX10_add_49 : decode cX10_add 49 = .ok (.iload 4, 2) := by decide +kernel
theorem dX10_add_51 : decode cX10_add 51 = .ok (.iastore, 1) := by decide +kernel
theorem dX10_add_52 : decode cX10_add 52 = .ok (.aload_n 0, 1) := by decide +kernel
theorem dX10_add_53 : decode cX10_add 53 = .ok (.getfield 38, 3) := by decide +kernel
theorem dX10_add_56 : decode cX10_add 56 = .ok (.aload_n 0, 1) := by decide +kernel
theorem dX10_add_57 : decode cX10_add 57 = .ok (.getfield 41, 3) := by decide +kernel
theorem dX10_add_60 : decode cX10_add 60 = .ok (.iload 5, 2) := by decide +kernel
theorem dX10_add_62 : decode cX10_add 62 = .ok (.iastore, 1) := by decide +kernel
theorem dX10_add_63 : decode cX10_add 63 = .ok (.aload_n 0, 1) := by decide +kernel
theorem dX10_add_64 : decode cX10_add 64 = .ok (.dup, 1) := by decide +kernel
theorem dX10_add_65 : decode cX10_add 65 = .ok (.getfield 41, 3) := by decide +kernel
theorem dX10_add_68 : decode cX10_add 68 = .ok (.iconst 1, 1) := by decide +kernel
theorem dX10_add_69 : decode cX10_add 69 = .ok (.iadd, 1) := by decide +kernel
theorem dX10_add_70 : decode cX10_add 70 = .ok (.putfield 41, 3) := by decide +kernel
theorem dX10_add_73 : decode cX10_add 73 = .ok (.return_, 1) := by decide +kernel
theorem dX10_recordsOf_0 : decode cX10_recordsOf 0 = .ok (.iconst 0, 1) := by decide +kernel
theorem dX10_recordsOf_1 : decode cX10_recordsOf 1 = .ok (.istore_n 2, 1) := by decide +kernel
theorem dX10_recordsOf_2 : decode cX10_recordsOf 2 = .ok (.iconst 0, 1) := by decide +kernel
theorem dX10_recordsOf_3 : decode cX10_recordsOf 3 = .ok (.istore_n 3, 1) := by decide +kernel
theorem dX10_recordsOf_4 : decode cX10_recordsOf 4 = .ok (.iload_n 3, 1) := by decide +kernel
theorem dX10_recordsOf_5 : decode cX10_recordsOf 5 = .ok (.aload_n 0, 1) := by decide +kernel
theorem dX10_recordsOf_6 : decode cX10_recordsOf 6 = .ok (.getfield 41, 3) := by decide +kernel
theorem dX10_recordsOf_9 : decode cX10_recordsOf 9 = .ok (.if_icmp .ge 22, 3) := by decide +kernel
theorem dX10_recordsOf_12 : decode cX10_recordsOf 12 = .ok (.aload_n 0, 1) := by decide +kernel
theorem dX10_recordsOf_13 : decode cX10_recordsOf 13 = .ok (.getfield 26, 3) := by decide +kernel
theorem dX10_recordsOf_16 : decode cX10_recordsOf 16 = .ok (.iload_n 3, 1) := by decide +kernel
theorem dX10_recordsOf_17 : decode cX10_recordsOf 17 = .ok (.iaload, 1) := by decide +kernel
theorem dX10_recordsOf_18 : decode cX10_recordsOf 18 = .ok (.iload_n 1, 1) := by decide +kernel
theorem dX10_recordsOf_19 : decode cX10_recordsOf 19 = .ok (.if_icmp .ne 6, 3) := by decide +kernel
theorem dX10_recordsOf_22 : decode cX10_recordsOf 22 = .ok (.iinc 2 1, 3) := by decide +kernel
theorem dX10_recordsOf_25 : decode cX10_recordsOf 25 = .ok (.iinc 3 1, 3) := by decide +kernel
theorem dX10_recordsOf_28 : decode cX10_recordsOf 28 = .ok (.goto (-24), 3) := by decide +kernel
theorem dX10_recordsOf_31 : decode cX10_recordsOf 31 = .ok (.iload_n 2, 1) := by decide +kernel
theorem dX10_recordsOf_32 : decode cX10_recordsOf 32 = .ok (.ireturn, 1) := by decide +kernel
theorem dX10_remove_0 : decode cX10_remove 0 = .ok (.aload_n 0, 1) := by decide +kernel
theorem dX10_remove_1 : decode cX10_remove 1 = .ok (.getfield 41, 3) := by decide +kernel
theorem dX10_remove_4 : decode cX10_remove 4 = .ok (.istore 4, 2) := by decide +kernel
theorem dX10_remove_6 : decode cX10_remove 6 = .ok (.iconst 0, 1) := by decide +kernel
theorem dX10_remove_7 : decode cX10_remove 7 = .ok (.istore 5, 2) := by decide +kernel
theorem dX10_remove_9 : decode cX10_remove 9 = .ok (.iconst 0, 1) := by decide +kernel
theorem dX10_remove_10 : decode cX10_remove 10 = .ok (.istore 6, 2) := by decide +kernel
theorem dX10_remove_12 : decode cX10_remove 12 = .ok (.iload 6, 2) := by decide +kernel
theorem dX10_remove_14 : decode cX10_remove 14 = .ok (.iload 4, 2) := by decide +kernel
theorem dX10_remove_16 : decode cX10_remove 16 = .ok (.if_icmp .ge 94, 3) := by decide +kernel
theorem dX10_remove_19 : decode cX10_remove 19 = .ok (.aload_n 0, 1) := by decide +kernel
theorem dX10_remove_20 : decode cX10_remove 20 = .ok (.iload 6, 2) := by decide +kernel
theorem dX10_remove_22 : decode cX10_remove 22 = .ok (.iload_n 1, 1) := by decide +kernel
theorem dX10_remove_23 : decode cX10_remove 23 = .ok (.iload_n 2, 1) := by decide +kernel
theorem dX10_remove_24 : decode cX10_remove 24 = .ok (.iload_n 3, 1) := by decide +kernel
theorem dX10_remove_25 : decode cX10_remove 25 = .ok (.invokevirtual 48, 3) := by decide +kernel
theorem dX10_remove_28 : decode cX10_remove 28 = .ok (.ifCond .ne 76, 3) := by decide +kernel
theorem dX10_remove_31 : decode cX10_remove 31 = .ok (.aload_n 0, 1) := by decide +kernel
theorem dX10_remove_32 : decode cX10_remove 32 = .ok (.getfield 26, 3) := by decide +kernel
theorem dX10_remove_35 : decode cX10_remove 35 = .ok (.iload 5, 2) := by decide +kernel
theorem dX10_remove_37 : decode cX10_remove 37 = .ok (.aload_n 0, 1) := by decide +kernel
theorem dX10_remove_38 : decode cX10_remove 38 = .ok (.getfield 26, 3) := by decide +kernel
theorem dX10_remove_41 : decode cX10_remove 41 = .ok (.iload 6, 2) := by decide +kernel
theorem dX10_remove_43 : decode cX10_remove 43 = .ok (.iaload, 1) := by decide +kernel
theorem dX10_remove_44 : decode cX10_remove 44 = .ok (.iastore, 1) := by decide +kernel
theorem dX10_remove_45 : decode cX10_remove 45 = .ok (.aload_n 0, 1) := by decide +kernel
theorem dX10_remove_46 : decode cX10_remove 46 = .ok (.getfield 29, 3) := by decide +kernel
theorem dX10_remove_49 : decode cX10_remove 49 = .ok (.iload 5, 2) := by decide +kernel
theorem dX10_remove_51 : decode cX10_remove 51 = .ok (.aload_n 0, 1) := by decide +kernel
theorem dX10_remove_52 : decode cX10_remove 52 = .ok (.getfield 29, 3) := by decide +kernel
theorem dX10_remove_55 : decode cX10_remove 55 = .ok (.iload 6, 2) := by decide +kernel
theorem dX10_remove_57 : decode cX10_remove 57 = .ok (.iaload, 1) := by decide +kernel
theorem dX10_remove_58 : decode cX10_remove 58 = .ok (.iastore, 1) := by decide +kernel
theorem dX10_remove_59 : decode cX10_remove 59 = .ok (.aload_n 0, 1) := by decide +kernel
theorem dX10_remove_60 : decode cX10_remove 60 = .ok (.getfield 32, 3) := by decide +kernel
theorem dX10_remove_63 : decode cX10_remove 63 = .ok (.iload 5, 2) := by decide +kernel
theorem dX10_remove_65 : decode cX10_remove 65 = .ok (.aload_n 0, 1) := by decide +kernel
theorem dX10_remove_66 : decode cX10_remove 66 = .ok (.getfield 32, 3) := by decide +kernel
theorem dX10_remove_69 : decode cX10_remove 69 = .ok (.iload 6, 2) := by decide +kernel
theorem dX10_remove_71 : decode cX10_remove 71 = .ok (.iaload, 1) := by decide +kernel
theorem dX10_remove_72 : decode cX10_remove 72 = .ok (.iastore, 1) := by decide +kernel
theorem dX10_remove_73 : decode cX10_remove 73 = .ok (.aload_n 0, 1) := by decide +kernel
theorem dX10_remove_74 : decode cX10_remove 74 = .ok (.getfield 35, 3) := by decide +kernel
theorem dX10_remove_77 : decode cX10_remove 77 = .ok (.iload 5, 2) := by decide +kernel
theorem dX10_remove_79 : decode cX10_remove 79 = .ok (.aload_n 0, 1) := by decide +kernel
theorem dX10_remove_80 : decode cX10_remove 80 = .ok (.getfield 35, 3) := by decide +kernel
theorem dX10_remove_83 : decode cX10_remove 83 = .ok (.iload 6, 2) := by decide +kernel
theorem dX10_remove_85 : decode cX10_remove 85 = .ok (.iaload, 1) := by decide +kernel
theorem dX10_remove_86 : decode cX10_remove 86 = .ok (.iastore, 1) := by decide +kernel
theorem dX10_remove_87 : decode cX10_remove 87 = .ok (.aload_n 0, 1) := by decide +kernel
theorem dX10_remove_88 : decode cX10_remove 88 = .ok (.getfield 38, 3) := by decide +kernel
theorem dX10_remove_91 : decode cX10_remove 91 = .ok (.iload 5, 2) := by decide +kernel
theorem dX10_remove_93 : decode cX10_remove 93 = .ok (.aload_n 0, 1) := by decide +kernel
theorem dX10_remove_94 : decode cX10_remove 94 = .ok (.getfield 38, 3) := by decide +kernel
theorem dX10_remove_97 : decode cX10_remove 97 = .ok (.iload 6, 2) := by decide +kernel
theorem dX10_remove_99 : decode cX10_remove 99 = .ok (.iaload, 1) := by decide +kernel
theorem dX10_remove_100 : decode cX10_remove 100 = .ok (.iastore, 1) := by decide +kernel
theorem dX10_remove_101 : decode cX10_remove 101 = .ok (.iinc 5 1, 3) := by decide +kernel
theorem dX10_remove_104 : decode cX10_remove 104 = .ok (.iinc 6 1, 3) := by decide +kernel
theorem dX10_remove_107 : decode cX10_remove 107 = .ok (.goto (-95), 3) := by decide +kernel
theorem dX10_remove_110 : decode cX10_remove 110 = .ok (.aload_n 0, 1) := by decide +kernel
theorem dX10_remove_111 : decode cX10_remove 111 = .ok (.iload 5, 2) := by decide +kernel
theorem dX10_remove_113 : decode cX10_remove 113 = .ok (.putfield 41, 3) := by decide +kernel
theorem dX10_remove_116 : decode cX10_remove 116 = .ok (.iload 4, 2) := by decide +kernel
theorem dX10_remove_118 : decode cX10_remove 118 = .ok (.iload 5, 2) := by decide +kernel
theorem dX10_remove_120 : decode cX10_remove 120 = .ok (.isub, 1) := by decide +kernel
theorem dX10_remove_121 : decode cX10_remove 121 = .ok (.ireturn, 1) := by decide +kernel
theorem dX10_tell_0 : decode cX10_tell 0 = .ok (.aload 5, 2) := by decide +kernel
theorem dX10_tell_2 : decode cX10_tell 2 = .ok (.iload 4, 2) := by decide +kernel
theorem dX10_tell_4 : decode cX10_tell 4 = .ok (.iload_n 2, 1) := by decide +kernel
theorem dX10_tell_5 : decode cX10_tell 5 = .ok (.iload_n 3, 1) := by decide +kernel
theorem dX10_tell_6 : decode cX10_tell 6 = .ok (.invokevirtual 52, 3) := by decide +kernel
theorem dX10_tell_9 : decode cX10_tell 9 = .ok (.aload_n 0, 1) := by decide +kernel
theorem dX10_tell_10 : decode cX10_tell 10 = .ok (.iload_n 1, 1) := by decide +kernel
theorem dX10_tell_11 : decode cX10_tell 11 = .ok (.iload_n 2, 1) := by decide +kernel
theorem dX10_tell_12 : decode cX10_tell 12 = .ok (.invokevirtual 58, 3) := by decide +kernel
theorem dX10_tell_15 : decode cX10_tell 15 = .ok (.istore 6, 2) := by decide +kernel
theorem dX10_tell_17 : decode cX10_tell 17 = .ok (.iload 6, 2) := by decide +kernel
theorem dX10_tell_19 : decode cX10_tell 19 = .ok (.iconst (-1), 1) := by decide +kernel
theorem dX10_tell_20 : decode cX10_tell 20 = .ok (.if_icmp .eq 34, 3) := by decide +kernel
theorem dX10_tell_23 : decode cX10_tell 23 = .ok (.aload_n 0, 1) := by decide +kernel
theorem dX10_tell_24 : decode cX10_tell 24 = .ok (.iload_n 1, 1) := by decide +kernel
theorem dX10_tell_25 : decode cX10_tell 25 = .ok (.iload 6, 2) := by decide +kernel
theorem dX10_tell_27 : decode cX10_tell 27 = .ok (.iconst 2, 1) := by decide +kernel
theorem dX10_tell_28 : decode cX10_tell 28 = .ok (.iconst 1, 1) := by decide +kernel
theorem dX10_tell_29 : decode cX10_tell 29 = .ok (.sipush 150, 3) := by decide +kernel
theorem dX10_tell_32 : decode cX10_tell 32 = .ok (.aload 5, 2) := by decide +kernel
theorem dX10_tell_34 : decode cX10_tell 34 = .ok (.invokevirtual 62, 3) := by decide +kernel
theorem dX10_tell_37 : decode cX10_tell 37 = .ok (.pop, 1) := by decide +kernel
theorem dX10_tell_38 : decode cX10_tell 38 = .ok (.aload_n 0, 1) := by decide +kernel
theorem dX10_tell_39 : decode cX10_tell 39 = .ok (.iload_n 1, 1) := by decide +kernel
theorem dX10_tell_40 : decode cX10_tell 40 = .ok (.iload 6, 2) := by decide +kernel
theorem dX10_tell_42 : decode cX10_tell 42 = .ok (.aload 5, 2) := by decide +kernel
theorem dX10_tell_44 : decode cX10_tell 44 = .ok (.invokevirtual 66, 3) := by decide +kernel
theorem dX10_tell_47 : decode cX10_tell 47 = .ok (.aload 5, 2) := by decide +kernel
theorem dX10_tell_49 : decode cX10_tell 49 = .ok (.iconst 0, 1) := by decide +kernel
theorem dX10_tell_50 : decode cX10_tell 50 = .ok (.invokevirtual 70, 3) := by decide +kernel
theorem dX10_tell_53 : decode cX10_tell 53 = .ok (.ireturn, 1) := by decide +kernel
theorem dX10_tell_54 : decode cX10_tell 54 = .ok (.iload_n 3, 1) := by decide +kernel
theorem dX10_tell_55 : decode cX10_tell 55 = .ok (.iconst 5, 1) := by decide +kernel
theorem dX10_tell_56 : decode cX10_tell 56 = .ok (.if_icmp .eq 17, 3) := by decide +kernel
theorem dX10_tell_59 : decode cX10_tell 59 = .ok (.aload_n 0, 1) := by decide +kernel
theorem dX10_tell_60 : decode cX10_tell 60 = .ok (.iload_n 1, 1) := by decide +kernel
theorem dX10_tell_61 : decode cX10_tell 61 = .ok (.iload_n 2, 1) := by decide +kernel
theorem dX10_tell_62 : decode cX10_tell 62 = .ok (.iconst 5, 1) := by decide +kernel
theorem dX10_tell_63 : decode cX10_tell 63 = .ok (.invokevirtual 73, 3) := by decide +kernel
theorem dX10_tell_66 : decode cX10_tell 66 = .ok (.ifCond .eq 7, 3) := by decide +kernel
theorem dX10_tell_69 : decode cX10_tell 69 = .ok (.iconst 1, 1) := by decide +kernel
theorem dX10_tell_70 : decode cX10_tell 70 = .ok (.goto 4, 3) := by decide +kernel
theorem dX10_tell_73 : decode cX10_tell 73 = .ok (.iconst 0, 1) := by decide +kernel
theorem dX10_tell_74 : decode cX10_tell 74 = .ok (.istore 7, 2) := by decide +kernel
theorem dX10_tell_76 : decode cX10_tell 76 = .ok (.iload 7, 2) := by decide +kernel
theorem dX10_tell_78 : decode cX10_tell 78 = .ok (.ifCond .eq 17, 3) := by decide +kernel
theorem dX10_tell_81 : decode cX10_tell 81 = .ok (.aload_n 0, 1) := by decide +kernel
theorem dX10_tell_82 : decode cX10_tell 82 = .ok (.iload_n 1, 1) := by decide +kernel
theorem dX10_tell_83 : decode cX10_tell 83 = .ok (.iload_n 2, 1) := by decide +kernel
theorem dX10_tell_84 : decode cX10_tell 84 = .ok (.iconst 5, 1) := by decide +kernel
theorem dX10_tell_85 : decode cX10_tell 85 = .ok (.iconst 0, 1) := by decide +kernel
theorem dX10_tell_86 : decode cX10_tell 86 = .ok (.iconst 1, 1) := by decide +kernel
theorem dX10_tell_87 : decode cX10_tell 87 = .ok (.aload 5, 2) := by decide +kernel
theorem dX10_tell_89 : decode cX10_tell 89 = .ok (.invokevirtual 62, 3) := by decide +kernel
theorem dX10_tell_92 : decode cX10_tell 92 = .ok (.goto 16, 3) := by decide +kernel
theorem dX10_tell_95 : decode cX10_tell 95 = .ok (.aload_n 0, 1) := by decide +kernel
theorem dX10_tell_96 : decode cX10_tell 96 = .ok (.iload_n 1, 1) := by decide +kernel
theorem dX10_tell_97 : decode cX10_tell 97 = .ok (.iload_n 2, 1) := by decide +kernel
theorem dX10_tell_98 : decode cX10_tell 98 = .ok (.iload_n 3, 1) := by decide +kernel
theorem dX10_tell_99 : decode cX10_tell 99 = .ok (.iconst 0, 1) := by decide +kernel
theorem dX10_tell_100 : decode cX10_tell 100 = .ok (.sipush 150, 3) := by decide +kernel
theorem dX10_tell_103 : decode cX10_tell 103 = .ok (.aload 5, 2) := by decide +kernel
theorem dX10_tell_105 : decode cX10_tell 105 = .ok (.invokevirtual 62, 3) := by decide +kernel
theorem dX10_tell_108 : decode cX10_tell 108 = .ok (.istore 8, 2) := by decide +kernel
theorem dX10_tell_110 : decode cX10_tell 110 = .ok (.iload 8, 2) := by decide +kernel
theorem dX10_tell_112 : decode cX10_tell 112 = .ok (.ifCond .le 12, 3) := by decide +kernel
theorem dX10_tell_115 : decode cX10_tell 115 = .ok (.aload 5, 2) := by decide +kernel
theorem dX10_tell_117 : decode cX10_tell 117 = .ok (.sipush 1024, 3) := by decide +kernel
theorem dX10_tell_120 : decode cX10_tell 120 = .ok (.invokevirtual 70, 3) := by decide +kernel
theorem dX10_tell_123 : decode cX10_tell 123 = .ok (.ireturn, 1) := by decide +kernel
theorem dX10_tell_124 : decode cX10_tell 124 = .ok (.aload 5, 2) := by decide +kernel
theorem dX10_tell_126 : decode cX10_tell 126 = .ok (.aload_n 0, 1) := by decide +kernel
theorem dX10_tell_127 : decode cX10_tell 127 = .ok (.iload_n 1, 1) := by decide +kernel
theorem dX10_tell_128 : decode cX10_tell 128 = .ok (.invokevirtual 77, 3) := by decide +kernel
theorem dX10_tell_131 : decode cX10_tell 131 = .ok (.aload_n 0, 1) := by decide +kernel
theorem dX10_tell_132 : decode cX10_tell 132 = .ok (.iload_n 1, 1) := by decide +kernel
theorem dX10_tell_133 : decode cX10_tell 133 = .ok (.invokevirtual 44, 3) := by decide +kernel
theorem dX10_tell_136 : decode cX10_tell 136 = .ok (.ifCond .eq 12, 3) := by decide +kernel
theorem dX10_tell_139 : decode cX10_tell 139 = .ok (.aload_n 0, 1) := by decide +kernel
theorem dX10_tell_140 : decode cX10_tell 140 = .ok (.getfield 19, 3) := by decide +kernel
theorem dX10_tell_143 : decode cX10_tell 143 = .ok (.iload_n 1, 1) := by decide +kernel
theorem dX10_tell_144 : decode cX10_tell 144 = .ok (.iaload, 1) := by decide +kernel
theorem dX10_tell_145 : decode cX10_tell 145 = .ok (.goto 4, 3) := by decide +kernel
theorem dX10_tell_148 : decode cX10_tell 148 = .ok (.iconst 1, 1) := by decide +kernel
theorem dX10_tell_149 : decode cX10_tell 149 = .ok (.invokevirtual 81, 3) := by decide +kernel
theorem dX10_tell_152 : decode cX10_tell 152 = .ok (.aload 5, 2) := by decide +kernel
theorem dX10_tell_154 : decode cX10_tell 154 = .ok (.aload_n 0, 1) := by decide +kernel
theorem dX10_tell_155 : decode cX10_tell 155 = .ok (.iload_n 1, 1) := by decide +kernel
theorem dX10_tell_156 : decode cX10_tell 156 = .ok (.iload_n 2, 1) := by decide +kernel
theorem dX10_tell_157 : decode cX10_tell 157 = .ok (.invokevirtual 85, 3) := by decide +kernel
theorem dX10_tell_160 : decode cX10_tell 160 = .ok (.ifCond .eq 9, 3) := by decide +kernel
theorem dX10_tell_163 : decode cX10_tell 163 = .ok (.sipush 1024, 3) := by decide +kernel
theorem dX10_tell_166 : decode cX10_tell 166 = .ok (.goto 6, 3) := by decide +kernel
theorem dX10_tell_169 : decode cX10_tell 169 = .ok (.sipush 1027, 3) := by decide +kernel
theorem dX10_tell_172 : decode cX10_tell 172 = .ok (.invokevirtual 70, 3) := by decide +kernel
theorem dX10_tell_175 : decode cX10_tell 175 = .ok (.ireturn, 1) := by decide +kernel
theorem dX10_isOf_0 : decode cX10_isOf 0 = .ok (.aload_n 0, 1) := by decide +kernel
theorem dX10_isOf_1 : decode cX10_isOf 1 = .ok (.getfield 26, 3) := by decide +kernel
theorem dX10_isOf_4 : decode cX10_isOf 4 = .ok (.iload_n 1, 1) := by decide +kernel
theorem dX10_isOf_5 : decode cX10_isOf 5 = .ok (.iaload, 1) := by decide +kernel
theorem dX10_isOf_6 : decode cX10_isOf 6 = .ok (.iload_n 2, 1) := by decide +kernel
theorem dX10_isOf_7 : decode cX10_isOf 7 = .ok (.if_icmp .ne 28, 3) := by decide +kernel
theorem dX10_isOf_10 : decode cX10_isOf 10 = .ok (.aload_n 0, 1) := by decide +kernel
theorem dX10_isOf_11 : decode cX10_isOf 11 = .ok (.getfield 29, 3) := by decide +kernel
theorem dX10_isOf_14 : decode cX10_isOf 14 = .ok (.iload_n 1, 1) := by decide +kernel
theorem dX10_isOf_15 : decode cX10_isOf 15 = .ok (.iaload, 1) := by decide +kernel
theorem dX10_isOf_16 : decode cX10_isOf 16 = .ok (.iload_n 3, 1) := by decide +kernel
theorem dX10_isOf_17 : decode cX10_isOf 17 = .ok (.if_icmp .ne 18, 3) := by decide +kernel
theorem dX10_isOf_20 : decode cX10_isOf 20 = .ok (.aload_n 0, 1) := by decide +kernel
theorem dX10_isOf_21 : decode cX10_isOf 21 = .ok (.getfield 32, 3) := by decide +kernel
theorem dX10_isOf_24 : decode cX10_isOf 24 = .ok (.iload_n 1, 1) := by decide +kernel
theorem dX10_isOf_25 : decode cX10_isOf 25 = .ok (.iaload, 1) := by decide +kernel
theorem dX10_isOf_26 : decode cX10_isOf 26 = .ok (.iload 4, 2) := by decide +kernel
theorem dX10_isOf_28 : decode cX10_isOf 28 = .ok (.if_icmp .ne 7, 3) := by decide +kernel
theorem dX10_isOf_31 : decode cX10_isOf 31 = .ok (.iconst 1, 1) := by decide +kernel
theorem dX10_isOf_32 : decode cX10_isOf 32 = .ok (.goto 4, 3) := by decide +kernel
theorem dX10_isOf_35 : decode cX10_isOf 35 = .ok (.iconst 0, 1) := by decide +kernel
theorem dX10_isOf_36 : decode cX10_isOf 36 = .ok (.ireturn, 1) := by decide +kernel
theorem dX10_owns_0 : decode cX10_owns 0 = .ok (.iconst 0, 1) := by decide +kernel
theorem dX10_owns_1 : decode cX10_owns 1 = .ok (.istore 4, 2) := by decide +kernel
theorem dX10_owns_3 : decode cX10_owns 3 = .ok (.iload 4, 2) := by decide +kernel
theorem dX10_owns_5 : decode cX10_owns 5 = .ok (.aload_n 0, 1) := by decide +kernel
theorem dX10_owns_6 : decode cX10_owns 6 = .ok (.getfield 41, 3) := by decide +kernel
theorem dX10_owns_9 : decode cX10_owns 9 = .ok (.if_icmp .ge 23, 3) := by decide +kernel
theorem dX10_owns_12 : decode cX10_owns 12 = .ok (.aload_n 0, 1) := by decide +kernel
theorem dX10_owns_13 : decode cX10_owns 13 = .ok (.iload 4, 2) := by decide +kernel
theorem dX10_owns_15 : decode cX10_owns 15 = .ok (.iload_n 1, 1) := by decide +kernel
theorem dX10_owns_16 : decode cX10_owns 16 = .ok (.iload_n 2, 1) := by decide +kernel
theorem dX10_owns_17 : decode cX10_owns 17 = .ok (.iload_n 3, 1) := by decide +kernel
theorem dX10_owns_18 : decode cX10_owns 18 = .ok (.invokevirtual 48, 3) := by decide +kernel
theorem dX10_owns_21 : decode cX10_owns 21 = .ok (.ifCond .eq 5, 3) := by decide +kernel
theorem dX10_owns_24 : decode cX10_owns 24 = .ok (.iconst 1, 1) := by decide +kernel
theorem dX10_owns_25 : decode cX10_owns 25 = .ok (.ireturn, 1) := by decide +kernel
theorem dX10_owns_26 : decode cX10_owns 26 = .ok (.iinc 4 1, 3) := by decide +kernel
theorem dX10_owns_29 : decode cX10_owns 29 = .ok (.goto (-26), 3) := by decide +kernel
theorem dX10_owns_32 : decode cX10_owns 32 = .ok (.iconst 0, 1) := by decide +kernel
theorem dX10_owns_33 : decode cX10_owns 33 = .ok (.ireturn, 1) := by decide +kernel
theorem dX10_highestCut_0 : decode cX10_highestCut 0 = .ok (.iconst (-1), 1) := by decide +kernel
theorem dX10_highestCut_1 : decode cX10_highestCut 1 = .ok (.istore_n 3, 1) := by decide +kernel
theorem dX10_highestCut_2 : decode cX10_highestCut 2 = .ok (.iload_n 2, 1) := by decide +kernel
theorem dX10_highestCut_3 : decode cX10_highestCut 3 = .ok (.istore 4, 2) := by decide +kernel
theorem dX10_highestCut_5 : decode cX10_highestCut 5 = .ok (.iconst 0, 1) := by decide +kernel
theorem dX10_highestCut_6 : decode cX10_highestCut 6 = .ok (.istore 5, 2) := by decide +kernel
theorem dX10_highestCut_8 : decode cX10_highestCut 8 = .ok (.iload 5, 2) := by decide +kernel
theorem dX10_highestCut_10 : decode cX10_highestCut 10 = .ok (.bipush 6, 2) := by decide +kernel
theorem dX10_highestCut_12 : decode cX10_highestCut 12 = .ok (.if_icmp .ge 44, 3) := by decide +kernel
theorem dX10_highestCut_15 : decode cX10_highestCut 15 = .ok (.iload 4, 2) := by decide +kernel
theorem dX10_highestCut_17 : decode cX10_highestCut 17 = .ok (.aload_n 0, 1) := by decide +kernel
theorem dX10_highestCut_18 : decode cX10_highestCut 18 = .ok (.iload_n 1, 1) := by decide +kernel
theorem dX10_highestCut_19 : decode cX10_highestCut 19 = .ok (.invokevirtual 77, 3) := by decide +kernel
theorem dX10_highestCut_22 : decode cX10_highestCut 22 = .ok (.if_icmp .eq 34, 3) := by decide +kernel
theorem dX10_highestCut_25 : decode cX10_highestCut 25 = .ok (.aload_n 0, 1) := by decide +kernel
theorem dX10_highestCut_26 : decode cX10_highestCut 26 = .ok (.iload_n 1, 1) := by decide +kernel
theorem dX10_highestCut_27 : decode cX10_highestCut 27 = .ok (.iload 4, 2) := by decide +kernel
theorem dX10_highestCut_29 : decode cX10_highestCut 29 = .ok (.iconst 2, 1) := by decide +kernel
theorem dX10_highestCut_30 : decode cX10_highestCut 30 = .ok (.invokevirtual 73, 3) := by decide +kernel
theorem dX10_highestCut_33 : decode cX10_highestCut 33 = .ok (.ifCond .eq 6, 3) := by decide +kernel
theorem dX10_highestCut_36 : decode cX10_highestCut 36 = .ok (.iload 4, 2) := by decide +kernel
theorem dX10_highestCut_38 : decode cX10_highestCut 38 = .ok (.istore_n 3, 1) := by decide +kernel
theorem dX10_highestCut_39 : decode cX10_highestCut 39 = .ok (.aload_n 0, 1) := by decide +kernel
theorem dX10_highestCut_40 : decode cX10_highestCut 40 = .ok (.getfield 9, 3) := by decide +kernel
theorem dX10_highestCut_43 : decode cX10_highestCut 43 = .ok (.iload 4, 2) := by decide +kernel
theorem dX10_highestCut_45 : decode cX10_highestCut 45 = .ok (.invokevirtual 89, 3) := by decide +kernel
theorem dX10_highestCut_48 : decode cX10_highestCut 48 = .ok (.istore 4, 2) := by decide +kernel
theorem dX10_highestCut_50 : decode cX10_highestCut 50 = .ok (.iinc 5 1, 3) := by decide +kernel
theorem dX10_highestCut_53 : decode cX10_highestCut 53 = .ok (.goto (-45), 3) := by decide +kernel
theorem dX10_highestCut_56 : decode cX10_highestCut 56 = .ok (.iload_n 3, 1) := by decide +kernel
theorem dX10_highestCut_57 : decode cX10_highestCut 57 = .ok (.ireturn, 1) := by decide +kernel
theorem dX10_isThere_0 : decode cX10_isThere 0 = .ok (.iload_n 2, 1) := by decide +kernel
theorem dX10_isThere_1 : decode cX10_isThere 1 = .ok (.aload_n 0, 1) := by decide +kernel
theorem dX10_isThere_2 : decode cX10_isThere 2 = .ok (.iload_n 1, 1) := by decide +kernel
theorem dX10_isThere_3 : decode cX10_isThere 3 = .ok (.invokevirtual 77, 3) := by decide +kernel
theorem dX10_isThere_6 : decode cX10_isThere 6 = .ok (.if_icmp .ne 5, 3) := by decide +kernel
theorem dX10_isThere_9 : decode cX10_isThere 9 = .ok (.iconst 1, 1) := by decide +kernel
theorem dX10_isThere_10 : decode cX10_isThere 10 = .ok (.ireturn, 1) := by decide +kernel
theorem dX10_isThere_11 : decode cX10_isThere 11 = .ok (.iconst 0, 1) := by decide +kernel
theorem dX10_isThere_12 : decode cX10_isThere 12 = .ok (.istore_n 3, 1) := by decide +kernel
theorem dX10_isThere_13 : decode cX10_isThere 13 = .ok (.iload_n 3, 1) := by decide +kernel
theorem dX10_isThere_14 : decode cX10_isThere 14 = .ok (.aload_n 0, 1) := by decide +kernel
theorem dX10_isThere_15 : decode cX10_isThere 15 = .ok (.getfield 41, 3) := by decide +kernel
theorem dX10_isThere_18 : decode cX10_isThere 18 = .ok (.if_icmp .ge 38, 3) := by decide +kernel
theorem dX10_isThere_21 : decode cX10_isThere 21 = .ok (.aload_n 0, 1) := by decide +kernel
theorem dX10_isThere_22 : decode cX10_isThere 22 = .ok (.getfield 26, 3) := by decide +kernel
theorem dX10_isThere_25 : decode cX10_isThere 25 = .ok (.iload_n 3, 1) := by decide +kernel
theorem dX10_isThere_26 : decode cX10_isThere 26 = .ok (.iaload, 1) := by decide +kernel
theorem dX10_isThere_27 : decode cX10_isThere 27 = .ok (.iload_n 1, 1) := by decide +kernel
theorem dX10_isThere_28 : decode cX10_isThere 28 = .ok (.if_icmp .ne 22, 3) := by decide +kernel
theorem dX10_isThere_31 : decode cX10_isThere 31 = .ok (.aload_n 0, 1) := by decide +kernel
theorem dX10_isThere_32 : decode cX10_isThere 32 = .ok (.getfield 9, 3) := by decide +kernel
theorem dX10_isThere_35 : decode cX10_isThere 35 = .ok (.aload_n 0, 1) := by decide +kernel
theorem dX10_isThere_36 : decode cX10_isThere 36 = .ok (.getfield 29, 3) := by decide +kernel
theorem dX10_isThere_39 : decode cX10_isThere 39 = .ok (.iload_n 3, 1) := by decide +kernel
theorem dX10_isThere_40 : decode cX10_isThere 40 = .ok (.iaload, 1) := by decide +kernel
theorem dX10_isThere_41 : decode cX10_isThere 41 = .ok (.iload_n 2, 1) := by decide +kernel
theorem dX10_isThere_42 : decode cX10_isThere 42 = .ok (.invokevirtual 94, 3) := by decide +kernel
theorem dX10_isThere_45 : decode cX10_isThere 45 = .ok (.ifCond .eq 5, 3) := by decide +kernel
theorem dX10_isThere_48 : decode cX10_isThere 48 = .ok (.iconst 1, 1) := by decide +kernel
theorem dX10_isThere_49 : decode cX10_isThere 49 = .ok (.ireturn, 1) := by decide +kernel
theorem dX10_isThere_50 : decode cX10_isThere 50 = .ok (.iinc 3 1, 3) := by decide +kernel
theorem dX10_isThere_53 : decode cX10_isThere 53 = .ok (.goto (-40), 3) := by decide +kernel
theorem dX10_isThere_56 : decode cX10_isThere 56 = .ok (.iconst 0, 1) := by decide +kernel
theorem dX10_isThere_57 : decode cX10_isThere 57 = .ok (.ireturn, 1) := by decide +kernel
theorem dX10_tellAll_0 : decode cX10_tellAll 0 = .ok (.iconst 0, 1) := by decide +kernel
theorem dX10_tellAll_1 : decode cX10_tellAll 1 = .ok (.istore 7, 2) := by decide +kernel
theorem dX10_tellAll_3 : decode cX10_tellAll 3 = .ok (.iconst 0, 1) := by decide +kernel
theorem dX10_tellAll_4 : decode cX10_tellAll 4 = .ok (.istore 8, 2) := by decide +kernel
theorem dX10_tellAll_6 : decode cX10_tellAll 6 = .ok (.iload 8, 2) := by decide +kernel
theorem dX10_tellAll_8 : decode cX10_tellAll 8 = .ok (.aload_n 0, 1) := by decide +kernel
theorem dX10_tellAll_9 : decode cX10_tellAll 9 = .ok (.getfield 41, 3) := by decide +kernel
theorem dX10_tellAll_12 : decode cX10_tellAll 12 = .ok (.if_icmp .ge 54, 3) := by decide +kernel
theorem dX10_tellAll_15 : decode cX10_tellAll 15 = .ok (.iload 7, 2) := by decide +kernel
theorem dX10_tellAll_17 : decode cX10_tellAll 17 = .ok (.iload 5, 2) := by decide +kernel
theorem dX10_tellAll_19 : decode cX10_tellAll 19 = .ok (.if_icmp .ge 47, 3) := by decide +kernel
theorem dX10_tellAll_22 : decode cX10_tellAll 22 = .ok (.aload_n 0, 1) := by decide +kernel
theorem dX10_tellAll_23 : decode cX10_tellAll 23 = .ok (.iload 8, 2) := by decide +kernel
theorem dX10_tellAll_25 : decode cX10_tellAll 25 = .ok (.iload_n 1, 1) := by decide +kernel
theorem dX10_tellAll_26 : decode cX10_tellAll 26 = .ok (.iload_n 2, 1) := by decide +kernel
theorem dX10_tellAll_27 : decode cX10_tellAll 27 = .ok (.iload_n 3, 1) := by decide +kernel
theorem dX10_tellAll_28 : decode cX10_tellAll 28 = .ok (.invokevirtual 48, 3) := by decide +kernel
theorem dX10_tellAll_31 : decode cX10_tellAll 31 = .ok (.ifCond .eq 29, 3) := by decide +kernel
theorem dX10_tellAll_34 : decode cX10_tellAll 34 = .ok (.aload 6, 2) := by decide +kernel
theorem dX10_tellAll_36 : decode cX10_tellAll 36 = .ok (.iload 4, 2) := by decide +kernel
theorem dX10_tellAll_38 : decode cX10_tellAll 38 = .ok (.iload_n 2, 1) := by decide +kernel
theorem dX10_tellAll_39 : decode cX10_tellAll 39 = .ok (.iload_n 3, 1) := by decide +kernel
theorem dX10_tellAll_40 : decode cX10_tellAll 40 = .ok (.aload_n 0, 1) := by decide +kernel
theorem dX10_tellAll_41 : decode cX10_tellAll 41 = .ok (.getfield 35, 3) := by decide +kernel
theorem dX10_tellAll_44 : decode cX10_tellAll 44 = .ok (.iload 8, 2) := by decide +kernel
theorem dX10_tellAll_46 : decode cX10_tellAll 46 = .ok (.iaload, 1) := by decide +kernel
theorem dX10_tellAll_47 : decode cX10_tellAll 47 = .ok (.aload_n 0, 1) := by decide +kernel
theorem dX10_tellAll_48 : decode cX10_tellAll 48 = .ok (.getfield 38, 3) := by decide +kernel
theorem dX10_tellAll_51 : decode cX10_tellAll 51 = .ok (.iload 8, 2) := by decide +kernel
theorem dX10_tellAll_53 : decode cX10_tellAll 53 = .ok (.iaload, 1) := by decide +kernel
theorem dX10_tellAll_54 : decode cX10_tellAll 54 = .ok (.invokevirtual 97, 3) := by decide +kernel
theorem dX10_tellAll_57 : decode cX10_tellAll 57 = .ok (.iinc 7 1, 3) := by decide +kernel
theorem dX10_tellAll_60 : decode cX10_tellAll 60 = .ok (.iinc 8 1, 3) := by decide +kernel
theorem dX10_tellAll_63 : decode cX10_tellAll 63 = .ok (.goto (-57), 3) := by decide +kernel
theorem dX10_tellAll_66 : decode cX10_tellAll 66 = .ok (.iload 7, 2) := by decide +kernel
theorem dX10_tellAll_68 : decode cX10_tellAll 68 = .ok (.ireturn, 1) := by decide +kernel
theorem dX10_tellHosts_0 : decode cX10_tellHosts 0 = .ok (.iconst 0, 1) := by decide +kernel
theorem dX10_tellHosts_1 : decode cX10_tellHosts 1 = .ok (.istore 4, 2) := by decide +kernel
theorem dX10_tellHosts_3 : decode cX10_tellHosts 3 = .ok (.iload 4, 2) := by decide +kernel
theorem dX10_tellHosts_5 : decode cX10_tellHosts 5 = .ok (.aload_n 0, 1) := by decide +kernel
theorem dX10_tellHosts_6 : decode cX10_tellHosts 6 = .ok (.getfield 41, 3) := by decide +kernel
theorem dX10_tellHosts_9 : decode cX10_tellHosts 9 = .ok (.if_icmp .ge 74, 3) := by decide +kernel
theorem dX10_tellHosts_12 : decode cX10_tellHosts 12 = .ok (.aload_n 0, 1) := by decide +kernel
theorem dX10_tellHosts_13 : decode cX10_tellHosts 13 = .ok (.getfield 26, 3) := by decide +kernel
theorem dX10_tellHosts_16 : decode cX10_tellHosts 16 = .ok (.iload 4, 2) := by decide +kernel
theorem dX10_tellHosts_18 : decode cX10_tellHosts 18 = .ok (.iaload, 1) := by decide +kernel
theorem dX10_tellHosts_19 : decode cX10_tellHosts 19 = .ok (.iload_n 1, 1) := by decide +kernel
theorem dX10_tellHosts_20 : decode cX10_tellHosts 20 = .ok (.if_icmp .ne 57, 3) := by decide +kernel
theorem dX10_tellHosts_23 : decode cX10_tellHosts 23 = .ok (.aload_n 0, 1) := by decide +kernel
theorem dX10_tellHosts_24 : decode cX10_tellHosts 24 = .ok (.getfield 32, 3) := by decide +kernel
theorem dX10_tellHosts_27 : decode cX10_tellHosts 27 = .ok (.iload 4, 2) := by decide +kernel
theorem dX10_tellHosts_29 : decode cX10_tellHosts 29 = .ok (.iaload, 1) := by decide +kernel
theorem dX10_tellHosts_30 : decode cX10_tellHosts 30 = .ok (.iconst 1, 1) := by decide +kernel
theorem dX10_tellHosts_31 : decode cX10_tellHosts 31 = .ok (.if_icmp .ne 46, 3) := by decide +kernel
theorem dX10_tellHosts_34 : decode cX10_tellHosts 34 = .ok (.aload_n 0, 1) := by decide +kernel
theorem dX10_tellHosts_35 : decode cX10_tellHosts 35 = .ok (.iload_n 1, 1) := by decide +kernel
theorem dX10_tellHosts_36 : decode cX10_tellHosts 36 = .ok (.iload_n 2, 1) := by decide +kernel
theorem dX10_tellHosts_37 : decode cX10_tellHosts 37 = .ok (.aload_n 0, 1) := by decide +kernel
theorem dX10_tellHosts_38 : decode cX10_tellHosts 38 = .ok (.getfield 29, 3) := by decide +kernel
theorem dX10_tellHosts_41 : decode cX10_tellHosts 41 = .ok (.iload 4, 2) := by decide +kernel
theorem dX10_tellHosts_43 : decode cX10_tellHosts 43 = .ok (.iaload, 1) := by decide +kernel
theorem dX10_tellHosts_44 : decode cX10_tellHosts 44 = .ok (.invokevirtual 101, 3) := by decide +kernel
theorem dX10_tellHosts_47 : decode cX10_tellHosts 47 = .ok (.ifCond .eq 30, 3) := by decide +kernel
theorem dX10_tellHosts_50 : decode cX10_tellHosts 50 = .ok (.aload_n 3, 1) := by decide +kernel
theorem dX10_tellHosts_51 : decode cX10_tellHosts 51 = .ok (.iconst 2, 1) := by decide +kernel
theorem dX10_tellHosts_52 : decode cX10_tellHosts 52 = .ok (.aload_n 0, 1) := by decide +kernel
theorem dX10_tellHosts_53 : decode cX10_tellHosts 53 = .ok (.getfield 29, 3) := by decide +kernel
theorem dX10_tellHosts_56 : decode cX10_tellHosts 56 = .ok (.iload 4, 2) := by decide +kernel
theorem dX10_tellHosts_58 : decode cX10_tellHosts 58 = .ok (.iaload, 1) := by decide +kernel
theorem dX10_tellHosts_59 : decode cX10_tellHosts 59 = .ok (.iconst 1, 1) := by decide +kernel
theorem dX10_tellHosts_60 : decode cX10_tellHosts 60 = .ok (.aload_n 0, 1) := by decide +kernel
theorem dX10_tellHosts_61 : decode cX10_tellHosts 61 = .ok (.getfield 35, 3) := by decide +kernel
theorem dX10_tellHosts_64 : decode cX10_tellHosts 64 = .ok (.iload 4, 2) := by decide +kernel
theorem dX10_tellHosts_66 : decode cX10_tellHosts 66 = .ok (.iaload, 1) := by decide +kernel
theorem dX10_tellHosts_67 : decode cX10_tellHosts 67 = .ok (.aload_n 0, 1) := by decide +kernel
theorem dX10_tellHosts_68 : decode cX10_tellHosts 68 = .ok (.getfield 38, 3) := by decide +kernel
theorem dX10_tellHosts_71 : decode cX10_tellHosts 71 = .ok (.iload 4, 2) := by decide +kernel
theorem dX10_tellHosts_73 : decode cX10_tellHosts 73 = .ok (.iaload, 1) := by decide +kernel
theorem dX10_tellHosts_74 : decode cX10_tellHosts 74 = .ok (.invokevirtual 97, 3) := by decide +kernel
theorem dX10_tellHosts_77 : decode cX10_tellHosts 77 = .ok (.iinc 4 1, 3) := by decide +kernel
theorem dX10_tellHosts_80 : decode cX10_tellHosts 80 = .ok (.goto (-77), 3) := by decide +kernel
theorem dX10_tellHosts_83 : decode cX10_tellHosts 83 = .ok (.return_, 1) := by decide +kernel
theorem dX10_isHost_0 : decode cX10_isHost 0 = .ok (.iconst 0, 1) := by decide +kernel
theorem dX10_isHost_1 : decode cX10_isHost 1 = .ok (.istore 4, 2) := by decide +kernel
theorem dX10_isHost_3 : decode cX10_isHost 3 = .ok (.iload 4, 2) := by decide +kernel
theorem dX10_isHost_5 : decode cX10_isHost 5 = .ok (.aload_n 0, 1) := by decide +kernel
theorem dX10_isHost_6 : decode cX10_isHost 6 = .ok (.getfield 41, 3) := by decide +kernel
theorem dX10_isHost_9 : decode cX10_isHost 9 = .ok (.if_icmp .ge 34, 3) := by decide +kernel
theorem dX10_isHost_12 : decode cX10_isHost 12 = .ok (.aload_n 0, 1) := by decide +kernel
theorem dX10_isHost_13 : decode cX10_isHost 13 = .ok (.iload 4, 2) := by decide +kernel
theorem dX10_isHost_15 : decode cX10_isHost 15 = .ok (.iload_n 1, 1) := by decide +kernel
theorem dX10_isHost_16 : decode cX10_isHost 16 = .ok (.iload_n 2, 1) := by decide +kernel
theorem dX10_isHost_17 : decode cX10_isHost 17 = .ok (.iconst 2, 1) := by decide +kernel
theorem dX10_isHost_18 : decode cX10_isHost 18 = .ok (.invokevirtual 48, 3) := by decide +kernel
theorem dX10_isHost_21 : decode cX10_isHost 21 = .ok (.ifCond .eq 16, 3) := by decide +kernel
theorem dX10_isHost_24 : decode cX10_isHost 24 = .ok (.aload_n 0, 1) := by decide +kernel
theorem dX10_isHost_25 : decode cX10_isHost 25 = .ok (.getfield 35, 3) := by decide +kernel
theorem dX10_isHost_28 : decode cX10_isHost 28 = .ok (.iload 4, 2) := by decide +kernel
theorem dX10_isHost_30 : decode cX10_isHost 30 = .ok (.iaload, 1) := by decide +kernel
theorem dX10_isHost_31 : decode cX10_isHost 31 = .ok (.iload_n 3, 1) := by decide +kernel
theorem dX10_isHost_32 : decode cX10_isHost 32 = .ok (.if_icmp .ne 5, 3) := by decide +kernel
theorem dX10_isHost_35 : decode cX10_isHost 35 = .ok (.iconst 1, 1) := by decide +kernel
theorem dX10_isHost_36 : decode cX10_isHost 36 = .ok (.ireturn, 1) := by decide +kernel
theorem dX10_isHost_37 : decode cX10_isHost 37 = .ok (.iinc 4 1, 3) := by decide +kernel
theorem dX10_isHost_40 : decode cX10_isHost 40 = .ok (.goto (-37), 3) := by decide +kernel
theorem dX10_isHost_43 : decode cX10_isHost 43 = .ok (.iconst 0, 1) := by decide +kernel
theorem dX10_isHost_44 : decode cX10_isHost 44 = .ok (.ireturn, 1) := by decide +kernel
