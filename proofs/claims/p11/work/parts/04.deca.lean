theorem dX0_init_0 : decode cX0_init 0 = .ok (.aload_n 0, 1) := by decide +kernel
theorem dX0_init_1 : decode cX0_init 1 = .ok (.invokespecial 3, 3) := by decide +kernel
theorem dX0_init_4 : decode cX0_init 4 = .ok (.aload_n 0, 1) := by decide +kernel
theorem dX0_init_5 : decode cX0_init 5 = .ok (.sipush 1000, 3) := by decide +kernel
theorem dX0_init_8 : decode cX0_init 8 = .ok (.newarray .byte, 2) := by decide +kernel
theorem dX0_init_10 : decode cX0_init 10 = .ok (.putfield 9, 3) := by decide +kernel
theorem dX0_init_13 : decode cX0_init 13 = .ok (.aload_n 0, 1) := by decide +kernel
theorem dX0_init_14 : decode cX0_init 14 = .ok (.iconst 0, 1) := by decide +kernel
theorem dX0_init_15 : decode cX0_init 15 = .ok (.putfield 15, 3) := by decide +kernel
theorem dX0_init_18 : decode cX0_init 18 = .ok (.aload_n 0, 1) := by decide +kernel
theorem dX0_init_19 : decode cX0_init 19 = .ok (.iconst 0, 1) := by decide +kernel
theorem dX0_init_20 : decode cX0_init 20 = .ok (.putfield 19, 3) := by decide +kernel
theorem dX0_init_23 : decode cX0_init 23 = .ok (.return_, 1) := by decide +kernel
theorem dX0_size_0 : decode cX0_size 0 = .ok (.aload_n 0, 1) := by decide +kernel
theorem dX0_size_1 : decode cX0_size 1 = .ok (.getfield 15, 3) := by decide +kernel
theorem dX0_size_4 : decode cX0_size 4 = .ok (.ireturn, 1) := by decide +kernel
theorem dX0_isTooLong_0 : decode cX0_isTooLong 0 = .ok (.aload_n 0, 1) := by decide +kernel
theorem dX0_isTooLong_1 : decode cX0_isTooLong 1 = .ok (.getfield 19, 3) := by decide +kernel
theorem dX0_isTooLong_4 : decode cX0_isTooLong 4 = .ok (.ireturn, 1) := by decide +kernel
theorem dX0_clear_0 : decode cX0_clear 0 = .ok (.aload_n 0, 1) := by decide +kernel
theorem dX0_clear_1 : decode cX0_clear 1 = .ok (.iconst 0, 1) := by decide +kernel
theorem dX0_clear_2 : decode cX0_clear 2 = .ok (.putfield 15, 3) := by decide +kernel
theorem dX0_clear_5 : decode cX0_clear 5 = .ok (.aload_n 0, 1) := by decide +kernel
theorem dX0_clear_6 : decode cX0_clear 6 = .ok (.iconst 0, 1) := by decide +kernel
theorem dX0_clear_7 : decode cX0_clear 7 = .ok (.putfield 19, 3) := by decide +kernel
theorem dX0_clear_10 : decode cX0_clear 10 = .ok (.return_, 1) := by decide +kernel
theorem dX0_at_0 : decode cX0_at 0 = .ok (.iload_n 1, 1) := by decide +kernel
theorem dX0_at_1 : decode cX0_at 1 = .ok (.ifCond .lt 24, 3) := by decide +kernel
theorem dX0_at_4 : decode cX0_at 4 = .ok (.iload_n 1, 1) := by decide +kernel
theorem dX0_at_5 : decode cX0_at 5 = .ok (.aload_n 0, 1) := by decide +kernel
theorem dX0_at_6 : decode cX0_at 6 = .ok (.getfield 15, 3) := by decide +kernel
theorem dX0_at_9 : decode cX0_at 9 = .ok (.if_icmp .ge 16, 3) := by decide +kernel
theorem dX0_at_12 : decode cX0_at 12 = .ok (.aload_n 0, 1) := by decide +kernel
theorem dX0_at_13 : decode cX0_at 13 = .ok (.getfield 9, 3) := by decide +kernel
theorem dX0_at_16 : decode cX0_at 16 = .ok (.iload_n 1, 1) := by decide +kernel
theorem dX0_at_17 : decode cX0_at 17 = .ok (.baload, 1) := by decide +kernel
theorem dX0_at_18 : decode cX0_at 18 = .ok (.sipush 255, 3) := by decide +kernel
theorem dX0_at_21 : decode cX0_at 21 = .ok (.iand, 1) := by decide +kernel
theorem dX0_at_22 : decode cX0_at 22 = .ok (.goto 4, 3) := by decide +kernel
theorem dX0_at_25 : decode cX0_at 25 = .ok (.iconst (-1), 1) := by decide +kernel
theorem dX0_at_26 : decode cX0_at 26 = .ok (.ireturn, 1) := by decide +kernel
theorem dX0_set_0 : decode cX0_set 0 = .ok (.iload_n 1, 1) := by decide +kernel
theorem dX0_set_1 : decode cX0_set 1 = .ok (.ifCond .lt 11, 3) := by decide +kernel
theorem dX0_set_4 : decode cX0_set 4 = .ok (.iload_n 1, 1) := by decide +kernel
theorem dX0_set_5 : decode cX0_set 5 = .ok (.aload_n 0, 1) := by decide +kernel
theorem dX0_set_6 : decode cX0_set 6 = .ok (.getfield 15, 3) := by decide +kernel
theorem dX0_set_9 : decode cX0_set 9 = .ok (.if_icmp .lt 5, 3) := by decide +kernel
theorem dX0_set_12 : decode cX0_set 12 = .ok (.iconst 0, 1) := by decide +kernel
theorem dX0_set_13 : decode cX0_set 13 = .ok (.ireturn, 1) := by decide +kernel
theorem dX0_set_14 : decode cX0_set 14 = .ok (.aload_n 0, 1) := by decide +kernel
theorem dX0_set_15 : decode cX0_set 15 = .ok (.getfield 9, 3) := by decide +kernel
theorem dX0_set_18 : decode cX0_set 18 = .ok (.iload_n 1, 1) := by decide +kernel
theorem dX0_set_19 : decode cX0_set 19 = .ok (.iload_n 2, 1) := by decide +kernel
theorem dX0_set_20 : decode cX0_set 20 = .ok (.i2b, 1) := by decide +kernel
theorem dX0_set_21 : decode cX0_set 21 = .ok (.bastore, 1) := by decide +kernel
theorem dX0_set_22 : decode cX0_set 22 = .ok (.iconst 1, 1) := by decide +kernel
theorem dX0_set_23 : decode cX0_set 23 = .ok (.ireturn, 1) := by decide +kernel
theorem dX0_cutTo_0 : decode cX0_cutTo 0 = .ok (.iload_n 1, 1) := by decide +kernel
theorem dX0_cutTo_1 : decode cX0_cutTo 1 = .ok (.ifCond .lt 11, 3) := by decide +kernel
theorem dX0_cutTo_4 : decode cX0_cutTo 4 = .ok (.iload_n 1, 1) := by decide +kernel
theorem dX0_cutTo_5 : decode cX0_cutTo 5 = .ok (.aload_n 0, 1) := by decide +kernel
theorem dX0_cutTo_6 : decode cX0_cutTo 6 = .ok (.getfield 15, 3) := by decide +kernel
theorem dX0_cutTo_9 : decode cX0_cutTo 9 = .ok (.if_icmp .le 5, 3) := by decide +kernel
theorem dX0_cutTo_12 : decode cX0_cutTo 12 = .ok (.iconst 0, 1) := by decide +kernel
theorem dX0_cutTo_13 : decode cX0_cutTo 13 = .ok (.ireturn, 1) := by decide +kernel
theorem dX0_cutTo_14 : decode cX0_cutTo 14 = .ok (.aload_n 0, 1) := by decide +kernel
theorem dX0_cutTo_15 : decode cX0_cutTo 15 = .ok (.iload_n 1, 1) := by decide +kernel
theorem dX0_cutTo_16 : decode cX0_cutTo 16 = .ok (.putfield 15, 3) := by decide +kernel
theorem dX0_cutTo_19 : decode cX0_cutTo 19 = .ok (.iconst 1, 1) := by decide +kernel
theorem dX0_cutTo_20 : decode cX0_cutTo 20 = .ok (.ireturn, 1) := by decide +kernel
theorem dX0_add_0 : decode cX0_add 0 = .ok (.aload_n 0, 1) := by decide +kernel
theorem dX0_add_1 : decode cX0_add 1 = .ok (.getfield 15, 3) := by decide +kernel
theorem dX0_add_4 : decode cX0_add 4 = .ok (.sipush 1000, 3) := by decide +kernel
theorem dX0_add_7 : decode cX0_add 7 = .ok (.if_icmp .lt 9, 3) := by decide +kernel
theorem dX0_add_10 : decode cX0_add 10 = .ok (.aload_n 0, 1) := by decide +kernel
theorem dX0_add_11 : decode cX0_add 11 = .ok (.iconst 1, 1) := by decide +kernel
theorem dX0_add_12 : decode cX0_add 12 = .ok (.putfield 19, 3) := by decide +kernel
theorem dX0_add_15 : decode cX0_add 15 = .ok (.return_, 1) := by decide +kernel
theorem dX0_add_16 : decode cX0_add 16 = .ok (.aload_n 0, 1) := by decide +kernel
theorem dX0_add_17 : decode cX0_add 17 = .ok (.getfield 9, 3) := by decide +kernel
theorem dX0_add_20 : decode cX0_add 20 = .ok (.aload_n 0, 1) := by decide +kernel
theorem dX0_add_21 : decode cX0_add 21 = .ok (.getfield 15, 3) := by decide +kernel
theorem dX0_add_24 : decode cX0_add 24 = .ok (.iload_n 1, 1) := by decide +kernel
theorem dX0_add_25 : decode cX0_add 25 = .ok (.i2b, 1) := by decide +kernel
theorem dX0_add_26 : decode cX0_add 26 = .ok (.bastore, 1) := by decide +kernel
theorem dX0_add_27 : decode cX0_add 27 = .ok (.aload_n 0, 1) := by decide +kernel
theorem dX0_add_28 : decode cX0_add 28 = .ok (.dup, 1) := by decide +kernel
theorem dX0_add_29 : decode cX0_add 29 = .ok (.getfield 15, 3) := by decide +kernel
theorem dX0_add_32 : decode cX0_add 32 = .ok (.iconst 1, 1) := by decide +kernel
theorem dX0_add_33 : decode cX0_add 33 = .ok (.iadd, 1) := by decide +kernel
theorem dX0_add_34 : decode cX0_add 34 = .ok (.putfield 15, 3) := by decide +kernel
theorem dX0_add_37 : decode cX0_add 37 = .ok (.return_, 1) := by decide +kernel
theorem dX0_addTwo_0 : decode cX0_addTwo 0 = .ok (.aload_n 0, 1) := by decide +kernel
theorem dX0_addTwo_1 : decode cX0_addTwo 1 = .ok (.iload_n 1, 1) := by decide +kernel
theorem dX0_addTwo_2 : decode cX0_addTwo 2 = .ok (.bipush 8, 2) := by decide +kernel
theorem dX0_addTwo_4 : decode cX0_addTwo 4 = .ok (.ishr, 1) := by decide +kernel
theorem dX0_addTwo_5 : decode cX0_addTwo 5 = .ok (.invokevirtual 23, 3) := by decide +kernel
theorem dX0_addTwo_8 : decode cX0_addTwo 8 = .ok (.aload_n 0, 1) := by decide +kernel
theorem dX0_addTwo_9 : decode cX0_addTwo 9 = .ok (.iload_n 1, 1) := by decide +kernel
theorem dX0_addTwo_10 : decode cX0_addTwo 10 = .ok (.invokevirtual 23, 3) := by decide +kernel
theorem dX0_addTwo_13 : decode cX0_addTwo 13 = .ok (.return_, 1) := by decide +kernel
theorem dX0_addFour_0 : decode cX0_addFour 0 = .ok (.aload_n 0, 1) := by decide +kernel
theorem dX0_addFour_1 : decode cX0_addFour 1 = .ok (.iload_n 1, 1) := by decide +kernel
theorem dX0_addFour_2 : decode cX0_addFour 2 = .ok (.bipush 24, 2) := by decide +kernel
theorem dX0_addFour_4 : decode cX0_addFour 4 = .ok (.ishr, 1) := by decide +kernel
theorem dX0_addFour_5 : decode cX0_addFour 5 = .ok (.invokevirtual 23, 3) := by decide +kernel
theorem dX0_addFour_8 : decode cX0_addFour 8 = .ok (.aload_n 0, 1) := by decide +kernel
theorem dX0_addFour_9 : decode cX0_addFour 9 = .ok (.iload_n 1, 1) := by decide +kernel
theorem dX0_addFour_10 : decode cX0_addFour 10 = .ok (.bipush 16, 2) := by decide +kernel
theorem dX0_addFour_12 : decode cX0_addFour 12 = .ok (.ishr, 1) := by decide +kernel
theorem dX0_addFour_13 : decode cX0_addFour 13 = .ok (.invokevirtual 23, 3) := by decide +kernel
theorem dX0_addFour_16 : decode cX0_addFour 16 = .ok (.aload_n 0, 1) := by decide +kernel
theorem dX0_addFour_17 : decode cX0_addFour 17 = .ok (.iload_n 1, 1) := by decide +kernel
theorem dX0_addFour_18 : decode cX0_addFour 18 = .ok (.bipush 8, 2) := by decide +kernel
theorem dX0_addFour_20 : decode cX0_addFour 20 = .ok (.ishr, 1) := by decide +kernel
theorem dX0_addFour_21 : decode cX0_addFour 21 = .ok (.invokevirtual 23, 3) := by decide +kernel
theorem dX0_addFour_24 : decode cX0_addFour 24 = .ok (.aload_n 0, 1) := by decide +kernel
theorem dX0_addFour_25 : decode cX0_addFour 25 = .ok (.iload_n 1, 1) := by decide +kernel
theorem dX0_addFour_26 : decode cX0_addFour 26 = .ok (.invokevirtual 23, 3) := by decide +kernel
theorem dX0_addFour_29 : decode cX0_addFour 29 = .ok (.return_, 1) := by decide +kernel
theorem dX0_setTwo_0 : decode cX0_setTwo 0 = .ok (.aload_n 0, 1) := by decide +kernel
theorem dX0_setTwo_1 : decode cX0_setTwo 1 = .ok (.iload_n 1, 1) := by decide +kernel
theorem dX0_setTwo_2 : decode cX0_setTwo 2 = .ok (.iload_n 2, 1) := by decide +kernel
theorem dX0_setTwo_3 : decode cX0_setTwo 3 = .ok (.bipush 8, 2) := by decide +kernel
theorem dX0_setTwo_5 : decode cX0_setTwo 5 = .ok (.ishr, 1) := by decide +kernel
theorem dX0_setTwo_6 : decode cX0_setTwo 6 = .ok (.invokevirtual 27, 3) := by decide +kernel
theorem dX0_setTwo_9 : decode cX0_setTwo 9 = .ok (.pop, 1) := by decide +kernel
theorem dX0_setTwo_10 : decode cX0_setTwo 10 = .ok (.aload_n 0, 1) := by decide +kernel
theorem dX0_setTwo_11 : decode cX0_setTwo 11 = .ok (.iload_n 1, 1) := by decide +kernel
theorem dX0_setTwo_12 : decode cX0_setTwo 12 = .ok (.iconst 1, 1) := by decide +kernel
theorem dX0_setTwo_13 : decode cX0_setTwo 13 = .ok (.iadd, 1) := by decide +kernel
theorem dX0_setTwo_14 : decode cX0_setTwo 14 = .ok (.iload_n 2, 1) := by decide +kernel
theorem dX0_setTwo_15 : decode cX0_setTwo 15 = .ok (.invokevirtual 27, 3) := by decide +kernel
theorem dX0_setTwo_18 : decode cX0_setTwo 18 = .ok (.pop, 1) := by decide +kernel
theorem dX0_setTwo_19 : decode cX0_setTwo 19 = .ok (.return_, 1) := by decide +kernel
theorem dX0_two_0 : decode cX0_two 0 = .ok (.aload_n 0, 1) := by decide +kernel
theorem dX0_two_1 : decode cX0_two 1 = .ok (.iload_n 1, 1) := by decide +kernel
theorem dX0_two_2 : decode cX0_two 2 = .ok (.invokevirtual 31, 3) := by decide +kernel
theorem dX0_two_5 : decode cX0_two 5 = .ok (.bipush 8, 2) := by decide +kernel
theorem dX0_two_7 : decode cX0_two 7 = .ok (.ishl, 1) := by decide +kernel
theorem dX0_two_8 : decode cX0_two 8 = .ok (.aload_n 0, 1) := by decide +kernel
theorem dX0_two_9 : decode cX0_two 9 = .ok (.iload_n 1, 1) := by decide +kernel
theorem dX0_two_10 : decode cX0_two 10 = .ok (.iconst 1, 1) := by decide +kernel
theorem dX0_two_11 : decode cX0_two 11 = .ok (.iadd, 1) := by decide +kernel
theorem dX0_two_12 : decode cX0_two 12 = .ok (.invokevirtual 31, 3) := by decide +kernel
theorem dX0_two_15 : decode cX0_two 15 = .ok (.iadd, 1) := by decide +kernel
theorem dX0_two_16 : decode cX0_two 16 = .ok (.ireturn, 1) := by decide +kernel
theorem dX0_four_0 : decode cX0_four 0 = .ok (.aload_n 0, 1) := by decide +kernel
theorem dX0_four_1 : decode cX0_four 1 = .ok (.iload_n 1, 1) := by decide +kernel
theorem dX0_four_2 : decode cX0_four 2 = .ok (.invokevirtual 35, 3) := by decide +kernel
theorem dX0_four_5 : decode cX0_four 5 = .ok (.bipush 16, 2) := by decide +kernel
theorem dX0_four_7 : decode cX0_four 7 = .ok (.ishl, 1) := by decide +kernel
theorem dX0_four_8 : decode cX0_four 8 = .ok (.aload_n 0, 1) := by decide +kernel
theorem dX0_four_9 : decode cX0_four 9 = .ok (.iload_n 1, 1) := by decide +kernel
theorem dX0_four_10 : decode cX0_four 10 = .ok (.iconst 2, 1) := by decide +kernel
theorem dX0_four_11 : decode cX0_four 11 = .ok (.iadd, 1) := by decide +kernel
theorem dX0_four_12 : decode cX0_four 12 = .ok (.invokevirtual 35, 3) := by decide +kernel
theorem dX0_four_15 : decode cX0_four 15 = .ok (.iadd, 1) := by decide +kernel
theorem dX0_four_16 : decode cX0_four 16 = .ok (.ireturn, 1) := by decide +kernel
theorem dX0_copy_0 : decode cX0_copy 0 = .ok (.aload_n 1, 1) := by decide +kernel
theorem dX0_copy_1 : decode cX0_copy 1 = .ok (.getfield 9, 3) := by decide +kernel
theorem dX0_copy_4 : decode cX0_copy 4 = .ok (.iconst 0, 1) := by decide +kernel
theorem dX0_copy_5 : decode cX0_copy 5 = .ok (.aload_n 0, 1) := by decide +kernel
theorem dX0_copy_6 : decode cX0_copy 6 = .ok (.getfield 9, 3) := by decide +kernel
theorem dX0_copy_9 : decode cX0_copy 9 = .ok (.iconst 0, 1) := by decide +kernel
theorem dX0_copy_10 : decode cX0_copy 10 = .ok (.aload_n 1, 1) := by decide +kernel
theorem dX0_copy_11 : decode cX0_copy 11 = .ok (.getfield 15, 3) := by decide +kernel
theorem dX0_copy_14 : decode cX0_copy 14 = .ok (.invokestatic 38, 3) := by decide +kernel
theorem dX0_copy_17 : decode cX0_copy 17 = .ok (.aload_n 0, 1) := by decide +kernel
theorem dX0_copy_18 : decode cX0_copy 18 = .ok (.aload_n 1, 1) := by decide +kernel
theorem dX0_copy_19 : decode cX0_copy 19 = .ok (.getfield 15, 3) := by decide +kernel
theorem dX0_copy_22 : decode cX0_copy 22 = .ok (.putfield 15, 3) := by decide +kernel
theorem dX0_copy_25 : decode cX0_copy 25 = .ok (.aload_n 0, 1) := by decide +kernel
theorem dX0_copy_26 : decode cX0_copy 26 = .ok (.aload_n 1, 1) := by decide +kernel
theorem dX0_copy_27 : decode cX0_copy 27 = .ok (.getfield 19, 3) := by decide +kernel
theorem dX0_copy_30 : decode cX0_copy 30 = .ok (.putfield 19, 3) := by decide +kernel
theorem dX0_copy_33 : decode cX0_copy 33 = .ok (.return_, 1) := by decide +kernel
theorem dX1_init_0 : decode cX1_init 0 = .ok (.aload_n 0, 1) := by decide +kernel
theorem dX1_init_1 : decode cX1_init 1 = .ok (.invokespecial 3, 3) := by decide +kernel
theorem dX1_init_4 : decode cX1_init 4 = .ok (.aload_n 0, 1) := by decide +kernel
theorem dX1_init_5 : decode cX1_init 5 = .ok (.bipush 100, 2) := by decide +kernel
theorem dX1_init_7 : decode cX1_init 7 = .ok (.newarray .int, 2) := by decide +kernel
theorem dX1_init_9 : decode cX1_init 9 = .ok (.putfield 9, 3) := by decide +kernel
theorem dX1_init_12 : decode cX1_init 12 = .ok (.aload_n 0, 1) := by decide +kernel
theorem dX1_init_13 : decode cX1_init 13 = .ok (.bipush 100, 2) := by decide +kernel
theorem dX1_init_15 : decode cX1_init 15 = .ok (.newarray .int, 2) := by decide +kernel
theorem dX1_init_17 : decode cX1_init 17 = .ok (.putfield 15, 3) := by decide +kernel
theorem dX1_init_20 : decode cX1_init 20 = .ok (.aload_n 0, 1) := by decide +kernel
theorem dX1_init_21 : decode cX1_init 21 = .ok (.bipush 100, 2) := by decide +kernel
theorem dX1_init_23 : decode cX1_init 23 = .ok (.newarray .long, 2) := by decide +kernel
theorem dX1_init_25 : decode cX1_init 25 = .ok (.putfield 18, 3) := by decide +kernel
theorem dX1_init_28 : decode cX1_init 28 = .ok (.aload_n 0, 1) := by decide +kernel
theorem dX1_init_29 : decode cX1_init 29 = .ok (.bipush 100, 2) := by decide +kernel
theorem dX1_init_31 : decode cX1_init 31 = .ok (.newarray .int, 2) := by decide +kernel
theorem dX1_init_33 : decode cX1_init 33 = .ok (.putfield 22, 3) := by decide +kernel
theorem dX1_init_36 : decode cX1_init 36 = .ok (.aload_n 0, 1) := by decide +kernel
theorem dX1_init_37 : decode cX1_init 37 = .ok (.bipush 100, 2) := by decide +kernel
theorem dX1_init_39 : decode cX1_init 39 = .ok (.newarray .int, 2) := by decide +kernel
theorem dX1_init_41 : decode cX1_init 41 = .ok (.putfield 25, 3) := by decide +kernel
theorem dX1_init_44 : decode cX1_init 44 = .ok (.aload_n 0, 1) := by decide +kernel
theorem dX1_init_45 : decode cX1_init 45 = .ok (.sipush 1000, 3) := by decide +kernel
theorem dX1_init_48 : decode cX1_init 48 = .ok (.newarray .int, 2) := by decide +kernel
theorem dX1_init_50 : decode cX1_init 50 = .ok (.putfield 28, 3) := by decide +kernel
theorem dX1_init_53 : decode cX1_init 53 = .ok (.aload_n 0, 1) := by decide +kernel
theorem dX1_init_54 : decode cX1_init 54 = .ok (.iconst 0, 1) := by decide +kernel
theorem dX1_init_55 : decode cX1_init 55 = .ok (.putfield 31, 3) := by decide +kernel
theorem dX1_init_58 : decode cX1_init 58 = .ok (.aload_n 0, 1) := by decide +kernel
theorem dX1_init_59 : decode cX1_init 59 = .ok (.iconst 0, 1) := by decide +kernel
theorem dX1_init_60 : decode cX1_init 60 = .ok (.putfield 35, 3) := by decide +kernel
theorem dX1_init_63 : decode cX1_init 63 = .ok (.aload_n 0, 1) := by decide +kernel
theorem dX1_init_64 : decode cX1_init 64 = .ok (.iconst 0, 1) := by decide +kernel
theorem dX1_init_65 : decode cX1_init 65 = .ok (.putfield 38, 3) := by decide +kernel
theorem dX1_init_68 : decode cX1_init 68 = .ok (.return_, 1) := by decide +kernel
theorem dX1_size_0 : decode cX1_size 0 = .ok (.aload_n 0, 1) := by decide +kernel
theorem dX1_size_1 : decode cX1_size 1 = .ok (.getfield 31, 3) := by decide +kernel
theorem dX1_size_4 : decode cX1_size 4 = .ok (.ireturn, 1) := by decide +kernel
theorem dX1_now_0 : decode cX1_now 0 = .ok (.aload_n 0, 1) := by decide +kernel
theorem dX1_now_1 : decode cX1_now 1 = .ok (.getfield 38, 3) := by decide +kernel
theorem dX1_now_4 : decode cX1_now 4 = .ok (.ireturn, 1) := by decide +kernel
theorem dX1_goOn_0 : decode cX1_goOn 0 = .ok (.aload_n 0, 1) := by decide +kernel
theorem dX1_goOn_1 : decode cX1_goOn 1 = .ok (.dup, 1) := by decide +kernel
theorem dX1_goOn_2 : decode cX1_goOn 2 = .ok (.getfield 38, 3) := by decide +kernel
theorem dX1_goOn_5 : decode cX1_goOn 5 = .ok (.iload_n 1, 1) := by decide +kernel
theorem dX1_goOn_6 : decode cX1_goOn 6 = .ok (.iadd, 1) := by decide +kernel
theorem dX1_goOn_7 : decode cX1_goOn 7 = .ok (.putfield 38, 3) := by decide +kernel
theorem dX1_goOn_10 : decode cX1_goOn 10 = .ok (.aload_n 0, 1) := by decide +kernel
theorem dX1_goOn_11 : decode cX1_goOn 11 = .ok (.getfield 38, 3) := by decide +kernel
theorem dX1_goOn_14 : decode cX1_goOn 14 = .ok (.ireturn, 1) := by decide +kernel
theorem dX1_held_0 : decode cX1_held 0 = .ok (.aload_n 0, 1) := by decide +kernel
theorem dX1_held_1 : decode cX1_held 1 = .ok (.iload_n 1, 1) := by decide +kernel
theorem dX1_held_2 : decode cX1_held 2 = .ok (.iload_n 2, 1) := by decide +kernel
theorem dX1_held_3 : decode cX1_held 3 = .ok (.invokevirtual 41, 3) := by decide +kernel
theorem dX1_held_6 : decode cX1_held 6 = .ok (.istore_n 3, 1) := by decide +kernel
theorem dX1_held_7 : decode cX1_held 7 = .ok (.iload_n 3, 1) := by decide +kernel
theorem dX1_held_8 : decode cX1_held 8 = .ok (.iconst (-1), 1) := by decide +kernel
theorem dX1_held_9 : decode cX1_held 9 = .ok (.if_icmp .eq 27, 3) := by decide +kernel
theorem dX1_held_12 : decode cX1_held 12 = .ok (.aload_n 0, 1) := by decide +kernel
theorem dX1_held_13 : decode cX1_held 13 = .ok (.getfield 38, 3) := by decide +kernel
theorem dX1_held_16 : decode cX1_held 16 = .ok (.i2l, 1) := by decide +kernel
theorem dX1_held_17 : decode cX1_held 17 = .ok (.aload_n 0, 1) := by decide +kernel
theorem dX1_held_18 : decode cX1_held 18 = .ok (.getfield 18, 3) := by decide +kernel
theorem dX1_held_21 : decode cX1_held 21 = .ok (.iload_n 3, 1) := by decide +kernel
theorem dX1_held_22 : decode cX1_held 22 = .ok (.laload, 1) := by decide +kernel
theorem dX1_held_23 : decode cX1_held 23 = .ok (.lcmp, 1) := by decide +kernel
theorem dX1_held_24 : decode cX1_held 24 = .ok (.ifCond .ge 12, 3) := by decide +kernel
theorem dX1_held_27 : decode cX1_held 27 = .ok (.aload_n 0, 1) := by decide +kernel
theorem dX1_held_28 : decode cX1_held 28 = .ok (.getfield 25, 3) := by decide +kernel
theorem dX1_held_31 : decode cX1_held 31 = .ok (.iload_n 3, 1) := by decide +kernel
theorem dX1_held_32 : decode cX1_held 32 = .ok (.iaload, 1) := by decide +kernel
theorem dX1_held_33 : decode cX1_held 33 = .ok (.goto 4, 3) := by decide +kernel
theorem dX1_held_36 : decode cX1_held 36 = .ok (.iconst (-1), 1) := by decide +kernel
theorem dX1_held_37 : decode cX1_held 37 = .ok (.ireturn, 1) := by decide +kernel
theorem dX1_setOf_0 : decode cX1_setOf 0 = .ok (.aload_n 0, 1) := by decide +kernel
theorem dX1_setOf_1 : decode cX1_setOf 1 = .ok (.iload_n 1, 1) := by decide +kernel
theorem dX1_setOf_2 : decode cX1_setOf 2 = .ok (.iload_n 2, 1) := by decide +kernel
theorem dX1_setOf_3 : decode cX1_setOf 3 = .ok (.invokevirtual 41, 3) := by decide +kernel
theorem dX1_setOf_6 : decode cX1_setOf 6 = .ok (.istore_n 3, 1) := by decide +kernel
theorem dX1_setOf_7 : decode cX1_setOf 7 = .ok (.iload_n 3, 1) := by decide +kernel
theorem dX1_setOf_8 : decode cX1_setOf 8 = .ok (.iconst (-1), 1) := by decide +kernel
theorem dX1_setOf_9 : decode cX1_setOf 9 = .ok (.if_icmp .eq 31, 3) := by decide +kernel
theorem dX1_setOf_12 : decode cX1_setOf 12 = .ok (.aload_n 0, 1) := by decide +kernel
theorem dX1_setOf_13 : decode cX1_setOf 13 = .ok (.getfield 38, 3) := by decide +kernel
theorem dX1_setOf_16 : decode cX1_setOf 16 = .ok (.i2l, 1) := by decide +kernel
theorem dX1_setOf_17 : decode cX1_setOf 17 = .ok (.aload_n 0, 1) := by decide +kernel
theorem dX1_setOf_18 : decode cX1_setOf 18 = .ok (.getfield 18, 3) := by decide +kernel
theorem dX1_setOf_21 : decode cX1_setOf 21 = .ok (.iload_n 3, 1) := by decide +kernel
theorem dX1_setOf_22 : decode cX1_setOf 22 = .ok (.laload, 1) := by decide +kernel
theorem dX1_setOf_23 : decode cX1_setOf 23 = .ok (.lcmp, 1) := by decide +kernel
theorem dX1_setOf_24 : decode cX1_setOf 24 = .ok (.ifCond .ge 16, 3) := by decide +kernel
theorem dX1_setOf_27 : decode cX1_setOf 27 = .ok (.aload_n 0, 1) := by decide +kernel
theorem dX1_setOf_28 : decode cX1_setOf 28 = .ok (.getfield 25, 3) := by decide +kernel
theorem dX1_setOf_31 : decode cX1_setOf 31 = .ok (.iload_n 3, 1) := by decide +kernel
theorem dX1_setOf_32 : decode cX1_setOf 32 = .ok (.iaload, 1) := by decide +kernel
theorem dX1_setOf_33 : decode cX1_setOf 33 = .ok (.ifCond .le 7, 3) := by decide +kernel
theorem dX1_setOf_36 : decode cX1_setOf 36 = .ok (.iload_n 3, 1) := by decide +kernel
theorem dX1_setOf_37 : decode cX1_setOf 37 = .ok (.goto 4, 3) := by decide +kernel
theorem dX1_setOf_40 : decode cX1_setOf 40 = .ok (.iconst (-1), 1) := by decide +kernel
theorem dX1_setOf_41 : decode cX1_setOf 41 = .ok (.ireturn, 1) := by decide +kernel
theorem dX1_sizeOf_0 : decode cX1_sizeOf 0 = .ok (.iload_n 1, 1) := by decide +kernel
theorem dX1_sizeOf_1 : decode cX1_sizeOf 1 = .ok (.ifCond .lt 20, 3) := by decide +kernel
theorem dX1_sizeOf_4 : decode cX1_sizeOf 4 = .ok (.iload_n 1, 1) := by decide +kernel
theorem dX1_sizeOf_5 : decode cX1_sizeOf 5 = .ok (.aload_n 0, 1) := by decide +kernel
theorem dX1_sizeOf_6 : decode cX1_sizeOf 6 = .ok (.getfield 31, 3) := by decide +kernel
theorem dX1_sizeOf_9 : decode cX1_sizeOf 9 = .ok (.if_icmp .ge 12, 3) := by decide +kernel
theorem dX1_sizeOf_12 : decode cX1_sizeOf 12 = .ok (.aload_n 0, 1) := by decide +kernel
theorem dX1_sizeOf_13 : decode cX1_sizeOf 13 = .ok (.getfield 25, 3) := by decide +kernel
theorem dX1_sizeOf_16 : decode cX1_sizeOf 16 = .ok (.iload_n 1, 1) := by decide +kernel
theorem dX1_sizeOf_17 : decode cX1_sizeOf 17 = .ok (.iaload, 1) := by decide +kernel
theorem dX1_sizeOf_18 : decode cX1_sizeOf 18 = .ok (.goto 4, 3) := by decide +kernel
theorem dX1_sizeOf_21 : decode cX1_sizeOf 21 = .ok (.iconst 0, 1) := by decide +kernel
theorem dX1_sizeOf_22 : decode cX1_sizeOf 22 = .ok (.ireturn, 1) := by decide +kernel
theorem dX1_valueOf_0 : decode cX1_valueOf 0 = .ok (.iload_n 2, 1) := by decide +kernel
theorem dX1_valueOf_1 : decode cX1_valueOf 1 = .ok (.ifCond .lt 26, 3) := by decide +kernel
theorem dX1_valueOf_4 : decode cX1_valueOf 4 = .ok (.iload_n 2, 1) := by decide +kernel
theorem dX1_valueOf_5 : decode cX1_valueOf 5 = .ok (.aload_n 0, 1) := by decide +kernel
theorem dX1_valueOf_6 : decode cX1_valueOf 6 = .ok (.iload_n 1, 1) := by decide +kernel
theorem dX1_valueOf_7 : decode cX1_valueOf 7 = .ok (.invokevirtual 45, 3) := by decide +kernel
theorem dX1_valueOf_10 : decode cX1_valueOf 10 = .ok (.if_icmp .ge 17, 3) := by decide +kernel
theorem dX1_valueOf_13 : decode cX1_valueOf 13 = .ok (.aload_n 0, 1) := by decide +kernel
theorem dX1_valueOf_14 : decode cX1_valueOf 14 = .ok (.getfield 28, 3) := by decide +kernel
theorem dX1_valueOf_17 : decode cX1_valueOf 17 = .ok (.iload_n 1, 1) := by decide +kernel
theorem dX1_valueOf_18 : decode cX1_valueOf 18 = .ok (.bipush 10, 2) := by decide +kernel
theorem dX1_valueOf_20 : decode cX1_valueOf 20 = .ok (.imul, 1) := by decide +kernel
theorem dX1_valueOf_21 : decode cX1_valueOf 21 = .ok (.iload_n 2, 1) := by decide +kernel
theorem dX1_valueOf_22 : decode cX1_valueOf 22 = .ok (.iadd, 1) := by decide +kernel
theorem dX1_valueOf_23 : decode cX1_valueOf 23 = .ok (.iaload, 1) := by decide +kernel
theorem dX1_valueOf_24 : decode cX1_valueOf 24 = .ok (.goto 4, 3) := by decide +kernel
theorem dX1_valueOf_27 : decode cX1_valueOf 27 = .ok (.iconst 0, 1) := by decide +kernel
theorem dX1_valueOf_28 : decode cX1_valueOf 28 = .ok (.ireturn, 1) := by decide +kernel
theorem dX1_put_0 : decode cX1_put 0 = .ok (.aload_n 0, 1) := by decide +kernel
theorem dX1_put_1 : decode cX1_put 1 = .ok (.iload_n 1, 1) := by decide +kernel
theorem dX1_put_2 : decode cX1_put 2 = .ok (.iload_n 2, 1) := by decide +kernel
theorem dX1_put_3 : decode cX1_put 3 = .ok (.invokevirtual 41, 3) := by decide +kernel
theorem dX1_put_6 : decode cX1_put 6 = .ok (.istore 7, 2) := by decide +kernel
theorem dX1_put_8 : decode cX1_put 8 = .ok (.iload 7, 2) := by decide +kernel
theorem dX1_put_10 : decode cX1_put 10 = .ok (.iconst (-1), 1) := by decide +kernel
theorem dX1_put_11 : decode cX1_put 11 = .ok (.if_icmp .ne 28, 3) := by decide +kernel
theorem dX1_put_14 : decode cX1_put 14 = .ok (.aload_n 0, 1) := by decide +kernel
theorem dX1_put_15 : decode cX1_put 15 = .ok (.getfield 31, 3) := by decide +kernel
theorem dX1_put_18 : decode cX1_put 18 = .ok (.bipush 100, 2) := by decide +kernel
theorem dX1_put_20 : decode cX1_put 20 = .ok (.if_icmp .ge 19, 3) := by decide +kernel
theorem dX1_put_23 : decode cX1_put 23 = .ok (.aload_n 0, 1) := by decide +kernel
theorem dX1_put_24 : decode cX1_put 24 = .ok (.getfield 31, 3) := by decide +kernel
theorem dX1_put_27 : decode cX1_put 27 = .ok (.istore 7, 2) := by decide +kernel
theorem dX1_put_29 : decode cX1_put 29 = .ok (.aload_n 0, 1) := by decide +kernel
theorem dX1_put_30 : decode cX1_put 30 = .ok (.dup, 1) := by decide +kernel
theorem dX1_put_31 : decode cX1_put 31 = .ok (.getfield 31, 3) := by decide +kernel
theorem dX1_put_34 : decode cX1_put 34 = .ok (.iconst 1, 1) := by decide +kernel
theorem dX1_put_35 : decode cX1_put 35 = .ok (.iadd, 1) := by decide +kernel
theorem dX1_put_36 : decode cX1_put 36 = .ok (.putfield 31, 3) := by decide +kernel
theorem dX1_put_39 : decode cX1_put 39 = .ok (.iload 7, 2) := by decide +kernel
theorem dX1_put_41 : decode cX1_put 41 = .ok (.iconst (-1), 1) := by decide +kernel
theorem dX1_put_42 : decode cX1_put 42 = .ok (.if_icmp .ne 9, 3) := by decide +kernel
theorem dX1_put_45 : decode cX1_put 45 = .ok (.aload_n 0, 1) := by decide +kernel
theorem dX1_put_46 : decode cX1_put 46 = .ok (.invokevirtual 49, 3) := by decide +kernel
theorem dX1_put_49 : decode cX1_put 49 = .ok (.istore 7, 2) := by decide +kernel
theorem dX1_put_51 : decode cX1_put 51 = .ok (.aload_n 0, 1) := by decide +kernel
theorem dX1_put_52 : decode cX1_put 52 = .ok (.getfield 9, 3) := by decide +kernel
theorem dX1_put_55 : decode cX1_put 55 = .ok (.iload 7, 2) := by decide +kernel
theorem dX1_put_57 : decode cX1_put 57 = .ok (.iload_n 1, 1) := by decide +kernel
theorem dX1_put_58 : decode cX1_put 58 = .ok (.iastore, 1) := by decide +kernel
theorem dX1_put_59 : decode cX1_put 59 = .ok (.aload_n 0, 1) := by decide +kernel
theorem dX1_put_60 : decode cX1_put 60 = .ok (.getfield 15, 3) := by decide +kernel
theorem dX1_put_63 : decode cX1_put 63 = .ok (.iload 7, 2) := by decide +kernel
theorem dX1_put_65 : decode cX1_put 65 = .ok (.iload_n 2, 1) := by decide +kernel
theorem dX1_put_66 : decode cX1_put 66 = .ok (.iastore, 1) := by decide +kernel
theorem dX1_put_67 : decode cX1_put 67 = .ok (.aload_n 0, 1) := by decide +kernel
theorem dX1_put_68 : decode cX1_put 68 = .ok (.getfield 18, 3) := by decide +kernel
theorem dX1_put_71 : decode cX1_put 71 = .ok (.iload 7, 2) := by decide +kernel
theorem dX1_put_73 : decode cX1_put 73 = .ok (.aload_n 0, 1) := by decide +kernel
theorem dX1_put_74 : decode cX1_put 74 = .ok (.getfield 38, 3) := by decide +kernel
theorem dX1_put_77 : decode cX1_put 77 = .ok (.i2l, 1) := by decide +kernel
theorem dX1_put_78 : decode cX1_put 78 = .ok (.lload 5, 2) := by decide +kernel
theorem dX1_put_80 : decode cX1_put 80 = .ok (.ladd, 1) := by decide +kernel
theorem dX1_put_81 : decode cX1_put 81 = .ok (.lastore, 1) := by decide +kernel
theorem dX1_put_82 : decode cX1_put 82 = .ok (.aload_n 0, 1) := by decide +kernel
theorem dX1_put_83 : decode cX1_put 83 = .ok (.getfield 22, 3) := by decide +kernel
theorem dX1_put_86 : decode cX1_put 86 = .ok (.iload 7, 2) := by decide +kernel
theorem dX1_put_88 : decode cX1_put 88 = .ok (.aload_n 0, 1) := by decide +kernel
theorem dX1_put_89 : decode cX1_put 89 = .ok (.getfield 35, 3) := by decide +kernel
theorem dX1_put_92 : decode cX1_put 92 = .ok (.iastore, 1) := by decide +kernel
theorem dX1_put_93 : decode cX1_put 93 = .ok (.aload_n 0, 1) := by decide +kernel
theorem dX1_put_94 : decode cX1_put 94 = .ok (.dup, 1) := by decide +kernel
theorem dX1_put_95 : decode cX1_put 95 = .ok (.getfield 35, 3) := by decide +kernel
theorem dX1_put_98 : decode cX1_put 98 = .ok (.iconst 1, 1) := by decide +kernel
theorem dX1_put_99 : decode cX1_put 99 = .ok (.iadd, 1) := by decide +kernel
theorem dX1_put_100 : decode cX1_put 100 = .ok (.putfield 35, 3) := by decide +kernel
theorem dX1_put_103 : decode cX1_put 103 = .ok (.aload_n 0, 1) := by decide +kernel
theorem dX1_put_104 : decode cX1_put 104 = .ok (.getfield 25, 3) := by decide +kernel
theorem dX1_put_107 : decode cX1_put 107 = .ok (.iload 7, 2) := by decide +kernel
theorem dX1_put_109 : decode cX1_put 109 = .ok (.iconst 0, 1) := by decide +kernel
theorem dX1_put_110 : decode cX1_put 110 = .ok (.iastore, 1) := by decide +kernel
theorem dX1_put_111 : decode cX1_put 111 = .ok (.iconst 0, 1) := by decide +kernel
theorem dX1_put_112 : decode cX1_put 112 = .ok (.istore 8, 2) := by decide +kernel
theorem dX1_put_114 : decode cX1_put 114 = .ok (.iload 8, 2) := by decide +kernel
theorem dX1_put_116 : decode cX1_put 116 = .ok (.iload 4, 2) := by decide +kernel
theorem dX1_put_118 : decode cX1_put 118 = .ok (.if_icmp .ge 51, 3) := by decide +kernel
theorem dX1_put_121 : decode cX1_put 121 = .ok (.iload 8, 2) := by decide +kernel
theorem dX1_put_123 : decode cX1_put 123 = .ok (.bipush 10, 2) := by decide +kernel
theorem dX1_put_125 : decode cX1_put 125 = .ok (.if_icmp .ge 44, 3) := by decide +kernel
theorem dX1_put_128 : decode cX1_put 128 = .ok (.iload 8, 2) := by decide +kernel
theorem dX1_put_130 : decode cX1_put 130 = .ok (.aload_n 3, 1) := by decide +kernel
theorem dX1_put_131 : decode cX1_put 131 = .ok (.arraylength, 1) := by decide +kernel
theorem dX1_put_132 : decode cX1_put 132 = .ok (.if_icmp .ge 37, 3) := by decide +kernel
theorem dX1_put_135 : decode cX1_put 135 = .ok (.aload_n 0, 1) := by decide +kernel
theorem dX1_put_136 : decode cX1_put 136 = .ok (.getfield 28, 3) := by decide +kernel
theorem dX1_put_139 : decode cX1_put 139 = .ok (.iload 7, 2) := by decide +kernel
theorem dX1_put_141 : decode cX1_put 141 = .ok (.bipush 10, 2) := by decide +kernel
theorem dX1_put_143 : decode cX1_put 143 = .ok (.imul, 1) := by decide +kernel
theorem dX1_put_144 : decode cX1_put 144 = .ok (.iload 8, 2) := by decide +kernel
theorem dX1_put_146 : decode cX1_put 146 = .ok (.iadd, 1) := by decide +kernel
theorem dX1_put_147 : decode cX1_put 147 = .ok (.aload_n 3, 1) := by decide +kernel
theorem dX1_put_148 : decode cX1_put 148 = .ok (.iload 8, 2) := by decide +kernel
theorem dX1_put_150 : decode cX1_put 150 = .ok (.iaload, 1) := by decide +kernel
theorem dX1_put_151 : decode cX1_put 151 = .ok (.iastore, 1) := by decide +kernel
theorem dX1_put_152 : decode cX1_put 152 = .ok (.aload_n 0, 1) := by decide +kernel
theorem dX1_put_153 : decode cX1_put 153 = .ok (.getfield 25, 3) := by decide +kernel
theorem dX1_put_156 : decode cX1_put 156 = .ok (.iload 7, 2) := by decide +kernel
theorem dX1_put_158 : decode cX1_put 158 = .ok (.iload 8, 2) := by decide +kernel
theorem dX1_put_160 : decode cX1_put 160 = .ok (.iconst 1, 1) := by decide +kernel
theorem dX1_put_161 : decode cX1_put 161 = .ok (.iadd, 1) := by decide +kernel
theorem dX1_put_162 : decode cX1_put 162 = .ok (.iastore, 1) := by decide +kernel
theorem dX1_put_163 : decode cX1_put 163 = .ok (.iinc 8 1, 3) := by decide +kernel
theorem dX1_put_166 : decode cX1_put 166 = .ok (.goto (-52), 3) := by decide +kernel
theorem dX1_put_169 : decode cX1_put 169 = .ok (.return_, 1) := by decide +kernel
theorem dX1_slotOf_0 : decode cX1_slotOf 0 = .ok (.iconst 0, 1) := by decide +kernel
theorem dX1_slotOf_1 : decode cX1_slotOf 1 = .ok (.istore_n 3, 1) := by decide +kernel
theorem dX1_slotOf_2 : decode cX1_slotOf 2 = .ok (.iload_n 3, 1) := by decide +kernel
theorem dX1_slotOf_3 : decode cX1_slotOf 3 = .ok (.aload_n 0, 1) := by decide +kernel
theorem dX1_slotOf_4 : decode cX1_slotOf 4 = .ok (.getfield 31, 3) := by decide +kernel
theorem dX1_slotOf_7 : decode cX1_slotOf 7 = .ok (.if_icmp .ge 31, 3) := by decide +kernel
theorem dX1_slotOf_10 : decode cX1_slotOf 10 = .ok (.aload_n 0, 1) := by decide +kernel
theorem dX1_slotOf_11 : decode cX1_slotOf 11 = .ok (.getfield 9, 3) := by decide +kernel
theorem dX1_slotOf_14 : decode cX1_slotOf 14 = .ok (.iload_n 3, 1) := by decide +kernel
theorem dX1_slotOf_15 : decode cX1_slotOf 15 = .ok (.iaload, 1) := by decide +kernel
theorem dX1_slotOf_16 : decode cX1_slotOf 16 = .ok (.iload_n 1, 1) := by decide +kernel
theorem dX1_slotOf_17 : decode cX1_slotOf 17 = .ok (.if_icmp .ne 15, 3) := by decide +kernel
theorem dX1_slotOf_20 : decode cX1_slotOf 20 = .ok (.aload_n 0, 1) := by decide +kernel
theorem dX1_slotOf_21 : decode cX1_slotOf 21 = .ok (.getfield 15, 3) := by decide +kernel
theorem dX1_slotOf_24 : decode cX1_slotOf 24 = .ok (.iload_n 3, 1) := by decide +kernel
theorem dX1_slotOf_25 : decode cX1_slotOf 25 = .ok (.iaload, 1) := by decide +kernel
theorem dX1_slotOf_26 : decode cX1_slotOf 26 = .ok (.iload_n 2, 1) := by decide +kernel
theorem dX1_slotOf_27 : decode cX1_slotOf 27 = .ok (.if_icmp .ne 5, 3) := by decide +kernel
theorem dX1_slotOf_30 : decode cX1_slotOf 30 = .ok (.iload_n 3, 1) := by decide +kernel
theorem dX1_slotOf_31 : decode cX1_slotOf 31 = .ok (.ireturn, 1) := by decide +kernel
theorem dX1_slotOf_32 : decode cX1_slotOf 32 = .ok (.iinc 3 1, 3) := by decide +kernel
theorem dX1_slotOf_35 : decode cX1_slotOf 35 = .ok (.goto (-33), 3) := by decide +kernel
theorem dX1_slotOf_38 : decode cX1_slotOf 38 = .ok (.iconst (-1), 1) := by decide +kernel
theorem dX1_slotOf_39 : decode cX1_slotOf 39 = .ok (.ireturn, 1) := by decide +kernel
theorem dX1_firstToEnd_0 : decode cX1_firstToEnd 0 = .ok (.iconst 0, 1) := by decide +kernel
theorem dX1_firstToEnd_1 : decode cX1_firstToEnd 1 = .ok (.istore_n 1, 1) := by decide +kernel
theorem dX1_firstToEnd_2 : decode cX1_firstToEnd 2 = .ok (.iconst 1, 1) := by decide +kernel
theorem dX1_firstToEnd_3 : decode cX1_firstToEnd 3 = .ok (.istore_n 2, 1) := by decide +kernel
theorem dX1_firstToEnd_4 : decode cX1_firstToEnd 4 = .ok (.iload_n 2, 1) := by decide +kernel
theorem dX1_firstToEnd_5 : decode cX1_firstToEnd 5 = .ok (.aload_n 0, 1) := by decide +kernel
theorem dX1_firstToEnd_6 : decode cX1_firstToEnd 6 = .ok (.getfield 31, 3) := by decide +kernel
theorem dX1_firstToEnd_9 : decode cX1_firstToEnd 9 = .ok (.if_icmp .ge 80, 3) := by decide +kernel
theorem dX1_firstToEnd_12 : decode cX1_firstToEnd 12 = .ok (.aload_n 0, 1) := by decide +kernel
theorem dX1_firstToEnd_13 : decode cX1_firstToEnd 13 = .ok (.getfield 18, 3) := by decide +kernel
theorem dX1_firstToEnd_16 : decode cX1_firstToEnd 16 = .ok (.iload_n 2, 1) := by decide +kernel
theorem dX1_firstToEnd_17 : decode cX1_firstToEnd 17 = .ok (.laload, 1) := by decide +kernel
theorem dX1_firstToEnd_18 : decode cX1_firstToEnd 18 = .ok (.aload_n 0, 1) := by decide +kernel
theorem dX1_firstToEnd_19 : decode cX1_firstToEnd 19 = .ok (.getfield 18, 3) := by decide +kernel
theorem dX1_firstToEnd_22 : decode cX1_firstToEnd 22 = .ok (.iload_n 1, 1) := by decide +kernel
theorem dX1_firstToEnd_23 : decode cX1_firstToEnd 23 = .ok (.laload, 1) := by decide +kernel
theorem dX1_firstToEnd_24 : decode cX1_firstToEnd 24 = .ok (.lcmp, 1) := by decide +kernel
theorem dX1_firstToEnd_25 : decode cX1_firstToEnd 25 = .ok (.ifCond .ge 7, 3) := by decide +kernel
theorem dX1_firstToEnd_28 : decode cX1_firstToEnd 28 = .ok (.iconst 1, 1) := by decide +kernel
theorem dX1_firstToEnd_29 : decode cX1_firstToEnd 29 = .ok (.goto 4, 3) := by decide +kernel
theorem dX1_firstToEnd_32 : decode cX1_firstToEnd 32 = .ok (.iconst 0, 1) := by decide +kernel
theorem dX1_firstToEnd_33 : decode cX1_firstToEnd 33 = .ok (.istore_n 3, 1) := by decide +kernel
theorem dX1_firstToEnd_34 : decode cX1_firstToEnd 34 = .ok (.aload_n 0, 1) := by decide +kernel
theorem dX1_firstToEnd_35 : decode cX1_firstToEnd 35 = .ok (.getfield 18, 3) := by decide +kernel
theorem dX1_firstToEnd_38 : decode cX1_firstToEnd 38 = .ok (.iload_n 2, 1) := by decide +kernel
theorem dX1_firstToEnd_39 : decode cX1_firstToEnd 39 = .ok (.laload, 1) := by decide +kernel
theorem dX1_firstToEnd_40 : decode cX1_firstToEnd 40 = .ok (.aload_n 0, 1) := by decide +kernel
theorem dX1_firstToEnd_41 : decode cX1_firstToEnd 41 = .ok (.getfield 18, 3) := by decide +kernel
theorem dX1_firstToEnd_44 : decode cX1_firstToEnd 44 = .ok (.iload_n 1, 1) := by decide +kernel
theorem dX1_firstToEnd_45 : decode cX1_firstToEnd 45 = .ok (.laload, 1) := by decide +kernel
theorem dX1_firstToEnd_46 : decode cX1_firstToEnd 46 = .ok (.lcmp, 1) := by decide +kernel
theorem dX1_firstToEnd_47 : decode cX1_firstToEnd 47 = .ok (.ifCond .ne 22, 3) := by decide +kernel
theorem dX1_firstToEnd_50 : decode cX1_firstToEnd 50 = .ok (.aload_n 0, 1) := by decide +kernel
theorem dX1_firstToEnd_51 : decode cX1_firstToEnd 51 = .ok (.getfield 22, 3) := by decide +kernel
theorem dX1_firstToEnd_54 : decode cX1_firstToEnd 54 = .ok (.iload_n 2, 1) := by decide +kernel
theorem dX1_firstToEnd_55 : decode cX1_firstToEnd 55 = .ok (.iaload, 1) := by decide +kernel
theorem dX1_firstToEnd_56 : decode cX1_firstToEnd 56 = .ok (.aload_n 0, 1) := by decide +kernel
theorem dX1_firstToEnd_57 : decode cX1_firstToEnd 57 = .ok (.getfield 22, 3) := by decide +kernel
theorem dX1_firstToEnd_60 : decode cX1_firstToEnd 60 = .ok (.iload_n 1, 1) := by decide +kernel
theorem dX1_firstToEnd_61 : decode cX1_firstToEnd 61 = .ok (.iaload, 1) := by decide +kernel
theorem dX1_firstToEnd_62 : decode cX1_firstToEnd 62 = .ok (.if_icmp .ge 7, 3) := by decide +kernel
theorem dX1_firstToEnd_65 : decode cX1_firstToEnd 65 = .ok (.iconst 1, 1) := by decide +kernel
theorem dX1_firstToEnd_66 : decode cX1_firstToEnd 66 = .ok (.goto 4, 3) := by decide +kernel
theorem dX1_firstToEnd_69 : decode cX1_firstToEnd 69 = .ok (.iconst 0, 1) := by decide +kernel
theorem dX1_firstToEnd_70 : decode cX1_firstToEnd 70 = .ok (.istore 4, 2) := by decide +kernel
theorem dX1_firstToEnd_72 : decode cX1_firstToEnd 72 = .ok (.iload_n 3, 1) := by decide +kernel
theorem dX1_firstToEnd_73 : decode cX1_firstToEnd 73 = .ok (.ifCond .ne 8, 3) := by decide +kernel
theorem dX1_firstToEnd_76 : decode cX1_firstToEnd 76 = .ok (.iload 4, 2) := by decide +kernel
theorem dX1_firstToEnd_78 : decode cX1_firstToEnd 78 = .ok (.ifCond .eq 5, 3) := by decide +kernel
theorem dX1_firstToEnd_81 : decode cX1_firstToEnd 81 = .ok (.iload_n 2, 1) := by decide +kernel
theorem dX1_firstToEnd_82 : decode cX1_firstToEnd 82 = .ok (.istore_n 1, 1) := by decide +kernel
theorem dX1_firstToEnd_83 : decode cX1_firstToEnd 83 = .ok (.iinc 2 1, 3) := by decide +kernel
theorem dX1_firstToEnd_86 : decode cX1_firstToEnd 86 = .ok (.goto (-82), 3) := by decide +kernel
theorem dX1_firstToEnd_89 : decode cX1_firstToEnd 89 = .ok (.iload_n 1, 1) := by decide +kernel
theorem dX1_firstToEnd_90 : decode cX1_firstToEnd 90 = .ok (.ireturn, 1) := by decide +kernel
theorem dX2_init_0 : decode cX2_init 0 = .ok (.aload_n 0, 1) := by decide +kernel
theorem dX2_init_1 : decode cX2_init 1 = .ok (.invokespecial 3, 3) := by decide +kernel
theorem dX2_init_4 : decode cX2_init 4 = .ok (.aload_n 0, 1) := by decide +kernel
theorem dX2_init_5 : decode cX2_init 5 = .ok (.iconst 4, 1) := by decide +kernel
theorem dX2_init_6 : decode cX2_init 6 = .ok (.newarray .int, 2) := by decide +kernel
theorem dX2_init_8 : decode cX2_init 8 = .ok (.putfield 9, 3) := by decide +kernel
theorem dX2_init_11 : decode cX2_init 11 = .ok (.aload_n 0, 1) := by decide +kernel
theorem dX2_init_12 : decode cX2_init 12 = .ok (.iconst 4, 1) := by decide +kernel
theorem dX2_init_13 : decode cX2_init 13 = .ok (.newarray .int, 2) := by decide +kernel
theorem dX2_init_15 : decode cX2_init 15 = .ok (.putfield 15, 3) := by decide +kernel
theorem dX2_init_18 : decode cX2_init 18 = .ok (.aload_n 0, 1) := by decide +kernel
theorem dX2_init_19 : decode cX2_init 19 = .ok (.iconst 4, 1) := by decide +kernel
theorem dX2_init_20 : decode cX2_init 20 = .ok (.newarray .int, 2) := by decide +kernel
theorem dX2_init_22 : decode cX2_init 22 = .ok (.putfield 18, 3) := by decide +kernel
theorem dX2_init_25 : decode cX2_init 25 = .ok (.aload_n 0, 1) := by decide +kernel
theorem dX2_init_26 : decode cX2_init 26 = .ok (.iconst 4, 1) := by decide +kernel
theorem dX2_init_27 : decode cX2_init 27 = .ok (.newarray .int, 2) := by decide +kernel
theorem dX2_init_29 : decode cX2_init 29 = .ok (.putfield 21, 3) := by decide +kernel
theorem dX2_init_32 : decode cX2_init 32 = .ok (.aload_n 0, 1) := by decide +kernel
theorem dX2_init_33 : decode cX2_init 33 = .ok (.sipush 160, 3) := by decide +kernel
theorem dX2_init_36 : decode cX2_init 36 = .ok (.newarray .int, 2) := by decide +kernel
theorem dX2_init_38 : decode cX2_init 38 = .ok (.putfield 24, 3) := by decide +kernel
theorem dX2_init_41 : decode cX2_init 41 = .ok (.aload_n 0, 1) := by decide +kernel
theorem dX2_init_42 : decode cX2_init 42 = .ok (.iconst 4, 1) := by decide +kernel
theorem dX2_init_43 : decode cX2_init 43 = .ok (.newarray .int, 2) := by decide +kernel
theorem dX2_init_45 : decode cX2_init 45 = .ok (.putfield 27, 3) := by decide +kernel
theorem dX2_init_48 : decode cX2_init 48 = .ok (.aload_n 0, 1) := by decide +kernel
theorem dX2_init_49 : decode cX2_init 49 = .ok (.sipush 1200, 3) := by decide +kernel
theorem dX2_init_52 : decode cX2_init 52 = .ok (.newarray .int, 2) := by decide +kernel
theorem dX2_init_54 : decode cX2_init 54 = .ok (.putfield 30, 3) := by decide +kernel
theorem dX2_init_57 : decode cX2_init 57 = .ok (.aload_n 0, 1) := by decide +kernel
theorem dX2_init_58 : decode cX2_init 58 = .ok (.iconst 4, 1) := by decide +kernel
theorem dX2_init_59 : decode cX2_init 59 = .ok (.newarray .int, 2) := by decide +kernel
theorem dX2_init_61 : decode cX2_init 61 = .ok (.putfield 33, 3) := by decide +kernel
theorem dX2_init_64 : decode cX2_init 64 = .ok (.aload_n 0, 1) := by decide +kernel
theorem dX2_init_65 : decode cX2_init 65 = .ok (.iconst 0, 1) := by decide +kernel
theorem dX2_init_66 : decode cX2_init 66 = .ok (.putfield 36, 3) := by decide +kernel
theorem dX2_init_69 : decode cX2_init 69 = .ok (.aload_n 0, 1) := by decide +kernel
theorem dX2_init_70 : decode cX2_init 70 = .ok (.iconst 0, 1) := by decide +kernel
theorem dX2_init_71 : decode cX2_init 71 = .ok (.putfield 40, 3) := by decide +kernel
theorem dX2_init_74 : decode cX2_init 74 = .ok (.return_, 1) := by decide +kernel
theorem dX2_depth_0 : decode cX2_depth 0 = .ok (.aload_n 0, 1) := by decide +kernel
theorem dX2_depth_1 : decode cX2_depth 1 = .ok (.getfield 36, 3) := by decide +kernel
theorem dX2_depth_4 : decode cX2_depth 4 = .ok (.ireturn, 1) := by decide +kernel
theorem dX2_topName_0 : decode cX2_topName 0 = .ok (.aload_n 0, 1) := by decide +kernel
theorem dX2_topName_1 : decode cX2_topName 1 = .ok (.getfield 9, 3) := by decide +kernel
theorem dX2_topName_4 : decode cX2_topName 4 = .ok (.aload_n 0, 1) := by decide +kernel
theorem dX2_topName_5 : decode cX2_topName 5 = .ok (.getfield 40, 3) := by decide +kernel
theorem dX2_topName_8 : decode cX2_topName 8 = .ok (.iaload, 1) := by decide +kernel
theorem dX2_topName_9 : decode cX2_topName 9 = .ok (.ireturn, 1) := by decide +kernel
theorem dX2_topType_0 : decode cX2_topType 0 = .ok (.aload_n 0, 1) := by decide +kernel
theorem dX2_topType_1 : decode cX2_topType 1 = .ok (.getfield 15, 3) := by decide +kernel
theorem dX2_topType_4 : decode cX2_topType 4 = .ok (.aload_n 0, 1) := by decide +kernel
theorem dX2_topType_5 : decode cX2_topType 5 = .ok (.getfield 40, 3) := by decide +kernel
theorem dX2_topType_8 : decode cX2_topType 8 = .ok (.iaload, 1) := by decide +kernel
theorem dX2_topType_9 : decode cX2_topType 9 = .ok (.ireturn, 1) := by decide +kernel
theorem dX2_topChains_0 : decode cX2_topChains 0 = .ok (.aload_n 0, 1) := by decide +kernel
theorem dX2_topChains_1 : decode cX2_topChains 1 = .ok (.getfield 18, 3) := by decide +kernel
theorem dX2_topChains_4 : decode cX2_topChains 4 = .ok (.aload_n 0, 1) := by decide +kernel
theorem dX2_topChains_5 : decode cX2_topChains 5 = .ok (.getfield 40, 3) := by decide +kernel
theorem dX2_topChains_8 : decode cX2_topChains 8 = .ok (.iaload, 1) := by decide +kernel
theorem dX2_topChains_9 : decode cX2_topChains 9 = .ok (.ireturn, 1) := by decide +kernel
theorem dX2_topPlace_0 : decode cX2_topPlace 0 = .ok (.aload_n 0, 1) := by decide +kernel
theorem dX2_topPlace_1 : decode cX2_topPlace 1 = .ok (.getfield 21, 3) := by decide +kernel
theorem dX2_topPlace_4 : decode cX2_topPlace 4 = .ok (.aload_n 0, 1) := by decide +kernel
theorem dX2_topPlace_5 : decode cX2_topPlace 5 = .ok (.getfield 40, 3) := by decide +kernel
theorem dX2_topPlace_8 : decode cX2_topPlace 8 = .ok (.iaload, 1) := by decide +kernel
theorem dX2_topPlace_9 : decode cX2_topPlace 9 = .ok (.ireturn, 1) := by decide +kernel
theorem dX2_firstName_0 : decode cX2_firstName 0 = .ok (.aload_n 0, 1) := by decide +kernel
theorem dX2_firstName_1 : decode cX2_firstName 1 = .ok (.getfield 9, 3) := by decide +kernel
theorem dX2_firstName_4 : decode cX2_firstName 4 = .ok (.iconst 0, 1) := by decide +kernel
theorem dX2_firstName_5 : decode cX2_firstName 5 = .ok (.iaload, 1) := by decide +kernel
theorem dX2_firstName_6 : decode cX2_firstName 6 = .ok (.ireturn, 1) := by decide +kernel
theorem dX2_firstChains_0 : decode cX2_firstChains 0 = .ok (.aload_n 0, 1) := by decide +kernel
theorem dX2_firstChains_1 : decode cX2_firstChains 1 = .ok (.getfield 18, 3) := by decide +kernel
theorem dX2_firstChains_4 : decode cX2_firstChains 4 = .ok (.iconst 0, 1) := by decide +kernel
theorem dX2_firstChains_5 : decode cX2_firstChains 5 = .ok (.iaload, 1) := by decide +kernel
theorem dX2_firstChains_6 : decode cX2_firstChains 6 = .ok (.ireturn, 1) := by decide +kernel
theorem dX2_clear_0 : decode cX2_clear 0 = .ok (.aload_n 0, 1) := by decide +kernel
theorem dX2_clear_1 : decode cX2_clear 1 = .ok (.iconst 0, 1) := by decide +kernel
theorem dX2_clear_2 : decode cX2_clear 2 = .ok (.putfield 36, 3) := by decide +kernel
theorem dX2_clear_5 : decode cX2_clear 5 = .ok (.aload_n 0, 1) := by decide +kernel
theorem dX2_clear_6 : decode cX2_clear 6 = .ok (.iconst 0, 1) := by decide +kernel
theorem dX2_clear_7 : decode cX2_clear 7 = .ok (.putfield 40, 3) := by decide +kernel
theorem dX2_clear_10 : decode cX2_clear 10 = .ok (.return_, 1) := by decide +kernel
theorem dX2_push_0 : decode cX2_push 0 = .ok (.aload_n 0, 1) := by decide +kernel
theorem dX2_push_1 : decode cX2_push 1 = .ok (.getfield 36, 3) := by decide +kernel
theorem dX2_push_4 : decode cX2_push 4 = .ok (.iconst 4, 1) := by decide +kernel
theorem dX2_push_5 : decode cX2_push 5 = .ok (.if_icmp .lt 5, 3) := by decide +kernel
theorem dX2_push_8 : decode cX2_push 8 = .ok (.iconst 0, 1) := by decide +kernel
theorem dX2_push_9 : decode cX2_push 9 = .ok (.ireturn, 1) := by decide +kernel
theorem dX2_push_10 : decode cX2_push 10 = .ok (.aload_n 0, 1) := by decide +kernel
theorem dX2_push_11 : decode cX2_push 11 = .ok (.aload_n 0, 1) := by decide +kernel
theorem dX2_push_12 : decode cX2_push 12 = .ok (.getfield 36, 3) := by decide +kernel
theorem dX2_push_15 : decode cX2_push 15 = .ok (.putfield 40, 3) := by decide +kernel
theorem dX2_push_18 : decode cX2_push 18 = .ok (.aload_n 0, 1) := by decide +kernel
theorem dX2_push_19 : decode cX2_push 19 = .ok (.dup, 1) := by decide +kernel
theorem dX2_push_20 : decode cX2_push 20 = .ok (.getfield 36, 3) := by decide +kernel
theorem dX2_push_23 : decode cX2_push 23 = .ok (.iconst 1, 1) := by decide +kernel
theorem dX2_push_24 : decode cX2_push 24 = .ok (.iadd, 1) := by decide +kernel
theorem dX2_push_25 : decode cX2_push 25 = .ok (.putfield 36, 3) := by decide +kernel
theorem dX2_push_28 : decode cX2_push 28 = .ok (.aload_n 0, 1) := by decide +kernel
theorem dX2_push_29 : decode cX2_push 29 = .ok (.getfield 9, 3) := by decide +kernel
theorem dX2_push_32 : decode cX2_push 32 = .ok (.aload_n 0, 1) := by decide +kernel
theorem dX2_push_33 : decode cX2_push 33 = .ok (.getfield 40, 3) := by decide +kernel
theorem dX2_push_36 : decode cX2_push 36 = .ok (.iload_n 1, 1) := by decide +kernel
theorem dX2_push_37 : decode cX2_push 37 = .ok (.iastore, 1) := by decide +kernel
theorem dX2_push_38 : decode cX2_push 38 = .ok (.aload_n 0, 1) := by decide +kernel
theorem dX2_push_39 : decode cX2_push 39 = .ok (.getfield 15, 3) := by decide +kernel
theorem dX2_push_42 : decode cX2_push 42 = .ok (.aload_n 0, 1) := by decide +kernel
theorem dX2_push_43 : decode cX2_push 43 = .ok (.getfield 40, 3) := by decide +kernel
theorem dX2_push_46 : decode cX2_push 46 = .ok (.iload_n 2, 1) := by decide +kernel
theorem dX2_push_47 : decode cX2_push 47 = .ok (.iastore, 1) := by decide +kernel
theorem dX2_push_48 : decode cX2_push 48 = .ok (.aload_n 0, 1) := by decide +kernel
theorem dX2_push_49 : decode cX2_push 49 = .ok (.getfield 18, 3) := by decide +kernel
theorem dX2_push_52 : decode cX2_push 52 = .ok (.aload_n 0, 1) := by decide +kernel
theorem dX2_push_53 : decode cX2_push 53 = .ok (.getfield 40, 3) := by decide +kernel
theorem dX2_push_56 : decode cX2_push 56 = .ok (.iconst 0, 1) := by decide +kernel
theorem dX2_push_57 : decode cX2_push 57 = .ok (.iastore, 1) := by decide +kernel
theorem dX2_push_58 : decode cX2_push 58 = .ok (.aload_n 0, 1) := by decide +kernel
theorem dX2_push_59 : decode cX2_push 59 = .ok (.getfield 21, 3) := by decide +kernel
theorem dX2_push_62 : decode cX2_push 62 = .ok (.aload_n 0, 1) := by decide +kernel
theorem dX2_push_63 : decode cX2_push 63 = .ok (.getfield 40, 3) := by decide +kernel
theorem dX2_push_66 : decode cX2_push 66 = .ok (.iconst (-1), 1) := by decide +kernel
theorem dX2_push_67 : decode cX2_push 67 = .ok (.iastore, 1) := by decide +kernel
theorem dX2_push_68 : decode cX2_push 68 = .ok (.aload_n 0, 1) := by decide +kernel
theorem dX2_push_69 : decode cX2_push 69 = .ok (.invokevirtual 43, 3) := by decide +kernel
theorem dX2_push_72 : decode cX2_push 72 = .ok (.iconst 1, 1) := by decide +kernel
theorem dX2_push_73 : decode cX2_push 73 = .ok (.ireturn, 1) := by decide +kernel
theorem dX2_pop_0 : decode cX2_pop 0 = .ok (.aload_n 0, 1) := by decide +kernel
theorem dX2_pop_1 : decode cX2_pop 1 = .ok (.aload_n 0, 1) := by decide +kernel
theorem dX2_pop_2 : decode cX2_pop 2 = .ok (.getfield 36, 3) := by decide +kernel
theorem dX2_pop_5 : decode cX2_pop 5 = .ok (.ifCond .le 12, 3) := by decide +kernel
theorem dX2_pop_8 : decode cX2_pop 8 = .ok (.aload_n 0, 1) := by decide +kernel
theorem dX2_pop_9 : decode cX2_pop 9 = .ok (.getfield 36, 3) := by decide +kernel
theorem dX2_pop_12 : decode cX2_pop 12 = .ok (.iconst 1, 1) := by decide +kernel
theorem dX2_pop_13 : decode cX2_pop 13 = .ok (.isub, 1) := by decide +kernel
theorem dX2_pop_14 : decode cX2_pop 14 = .ok (.goto 4, 3) := by decide +kernel
theorem dX2_pop_17 : decode cX2_pop 17 = .ok (.iconst 0, 1) := by decide +kernel
theorem dX2_pop_18 : decode cX2_pop 18 = .ok (.putfield 36, 3) := by decide +kernel
theorem dX2_pop_21 : decode cX2_pop 21 = .ok (.aload_n 0, 1) := by decide +kernel
theorem dX2_pop_22 : decode cX2_pop 22 = .ok (.aload_n 0, 1) := by decide +kernel
theorem dX2_pop_23 : decode cX2_pop 23 = .ok (.getfield 36, 3) := by decide +kernel
theorem dX2_pop_26 : decode cX2_pop 26 = .ok (.ifCond .le 12, 3) := by decide +kernel
theorem dX2_pop_29 : decode cX2_pop 29 = .ok (.aload_n 0, 1) := by decide +kernel
theorem dX2_pop_30 : decode cX2_pop 30 = .ok (.getfield 36, 3) := by decide +kernel
theorem dX2_pop_33 : decode cX2_pop 33 = .ok (.iconst 1, 1) := by decide +kernel
theorem dX2_pop_34 : decode cX2_pop 34 = .ok (.isub, 1) := by decide +kernel
theorem dX2_pop_35 : decode cX2_pop 35 = .ok (.goto 4, 3) := by decide +kernel
theorem dX2_pop_38 : decode cX2_pop 38 = .ok (.iconst 0, 1) := by decide +kernel
theorem dX2_pop_39 : decode cX2_pop 39 = .ok (.putfield 40, 3) := by decide +kernel
theorem dX2_pop_42 : decode cX2_pop 42 = .ok (.return_, 1) := by decide +kernel
theorem dX2_follow_0 : decode cX2_follow 0 = .ok (.aload_n 0, 1) := by decide +kernel
theorem dX2_follow_1 : decode cX2_follow 1 = .ok (.getfield 9, 3) := by decide +kernel
theorem dX2_follow_4 : decode cX2_follow 4 = .ok (.aload_n 0, 1) := by decide +kernel
theorem dX2_follow_5 : decode cX2_follow 5 = .ok (.getfield 40, 3) := by decide +kernel
theorem dX2_follow_8 : decode cX2_follow 8 = .ok (.iload_n 1, 1) := by decide +kernel
theorem dX2_follow_9 : decode cX2_follow 9 = .ok (.iastore, 1) := by decide +kernel
theorem dX2_follow_10 : decode cX2_follow 10 = .ok (.aload_n 0, 1) := by decide +kernel
theorem dX2_follow_11 : decode cX2_follow 11 = .ok (.getfield 18, 3) := by decide +kernel
theorem dX2_follow_14 : decode cX2_follow 14 = .ok (.aload_n 0, 1) := by decide +kernel
theorem dX2_follow_15 : decode cX2_follow 15 = .ok (.getfield 40, 3) := by decide +kernel
theorem dX2_follow_18 : decode cX2_follow 18 = .ok (.dup2, 1) := by decide +kernel
theorem dX2_follow_19 : decode cX2_follow 19 = .ok (.iaload, 1) := by decide +kernel
theorem dX2_follow_20 : decode cX2_follow 20 = .ok (.iconst 1, 1) := by decide +kernel
theorem dX2_follow_21 : decode cX2_follow 21 = .ok (.iadd, 1) := by decide +kernel
theorem dX2_follow_22 : decode cX2_follow 22 = .ok (.iastore, 1) := by decide +kernel
theorem dX2_follow_23 : decode cX2_follow 23 = .ok (.aload_n 0, 1) := by decide +kernel
theorem dX2_follow_24 : decode cX2_follow 24 = .ok (.invokevirtual 43, 3) := by decide +kernel
theorem dX2_follow_27 : decode cX2_follow 27 = .ok (.return_, 1) := by decide +kernel
theorem dX2_lead_0 : decode cX2_lead 0 = .ok (.aload_n 0, 1) := by decide +kernel
theorem dX2_lead_1 : decode cX2_lead 1 = .ok (.getfield 21, 3) := by decide +kernel
theorem dX2_lead_4 : decode cX2_lead 4 = .ok (.aload_n 0, 1) := by decide +kernel
theorem dX2_lead_5 : decode cX2_lead 5 = .ok (.getfield 40, 3) := by decide +kernel
theorem dX2_lead_8 : decode cX2_lead 8 = .ok (.iaload, 1) := by decide +kernel
theorem dX2_lead_9 : decode cX2_lead 9 = .ok (.iload_n 1, 1) := by decide +kernel
theorem dX2_lead_10 : decode cX2_lead 10 = .ok (.if_icmp .eq 17, 3) := by decide +kernel
theorem dX2_lead_13 : decode cX2_lead 13 = .ok (.aload_n 0, 1) := by decide +kernel
theorem dX2_lead_14 : decode cX2_lead 14 = .ok (.getfield 21, 3) := by decide +kernel
theorem dX2_lead_17 : decode cX2_lead 17 = .ok (.aload_n 0, 1) := by decide +kernel
theorem dX2_lead_18 : decode cX2_lead 18 = .ok (.getfield 40, 3) := by decide +kernel
theorem dX2_lead_21 : decode cX2_lead 21 = .ok (.iload_n 1, 1) := by decide +kernel
theorem dX2_lead_22 : decode cX2_lead 22 = .ok (.iastore, 1) := by decide +kernel
theorem dX2_lead_23 : decode cX2_lead 23 = .ok (.aload_n 0, 1) := by decide +kernel
theorem dX2_lead_24 : decode cX2_lead 24 = .ok (.invokevirtual 43, 3) := by decide +kernel
theorem dX2_lead_27 : decode cX2_lead 27 = .ok (.return_, 1) := by decide +kernel
theorem dX2_hasTried_0 : decode cX2_hasTried 0 = .ok (.iconst 0, 1) := by decide +kernel
theorem dX2_hasTried_1 : decode cX2_hasTried 1 = .ok (.istore_n 2, 1) := by decide +kernel
theorem dX2_hasTried_2 : decode cX2_hasTried 2 = .ok (.iload_n 2, 1) := by decide +kernel
theorem dX2_hasTried_3 : decode cX2_hasTried 3 = .ok (.aload_n 0, 1) := by decide +kernel
theorem dX2_hasTried_4 : decode cX2_hasTried 4 = .ok (.getfield 27, 3) := by decide +kernel
theorem dX2_hasTried_7 : decode cX2_hasTried 7 = .ok (.aload_n 0, 1) := by decide +kernel
theorem dX2_hasTried_8 : decode cX2_hasTried 8 = .ok (.getfield 40, 3) := by decide +kernel
theorem dX2_hasTried_11 : decode cX2_hasTried 11 = .ok (.iaload, 1) := by decide +kernel
theorem dX2_hasTried_12 : decode cX2_hasTried 12 = .ok (.if_icmp .ge 29, 3) := by decide +kernel
theorem dX2_hasTried_15 : decode cX2_hasTried 15 = .ok (.aload_n 0, 1) := by decide +kernel
theorem dX2_hasTried_16 : decode cX2_hasTried 16 = .ok (.getfield 24, 3) := by decide +kernel
theorem dX2_hasTried_19 : decode cX2_hasTried 19 = .ok (.aload_n 0, 1) := by decide +kernel
theorem dX2_hasTried_20 : decode cX2_hasTried 20 = .ok (.getfield 40, 3) := by decide +kernel
theorem dX2_hasTried_23 : decode cX2_hasTried 23 = .ok (.bipush 40, 2) := by decide +kernel
theorem dX2_hasTried_25 : decode cX2_hasTried 25 = .ok (.imul, 1) := by decide +kernel
theorem dX2_hasTried_26 : decode cX2_hasTried 26 = .ok (.iload_n 2, 1) := by decide +kernel
theorem dX2_hasTried_27 : decode cX2_hasTried 27 = .ok (.iadd, 1) := by decide +kernel
theorem dX2_hasTried_28 : decode cX2_hasTried 28 = .ok (.iaload, 1) := by decide +kernel
theorem dX2_hasTried_29 : decode cX2_hasTried 29 = .ok (.iload_n 1, 1) := by decide +kernel
theorem dX2_hasTried_30 : decode cX2_hasTried 30 = .ok (.if_icmp .ne 5, 3) := by decide +kernel
theorem dX2_hasTried_33 : decode cX2_hasTried 33 = .ok (.iconst 1, 1) := by decide +kernel
theorem dX2_hasTried_34 : decode cX2_hasTried 34 = .ok (.ireturn, 1) := by decide +kernel
theorem dX2_hasTried_35 : decode cX2_hasTried 35 = .ok (.iinc 2 1, 3) := by decide +kernel
theorem dX2_hasTried_38 : decode cX2_hasTried 38 = .ok (.goto (-36), 3) := by decide +kernel
theorem dX2_hasTried_41 : decode cX2_hasTried 41 = .ok (.iconst 0, 1) := by decide +kernel
theorem dX2_hasTried_42 : decode cX2_hasTried 42 = .ok (.ireturn, 1) := by decide +kernel
theorem dX2_addTried_0 : decode cX2_addTried 0 = .ok (.aload_n 0, 1) := by decide +kernel
theorem dX2_addTried_1 : decode cX2_addTried 1 = .ok (.getfield 27, 3) := by decide +kernel
theorem dX2_addTried_4 : decode cX2_addTried 4 = .ok (.aload_n 0, 1) := by decide +kernel
theorem dX2_addTried_5 : decode cX2_addTried 5 = .ok (.getfield 40, 3) := by decide +kernel
theorem dX2_addTried_8 : decode cX2_addTried 8 = .ok (.iaload, 1) := by decide +kernel
theorem dX2_addTried_9 : decode cX2_addTried 9 = .ok (.bipush 40, 2) := by decide +kernel
theorem dX2_addTried_11 : decode cX2_addTried 11 = .ok (.if_icmp .ge 39, 3) := by decide +kernel
theorem dX2_addTried_14 : decode cX2_addTried 14 = .ok (.aload_n 0, 1) := by decide +kernel
theorem dX2_addTried_15 : decode cX2_addTried 15 = .ok (.getfield 24, 3) := by decide +kernel
theorem dX2_addTried_18 : decode cX2_addTried 18 = .ok (.aload_n 0, 1) := by decide +kernel
theorem dX2_addTried_19 : decode cX2_addTried 19 = .ok (.getfield 40, 3) := by decide +kernel
theorem dX2_addTried_22 : decode cX2_addTried 22 = .ok (.bipush 40, 2) := by decide +kernel
theorem dX2_addTried_24 : decode cX2_addTried 24 = .ok (.imul, 1) := by decide +kernel
theorem dX2_addTried_25 : decode cX2_addTried 25 = .ok (.aload_n 0, 1) := by decide +kernel
theorem dX2_addTried_26 : decode cX2_addTried 26 = .ok (.getfield 27, 3) := by decide +kernel
theorem dX2_addTried_29 : decode cX2_addTried 29 = .ok (.aload_n 0, 1) := by decide +kernel
theorem dX2_addTried_30 : decode cX2_addTried 30 = .ok (.getfield 40, 3) := by decide +kernel
theorem dX2_addTried_33 : decode cX2_addTried 33 = .ok (.iaload, 1) := by decide +kernel
theorem dX2_addTried_34 : decode cX2_addTried 34 = .ok (.iadd, 1) := by decide +kernel
theorem dX2_addTried_35 : decode cX2_addTried 35 = .ok (.iload_n 1, 1) := by decide +kernel
theorem dX2_addTried_36 : decode cX2_addTried 36 = .ok (.iastore, 1) := by decide +kernel
theorem dX2_addTried_37 : decode cX2_addTried 37 = .ok (.aload_n 0, 1) := by decide +kernel
theorem dX2_addTried_38 : decode cX2_addTried 38 = .ok (.getfield 27, 3) := by decide +kernel
theorem dX2_addTried_41 : decode cX2_addTried 41 = .ok (.aload_n 0, 1) := by decide +kernel
theorem dX2_addTried_42 : decode cX2_addTried 42 = .ok (.getfield 40, 3) := by decide +kernel
theorem dX2_addTried_45 : decode cX2_addTried 45 = .ok (.dup2, 1) := by decide +kernel
theorem dX2_addTried_46 : decode cX2_addTried 46 = .ok (.iaload, 1) := by decide +kernel
theorem dX2_addTried_47 : decode cX2_addTried 47 = .ok (.iconst 1, 1) := by decide +kernel
theorem dX2_addTried_48 : decode cX2_addTried 48 = .ok (.iadd, 1) := by decide +kernel
theorem dX2_addTried_49 : decode cX2_addTried 49 = .ok (.iastore, 1) := by decide +kernel
theorem dX2_addTried_50 : decode cX2_addTried 50 = .ok (.return_, 1) := by decide +kernel
theorem dX2_hasSentFor_0 : decode cX2_hasSentFor 0 = .ok (.iconst 0, 1) := by decide +kernel
theorem dX2_hasSentFor_1 : decode cX2_hasSentFor 1 = .ok (.istore_n 2, 1) := by decide +kernel
theorem dX2_hasSentFor_2 : decode cX2_hasSentFor 2 = .ok (.iload_n 2, 1) := by decide +kernel
theorem dX2_hasSentFor_3 : decode cX2_hasSentFor 3 = .ok (.aload_n 0, 1) := by decide +kernel
theorem dX2_hasSentFor_4 : decode cX2_hasSentFor 4 = .ok (.getfield 33, 3) := by decide +kernel
theorem dX2_hasSentFor_7 : decode cX2_hasSentFor 7 = .ok (.aload_n 0, 1) := by decide +kernel
theorem dX2_hasSentFor_8 : decode cX2_hasSentFor 8 = .ok (.getfield 40, 3) := by decide +kernel
theorem dX2_hasSentFor_11 : decode cX2_hasSentFor 11 = .ok (.iaload, 1) := by decide +kernel
theorem dX2_hasSentFor_12 : decode cX2_hasSentFor 12 = .ok (.if_icmp .ge 30, 3) := by decide +kernel
theorem dX2_hasSentFor_15 : decode cX2_hasSentFor 15 = .ok (.aload_n 0, 1) := by decide +kernel
theorem dX2_hasSentFor_16 : decode cX2_hasSentFor 16 = .ok (.getfield 30, 3) := by decide +kernel
theorem dX2_hasSentFor_19 : decode cX2_hasSentFor 19 = .ok (.aload_n 0, 1) := by decide +kernel
theorem dX2_hasSentFor_20 : decode cX2_hasSentFor 20 = .ok (.getfield 40, 3) := by decide +kernel
theorem dX2_hasSentFor_23 : decode cX2_hasSentFor 23 = .ok (.sipush 300, 3) := by decide +kernel
theorem dX2_hasSentFor_26 : decode cX2_hasSentFor 26 = .ok (.imul, 1) := by decide +kernel
theorem dX2_hasSentFor_27 : decode cX2_hasSentFor 27 = .ok (.iload_n 2, 1) := by decide +kernel
theorem dX2_hasSentFor_28 : decode cX2_hasSentFor 28 = .ok (.iadd, 1) := by decide +kernel
theorem dX2_hasSentFor_29 : decode cX2_hasSentFor 29 = .ok (.iaload, 1) := by decide +kernel
theorem dX2_hasSentFor_30 : decode cX2_hasSentFor 30 = .ok (.iload_n 1, 1) := by decide +kernel
theorem dX2_hasSentFor_31 : decode cX2_hasSentFor 31 = .ok (.if_icmp .ne 5, 3) := by decide +kernel
theorem dX2_hasSentFor_34 : decode cX2_hasSentFor 34 = .ok (.iconst 1, 1) := by decide +kernel
theorem dX2_hasSentFor_35 : decode cX2_hasSentFor 35 = .ok (.ireturn, 1) := by decide +kernel
theorem dX2_hasSentFor_36 : decode cX2_hasSentFor 36 = .ok (.iinc 2 1, 3) := by decide +kernel
theorem dX2_hasSentFor_39 : decode cX2_hasSentFor 39 = .ok (.goto (-37), 3) := by decide +kernel
theorem dX2_hasSentFor_42 : decode cX2_hasSentFor 42 = .ok (.iconst 0, 1) := by decide +kernel
theorem dX2_hasSentFor_43 : decode cX2_hasSentFor 43 = .ok (.ireturn, 1) := by decide +kernel
theorem dX2_addSentFor_0 : decode cX2_addSentFor 0 = .ok (.aload_n 0, 1) := by decide +kernel
theorem dX2_addSentFor_1 : decode cX2_addSentFor 1 = .ok (.getfield 33, 3) := by decide +kernel
theorem dX2_addSentFor_4 : decode cX2_addSentFor 4 = .ok (.aload_n 0, 1) := by decide +kernel
theorem dX2_addSentFor_5 : decode cX2_addSentFor 5 = .ok (.getfield 40, 3) := by decide +kernel
theorem dX2_addSentFor_8 : decode cX2_addSentFor 8 = .ok (.iaload, 1) := by decide +kernel
theorem dX2_addSentFor_9 : decode cX2_addSentFor 9 = .ok (.sipush 300, 3) := by decide +kernel
theorem dX2_addSentFor_12 : decode cX2_addSentFor 12 = .ok (.if_icmp .ge 40, 3) := by decide +kernel
theorem dX2_addSentFor_15 : decode cX2_addSentFor 15 = .ok (.aload_n 0, 1) := by decide +kernel
theorem dX2_addSentFor_16 : decode cX2_addSentFor 16 = .ok (.getfield 30, 3) := by decide +kernel
theorem dX2_addSentFor_19 : decode cX2_addSentFor 19 = .ok (.aload_n 0, 1) := by decide +kernel
theorem dX2_addSentFor_20 : decode cX2_addSentFor 20 = .ok (.getfield 40, 3) := by decide +kernel
theorem dX2_addSentFor_23 : decode cX2_addSentFor 23 = .ok (.sipush 300, 3) := by decide +kernel
theorem dX2_addSentFor_26 : decode cX2_addSentFor 26 = .ok (.imul, 1) := by decide +kernel
theorem dX2_addSentFor_27 : decode cX2_addSentFor 27 = .ok (.aload_n 0, 1) := by decide +kernel
theorem dX2_addSentFor_28 : decode cX2_addSentFor 28 = .ok (.getfield 33, 3) := by decide +kernel
theorem dX2_addSentFor_31 : decode cX2_addSentFor 31 = .ok (.aload_n 0, 1) := by decide +kernel
theorem dX2_addSentFor_32 : decode cX2_addSentFor 32 = .ok (.getfield 40, 3) := by decide +kernel
theorem dX2_addSentFor_35 : decode cX2_addSentFor 35 = .ok (.iaload, 1) := by decide +kernel
theorem dX2_addSentFor_36 : decode cX2_addSentFor 36 = .ok (.iadd, 1) := by decide +kernel
theorem dX2_addSentFor_37 : decode cX2_addSentFor 37 = .ok (.iload_n 1, 1) := by decide +kernel
theorem dX2_addSentFor_38 : decode cX2_addSentFor 38 = .ok (.iastore, 1) := by decide +kernel
theorem dX2_addSentFor_39 : decode cX2_addSentFor 39 = .ok (.aload_n 0, 1) := by decide +kernel
theorem dX2_addSentFor_40 : decode cX2_addSentFor 40 = .ok (.getfield 33, 3) := by decide +kernel
theorem dX2_addSentFor_43 : decode cX2_addSentFor 43 = .ok (.aload_n 0, 1) := by decide +kernel
theorem dX2_addSentFor_44 : decode cX2_addSentFor 44 = .ok (.getfield 40, 3) := by decide +kernel
theorem dX2_addSentFor_47 : decode cX2_addSentFor 47 = .ok (.dup2, 1) := by decide +kernel
theorem dX2_addSentFor_48 : decode cX2_addSentFor 48 = .ok (.iaload, 1) := by decide +kernel
theorem dX2_addSentFor_49 : decode cX2_addSentFor 49 = .ok (.iconst 1, 1) := by decide +kernel
theorem dX2_addSentFor_50 : decode cX2_addSentFor 50 = .ok (.iadd, 1) := by decide +kernel
theorem dX2_addSentFor_51 : decode cX2_addSentFor 51 = .ok (.iastore, 1) := by decide +kernel
theorem dX2_addSentFor_52 : decode cX2_addSentFor 52 = .ok (.return_, 1) := by decide +kernel
theorem dX2_forget_0 : decode cX2_forget 0 = .ok (.aload_n 0, 1) := by decide +kernel
theorem dX2_forget_1 : decode cX2_forget 1 = .ok (.getfield 27, 3) := by decide +kernel
theorem dX2_forget_4 : decode cX2_forget 4 = .ok (.aload_n 0, 1) := by decide +kernel
theorem dX2_forget_5 : decode cX2_forget 5 = .ok (.getfield 40, 3) := by decide +kernel
theorem dX2_forget_8 : decode cX2_forget 8 = .ok (.iconst 0, 1) := by decide +kernel
theorem dX2_forget_9 : decode cX2_forget 9 = .ok (.iastore, 1) := by decide +kernel
theorem dX2_forget_10 : decode cX2_forget 10 = .ok (.aload_n 0, 1) := by decide +kernel
theorem dX2_forget_11 : decode cX2_forget 11 = .ok (.getfield 33, 3) := by decide +kernel
theorem dX2_forget_14 : decode cX2_forget 14 = .ok (.aload_n 0, 1) := by decide +kernel
theorem dX2_forget_15 : decode cX2_forget 15 = .ok (.getfield 40, 3) := by decide +kernel
theorem dX2_forget_18 : decode cX2_forget 18 = .ok (.iconst 0, 1) := by decide +kernel
theorem dX2_forget_19 : decode cX2_forget 19 = .ok (.iastore, 1) := by decide +kernel
theorem dX2_forget_20 : decode cX2_forget 20 = .ok (.return_, 1) := by decide +kernel
theorem dX3_init_0 : decode cX3_init 0 = .ok (.aload_n 0, 1) := by decide +kernel
theorem dX3_init_1 : decode cX3_init 1 = .ok (.invokespecial 3, 3) := by decide +kernel
theorem dX3_init_4 : decode cX3_init 4 = .ok (.aload_n 0, 1) := by decide +kernel
theorem dX3_init_5 : decode cX3_init 5 = .ok (.sipush 300, 3) := by decide +kernel
theorem dX3_init_8 : decode cX3_init 8 = .ok (.newarray .int, 2) := by decide +kernel
theorem dX3_init_10 : decode cX3_init 10 = .ok (.putfield 9, 3) := by decide +kernel
theorem dX3_init_13 : decode cX3_init 13 = .ok (.aload_n 0, 1) := by decide +kernel
theorem dX3_init_14 : decode cX3_init 14 = .ok (.sipush 300, 3) := by decide +kernel
theorem dX3_init_17 : decode cX3_init 17 = .ok (.newarray .long, 2) := by decide +kernel
theorem dX3_init_19 : decode cX3_init 19 = .ok (.putfield 15, 3) := by decide +kernel
theorem dX3_init_22 : decode cX3_init 22 = .ok (.aload_n 0, 1) := by decide +kernel
theorem dX3_init_23 : decode cX3_init 23 = .ok (.sipush 300, 3) := by decide +kernel
theorem dX3_init_26 : decode cX3_init 26 = .ok (.newarray .int, 2) := by decide +kernel
theorem dX3_init_28 : decode cX3_init 28 = .ok (.putfield 19, 3) := by decide +kernel
theorem dX3_init_31 : decode cX3_init 31 = .ok (.aload_n 0, 1) := by decide +kernel
theorem dX3_init_32 : decode cX3_init 32 = .ok (.iconst 1, 1) := by decide +kernel
theorem dX3_init_33 : decode cX3_init 33 = .ok (.putfield 22, 3) := by decide +kernel
theorem dX3_init_36 : decode cX3_init 36 = .ok (.return_, 1) := by decide +kernel
theorem dX3_size_0 : decode cX3_size 0 = .ok (.aload_n 0, 1) := by decide +kernel
theorem dX3_size_1 : decode cX3_size 1 = .ok (.getfield 22, 3) := by decide +kernel
theorem dX3_size_4 : decode cX3_size 4 = .ok (.ireturn, 1) := by decide +kernel
theorem dX3_has_0 : decode cX3_has 0 = .ok (.iload_n 1, 1) := by decide +kernel
theorem dX3_has_1 : decode cX3_has 1 = .ok (.ifCond .lt 15, 3) := by decide +kernel
theorem dX3_has_4 : decode cX3_has 4 = .ok (.iload_n 1, 1) := by decide +kernel
theorem dX3_has_5 : decode cX3_has 5 = .ok (.aload_n 0, 1) := by decide +kernel
theorem dX3_has_6 : decode cX3_has 6 = .ok (.getfield 22, 3) := by decide +kernel
theorem dX3_has_9 : decode cX3_has 9 = .ok (.if_icmp .ge 7, 3) := by decide +kernel
theorem dX3_has_12 : decode cX3_has 12 = .ok (.iconst 1, 1) := by decide +kernel
theorem dX3_has_13 : decode cX3_has 13 = .ok (.goto 4, 3) := by decide +kernel
theorem dX3_has_16 : decode cX3_has 16 = .ok (.iconst 0, 1) := by decide +kernel
theorem dX3_has_17 : decode cX3_has 17 = .ok (.ireturn, 1) := by decide +kernel
theorem dX3_above_0 : decode cX3_above 0 = .ok (.iload_n 1, 1) := by decide +kernel
theorem dX3_above_1 : decode cX3_above 1 = .ok (.ifCond .lt 20, 3) := by decide +kernel
theorem dX3_above_4 : decode cX3_above 4 = .ok (.iload_n 1, 1) := by decide +kernel
theorem dX3_above_5 : decode cX3_above 5 = .ok (.aload_n 0, 1) := by decide +kernel
theorem dX3_above_6 : decode cX3_above 6 = .ok (.getfield 22, 3) := by decide +kernel
theorem dX3_above_9 : decode cX3_above 9 = .ok (.if_icmp .ge 12, 3) := by decide +kernel
theorem dX3_above_12 : decode cX3_above 12 = .ok (.aload_n 0, 1) := by decide +kernel
theorem dX3_above_13 : decode cX3_above 13 = .ok (.getfield 9, 3) := by decide +kernel
theorem dX3_above_16 : decode cX3_above 16 = .ok (.iload_n 1, 1) := by decide +kernel
theorem dX3_above_17 : decode cX3_above 17 = .ok (.iaload, 1) := by decide +kernel
theorem dX3_above_18 : decode cX3_above 18 = .ok (.goto 4, 3) := by decide +kernel
theorem dX3_above_21 : decode cX3_above 21 = .ok (.iconst 0, 1) := by decide +kernel
theorem dX3_above_22 : decode cX3_above 22 = .ok (.ireturn, 1) := by decide +kernel
theorem dX3_labelSize_0 : decode cX3_labelSize 0 = .ok (.iload_n 1, 1) := by decide +kernel
theorem dX3_labelSize_1 : decode cX3_labelSize 1 = .ok (.ifCond .lt 20, 3) := by decide +kernel
theorem dX3_labelSize_4 : decode cX3_labelSize 4 = .ok (.iload_n 1, 1) := by decide +kernel
theorem dX3_labelSize_5 : decode cX3_labelSize 5 = .ok (.aload_n 0, 1) := by decide +kernel
theorem dX3_labelSize_6 : decode cX3_labelSize 6 = .ok (.getfield 22, 3) := by decide +kernel
theorem dX3_labelSize_9 : decode cX3_labelSize 9 = .ok (.if_icmp .ge 12, 3) := by decide +kernel
theorem dX3_labelSize_12 : decode cX3_labelSize 12 = .ok (.aload_n 0, 1) := by decide +kernel
theorem dX3_labelSize_13 : decode cX3_labelSize 13 = .ok (.getfield 19, 3) := by decide +kernel
theorem dX3_labelSize_16 : decode cX3_labelSize 16 = .ok (.iload_n 1, 1) := by decide +kernel
theorem dX3_labelSize_17 : decode cX3_labelSize 17 = .ok (.iaload, 1) := by decide +kernel
theorem dX3_labelSize_18 : decode cX3_labelSize 18 = .ok (.goto 4, 3) := by decide +kernel
theorem dX3_labelSize_21 : decode cX3_labelSize 21 = .ok (.iconst 0, 1) := by decide +kernel
theorem dX3_labelSize_22 : decode cX3_labelSize 22 = .ok (.ireturn, 1) := by decide +kernel
theorem dX3_letter_0 : decode cX3_letter 0 = .ok (.iload_n 1, 1) := by decide +kernel
theorem dX3_letter_1 : decode cX3_letter 1 = .ok (.ifCond .lt 25, 3) := by decide +kernel
theorem dX3_letter_4 : decode cX3_letter 4 = .ok (.iload_n 1, 1) := by decide +kernel
theorem dX3_letter_5 : decode cX3_letter 5 = .ok (.aload_n 0, 1) := by decide +kernel
theorem dX3_letter_6 : decode cX3_letter 6 = .ok (.getfield 22, 3) := by decide +kernel
theorem dX3_letter_9 : decode cX3_letter 9 = .ok (.if_icmp .ge 17, 3) := by decide +kernel
theorem dX3_letter_12 : decode cX3_letter 12 = .ok (.iload_n 2, 1) := by decide +kernel
theorem dX3_letter_13 : decode cX3_letter 13 = .ok (.ifCond .lt 13, 3) := by decide +kernel
theorem dX3_letter_16 : decode cX3_letter 16 = .ok (.iload_n 2, 1) := by decide +kernel
theorem dX3_letter_17 : decode cX3_letter 17 = .ok (.aload_n 0, 1) := by decide +kernel
theorem dX3_letter_18 : decode cX3_letter 18 = .ok (.getfield 19, 3) := by decide +kernel
theorem dX3_letter_21 : decode cX3_letter 21 = .ok (.iload_n 1, 1) := by decide +kernel
theorem dX3_letter_22 : decode cX3_letter 22 = .ok (.iaload, 1) := by decide +kernel
theorem dX3_letter_23 : decode cX3_letter 23 = .ok (.if_icmp .lt 5, 3) := by decide +kernel
theorem dX3_letter_26 : decode cX3_letter 26 = .ok (.iconst (-1), 1) := by decide +kernel
theorem dX3_letter_27 : decode cX3_letter 27 = .ok (.ireturn, 1) := by decide +kernel
theorem dX3_letter_28 : decode cX3_letter 28 = .ok (.aload_n 0, 1) := by decide +kernel
theorem dX3_letter_29 : decode cX3_letter 29 = .ok (.getfield 15, 3) := by decide +kernel
theorem dX3_letter_32 : decode cX3_letter 32 = .ok (.iload_n 1, 1) := by decide +kernel
theorem dX3_letter_33 : decode cX3_letter 33 = .ok (.laload, 1) := by decide +kernel
theorem dX3_letter_34 : decode cX3_letter 34 = .ok (.bipush 6, 2) := by decide +kernel
theorem dX3_letter_36 : decode cX3_letter 36 = .ok (.aload_n 0, 1) := by decide +kernel
theorem dX3_letter_37 : decode cX3_letter 37 = .ok (.getfield 19, 3) := by decide +kernel
theorem dX3_letter_40 : decode cX3_letter 40 = .ok (.iload_n 1, 1) := by decide +kernel
theorem dX3_letter_41 : decode cX3_letter 41 = .ok (.iaload, 1) := by decide +kernel
theorem dX3_letter_42 : decode cX3_letter 42 = .ok (.iconst 1, 1) := by decide +kernel
theorem dX3_letter_43 : decode cX3_letter 43 = .ok (.isub, 1) := by decide +kernel
theorem dX3_letter_44 : decode cX3_letter 44 = .ok (.iload_n 2, 1) := by decide +kernel
theorem dX3_letter_45 : decode cX3_letter 45 = .ok (.isub, 1) := by decide +kernel
theorem dX3_letter_46 : decode cX3_letter 46 = .ok (.imul, 1) := by decide +kernel
theorem dX3_letter_47 : decode cX3_letter 47 = .ok (.lshr, 1) := by decide +kernel
theorem dX3_letter_48 : decode cX3_letter 48 = .ok (.l2i, 1) := by decide +kernel
theorem dX3_letter_49 : decode cX3_letter 49 = .ok (.bipush 63, 2) := by decide +kernel
theorem dX3_letter_51 : decode cX3_letter 51 = .ok (.iand, 1) := by decide +kernel
theorem dX3_letter_52 : decode cX3_letter 52 = .ok (.istore_n 3, 1) := by decide +kernel
theorem dX3_letter_53 : decode cX3_letter 53 = .ok (.iload_n 3, 1) := by decide +kernel
theorem dX3_letter_54 : decode cX3_letter 54 = .ok (.bipush 37, 2) := by decide +kernel
theorem dX3_letter_56 : decode cX3_letter 56 = .ok (.if_icmp .ne 6, 3) := by decide +kernel
theorem dX3_letter_59 : decode cX3_letter 59 = .ok (.bipush 45, 2) := by decide +kernel
theorem dX3_letter_61 : decode cX3_letter 61 = .ok (.ireturn, 1) := by decide +kernel
theorem dX3_letter_62 : decode cX3_letter 62 = .ok (.iload_n 3, 1) := by decide +kernel
theorem dX3_letter_63 : decode cX3_letter 63 = .ok (.bipush 26, 2) := by decide +kernel
theorem dX3_letter_65 : decode cX3_letter 65 = .ok (.if_icmp .le 13, 3) := by decide +kernel
theorem dX3_letter_68 : decode cX3_letter 68 = .ok (.iload_n 3, 1) := by decide +kernel
theorem dX3_letter_69 : decode cX3_letter 69 = .ok (.bipush 27, 2) := by decide +kernel
theorem dX3_letter_71 : decode cX3_letter 71 = .ok (.isub, 1) := by decide +kernel
theorem dX3_letter_72 : decode cX3_letter 72 = .ok (.bipush 48, 2) := by decide +kernel
theorem dX3_letter_74 : decode cX3_letter 74 = .ok (.iadd, 1) := by decide +kernel
theorem dX3_letter_75 : decode cX3_letter 75 = .ok (.goto 9, 3) := by decide +kernel
theorem dX3_letter_78 : decode cX3_letter 78 = .ok (.iload_n 3, 1) := by decide +kernel
theorem dX3_letter_79 : decode cX3_letter 79 = .ok (.iconst 1, 1) := by decide +kernel
theorem dX3_letter_80 : decode cX3_letter 80 = .ok (.isub, 1) := by decide +kernel
theorem dX3_letter_81 : decode cX3_letter 81 = .ok (.bipush 97, 2) := by decide +kernel
theorem dX3_letter_83 : decode cX3_letter 83 = .ok (.iadd, 1) := by decide +kernel
theorem dX3_letter_84 : decode cX3_letter 84 = .ok (.ireturn, 1) := by decide +kernel
theorem dX3_depth_0 : decode cX3_depth 0 = .ok (.iconst 0, 1) := by decide +kernel
theorem dX3_depth_1 : decode cX3_depth 1 = .ok (.istore_n 2, 1) := by decide +kernel
theorem dX3_depth_2 : decode cX3_depth 2 = .ok (.iload_n 1, 1) := by decide +kernel
theorem dX3_depth_3 : decode cX3_depth 3 = .ok (.istore_n 3, 1) := by decide +kernel
theorem dX3_depth_4 : decode cX3_depth 4 = .ok (.iconst 0, 1) := by decide +kernel
theorem dX3_depth_5 : decode cX3_depth 5 = .ok (.istore 4, 2) := by decide +kernel
theorem dX3_depth_7 : decode cX3_depth 7 = .ok (.iload 4, 2) := by decide +kernel
theorem dX3_depth_9 : decode cX3_depth 9 = .ok (.bipush 6, 2) := by decide +kernel
theorem dX3_depth_11 : decode cX3_depth 11 = .ok (.if_icmp .ge 22, 3) := by decide +kernel
theorem dX3_depth_14 : decode cX3_depth 14 = .ok (.iload_n 3, 1) := by decide +kernel
theorem dX3_depth_15 : decode cX3_depth 15 = .ok (.ifCond .eq 18, 3) := by decide +kernel
theorem dX3_depth_18 : decode cX3_depth 18 = .ok (.iinc 2 1, 3) := by decide +kernel
theorem dX3_depth_21 : decode cX3_depth 21 = .ok (.aload_n 0, 1) := by decide +kernel
theorem dX3_depth_22 : decode cX3_depth 22 = .ok (.iload_n 3, 1) := by decide +kernel
theorem dX3_depth_23 : decode cX3_depth 23 = .ok (.invokevirtual 26, 3) := by decide +kernel
theorem dX3_depth_26 : decode cX3_depth 26 = .ok (.istore_n 3, 1) := by decide +kernel
theorem dX3_depth_27 : decode cX3_depth 27 = .ok (.iinc 4 1, 3) := by decide +kernel
theorem dX3_depth_30 : decode cX3_depth 30 = .ok (.goto (-23), 3) := by decide +kernel
theorem dX3_depth_33 : decode cX3_depth 33 = .ok (.iload_n 2, 1) := by decide +kernel
theorem dX3_depth_34 : decode cX3_depth 34 = .ok (.ireturn, 1) := by decide +kernel
theorem dX3_isIn_0 : decode cX3_isIn 0 = .ok (.iload_n 1, 1) := by decide +kernel
theorem dX3_isIn_1 : decode cX3_isIn 1 = .ok (.istore_n 3, 1) := by decide +kernel
theorem dX3_isIn_2 : decode cX3_isIn 2 = .ok (.iconst 0, 1) := by decide +kernel
theorem dX3_isIn_3 : decode cX3_isIn 3 = .ok (.istore 4, 2) := by decide +kernel
theorem dX3_isIn_5 : decode cX3_isIn 5 = .ok (.iload 4, 2) := by decide +kernel
theorem dX3_isIn_7 : decode cX3_isIn 7 = .ok (.bipush 6, 2) := by decide +kernel
theorem dX3_isIn_9 : decode cX3_isIn 9 = .ok (.if_icmp .ge 20, 3) := by decide +kernel
theorem dX3_isIn_12 : decode cX3_isIn 12 = .ok (.iload_n 3, 1) := by decide +kernel
theorem dX3_isIn_13 : decode cX3_isIn 13 = .ok (.iload_n 2, 1) := by decide +kernel
theorem dX3_isIn_14 : decode cX3_isIn 14 = .ok (.if_icmp .eq 15, 3) := by decide +kernel
theorem dX3_isIn_17 : decode cX3_isIn 17 = .ok (.aload_n 0, 1) := by decide +kernel
theorem dX3_isIn_18 : decode cX3_isIn 18 = .ok (.iload_n 3, 1) := by decide +kernel
theorem dX3_isIn_19 : decode cX3_isIn 19 = .ok (.invokevirtual 26, 3) := by decide +kernel
theorem dX3_isIn_22 : decode cX3_isIn 22 = .ok (.istore_n 3, 1) := by decide +kernel
theorem dX3_isIn_23 : decode cX3_isIn 23 = .ok (.iinc 4 1, 3) := by decide +kernel
theorem dX3_isIn_26 : decode cX3_isIn 26 = .ok (.goto (-21), 3) := by decide +kernel
theorem dX3_isIn_29 : decode cX3_isIn 29 = .ok (.iload_n 3, 1) := by decide +kernel
theorem dX3_isIn_30 : decode cX3_isIn 30 = .ok (.iload_n 2, 1) := by decide +kernel
theorem dX3_isIn_31 : decode cX3_isIn 31 = .ok (.if_icmp .ne 7, 3) := by decide +kernel
theorem dX3_isIn_34 : decode cX3_isIn 34 = .ok (.iconst 1, 1) := by decide +kernel
theorem dX3_isIn_35 : decode cX3_isIn 35 = .ok (.goto 4, 3) := by decide +kernel
theorem dX3_isIn_38 : decode cX3_isIn 38 = .ok (.iconst 0, 1) := by decide +kernel
theorem dX3_isIn_39 : decode cX3_isIn 39 = .ok (.ireturn, 1) := by decide +kernel
theorem dX3_textSize_0 : decode cX3_textSize 0 = .ok (.iload_n 1, 1) := by decide +kernel
theorem dX3_textSize_1 : decode cX3_textSize 1 = .ok (.ifCond .ne 5, 3) := by decide +kernel
theorem dX3_textSize_4 : decode cX3_textSize 4 = .ok (.iconst 1, 1) := by decide +kernel
theorem dX3_textSize_5 : decode cX3_textSize 5 = .ok (.ireturn, 1) := by decide +kernel
theorem dX3_textSize_6 : decode cX3_textSize 6 = .ok (.iconst (-1), 1) := by decide +kernel
theorem dX3_textSize_7 : decode cX3_textSize 7 = .ok (.istore_n 2, 1) := by decide +kernel
theorem dX3_textSize_8 : decode cX3_textSize 8 = .ok (.iload_n 1, 1) := by decide +kernel
theorem dX3_textSize_9 : decode cX3_textSize 9 = .ok (.istore_n 3, 1) := by decide +kernel
theorem dX3_textSize_10 : decode cX3_textSize 10 = .ok (.iconst 0, 1) := by decide +kernel
theorem dX3_textSize_11 : decode cX3_textSize 11 = .ok (.istore 4, 2) := by decide +kernel
theorem dX3_textSize_13 : decode cX3_textSize 13 = .ok (.iload 4, 2) := by decide +kernel
theorem dX3_textSize_15 : decode cX3_textSize 15 = .ok (.bipush 6, 2) := by decide +kernel
theorem dX3_textSize_17 : decode cX3_textSize 17 = .ok (.if_icmp .ge 29, 3) := by decide +kernel
theorem dX3_textSize_20 : decode cX3_textSize 20 = .ok (.iload_n 3, 1) := by decide +kernel
theorem dX3_textSize_21 : decode cX3_textSize 21 = .ok (.ifCond .eq 25, 3) := by decide +kernel
theorem dX3_textSize_24 : decode cX3_textSize 24 = .ok (.iload_n 2, 1) := by decide +kernel
theorem dX3_textSize_25 : decode cX3_textSize 25 = .ok (.aload_n 0, 1) := by decide +kernel
theorem dX3_textSize_26 : decode cX3_textSize 26 = .ok (.iload_n 3, 1) := by decide +kernel
theorem dX3_textSize_27 : decode cX3_textSize 27 = .ok (.invokevirtual 30, 3) := by decide +kernel
theorem dX3_textSize_30 : decode cX3_textSize 30 = .ok (.iconst 1, 1) := by decide +kernel
theorem dX3_textSize_31 : decode cX3_textSize 31 = .ok (.iadd, 1) := by decide +kernel
theorem dX3_textSize_32 : decode cX3_textSize 32 = .ok (.iadd, 1) := by decide +kernel
theorem dX3_textSize_33 : decode cX3_textSize 33 = .ok (.istore_n 2, 1) := by decide +kernel
theorem dX3_textSize_34 : decode cX3_textSize 34 = .ok (.aload_n 0, 1) := by decide +kernel
theorem dX3_textSize_35 : decode cX3_textSize 35 = .ok (.iload_n 3, 1) := by decide +kernel
theorem dX3_textSize_36 : decode cX3_textSize 36 = .ok (.invokevirtual 26, 3) := by decide +kernel
theorem dX3_textSize_39 : decode cX3_textSize 39 = .ok (.istore_n 3, 1) := by decide +kernel
theorem dX3_textSize_40 : decode cX3_textSize 40 = .ok (.iinc 4 1, 3) := by decide +kernel
theorem dX3_textSize_43 : decode cX3_textSize 43 = .ok (.goto (-30), 3) := by decide +kernel
theorem dX3_textSize_46 : decode cX3_textSize 46 = .ok (.iload_n 2, 1) := by decide +kernel
theorem dX3_textSize_47 : decode cX3_textSize 47 = .ok (.ireturn, 1) := by decide +kernel
theorem dX3_textByte_0 : decode cX3_textByte 0 = .ok (.iload_n 2, 1) := by decide +kernel
theorem dX3_textByte_1 : decode cX3_textByte 1 = .ok (.ifCond .lt 12, 3) := by decide +kernel
theorem dX3_textByte_4 : decode cX3_textByte 4 = .ok (.iload_n 2, 1) := by decide +kernel
theorem dX3_textByte_5 : decode cX3_textByte 5 = .ok (.aload_n 0, 1) := by decide +kernel
theorem dX3_textByte_6 : decode cX3_textByte 6 = .ok (.iload_n 1, 1) := by decide +kernel
theorem dX3_textByte_7 : decode cX3_textByte 7 = .ok (.invokevirtual 33, 3) := by decide +kernel
theorem dX3_textByte_10 : decode cX3_textByte 10 = .ok (.if_icmp .lt 5, 3) := by decide +kernel
theorem dX3_textByte_13 : decode cX3_textByte 13 = .ok (.iconst (-1), 1) := by decide +kernel
theorem dX3_textByte_14 : decode cX3_textByte 14 = .ok (.ireturn, 1) := by decide +kernel
theorem dX3_textByte_15 : decode cX3_textByte 15 = .ok (.iload_n 1, 1) := by decide +kernel
theorem dX3_textByte_16 : decode cX3_textByte 16 = .ok (.istore_n 3, 1) := by decide +kernel
theorem dX3_textByte_17 : decode cX3_textByte 17 = .ok (.iload_n 2, 1) := by decide +kernel
theorem dX3_textByte_18 : decode cX3_textByte 18 = .ok (.istore 4, 2) := by decide +kernel
theorem dX3_textByte_20 : decode cX3_textByte 20 = .ok (.iconst 0, 1) := by decide +kernel
theorem dX3_textByte_21 : decode cX3_textByte 21 = .ok (.istore 5, 2) := by decide +kernel
theorem dX3_textByte_23 : decode cX3_textByte 23 = .ok (.iload 5, 2) := by decide +kernel
theorem dX3_textByte_25 : decode cX3_textByte 25 = .ok (.bipush 6, 2) := by decide +kernel
theorem dX3_textByte_27 : decode cX3_textByte 27 = .ok (.if_icmp .ge 37, 3) := by decide +kernel
theorem dX3_textByte_30 : decode cX3_textByte 30 = .ok (.iload 4, 2) := by decide +kernel
theorem dX3_textByte_32 : decode cX3_textByte 32 = .ok (.aload_n 0, 1) := by decide +kernel
theorem dX3_textByte_33 : decode cX3_textByte 33 = .ok (.iload_n 3, 1) := by decide +kernel
theorem dX3_textByte_34 : decode cX3_textByte 34 = .ok (.invokevirtual 30, 3) := by decide +kernel
theorem dX3_textByte_37 : decode cX3_textByte 37 = .ok (.if_icmp .le 27, 3) := by decide +kernel
theorem dX3_textByte_40 : decode cX3_textByte 40 = .ok (.iload 4, 2) := by decide +kernel
theorem dX3_textByte_42 : decode cX3_textByte 42 = .ok (.aload_n 0, 1) := by decide +kernel
theorem dX3_textByte_43 : decode cX3_textByte 43 = .ok (.iload_n 3, 1) := by decide +kernel
theorem dX3_textByte_44 : decode cX3_textByte 44 = .ok (.invokevirtual 30, 3) := by decide +kernel
theorem dX3_textByte_47 : decode cX3_textByte 47 = .ok (.iconst 1, 1) := by decide +kernel
theorem dX3_textByte_48 : decode cX3_textByte 48 = .ok (.iadd, 1) := by decide +kernel
theorem dX3_textByte_49 : decode cX3_textByte 49 = .ok (.isub, 1) := by decide +kernel
theorem dX3_textByte_50 : decode cX3_textByte 50 = .ok (.istore 4, 2) := by decide +kernel
theorem dX3_textByte_52 : decode cX3_textByte 52 = .ok (.aload_n 0, 1) := by decide +kernel
theorem dX3_textByte_53 : decode cX3_textByte 53 = .ok (.iload_n 3, 1) := by decide +kernel
theorem dX3_textByte_54 : decode cX3_textByte 54 = .ok (.invokevirtual 26, 3) := by decide +kernel
theorem dX3_textByte_57 : decode cX3_textByte 57 = .ok (.istore_n 3, 1) := by decide +kernel
theorem dX3_textByte_58 : decode cX3_textByte 58 = .ok (.iinc 5 1, 3) := by decide +kernel
theorem dX3_textByte_61 : decode cX3_textByte 61 = .ok (.goto (-38), 3) := by decide +kernel
theorem dX3_textByte_64 : decode cX3_textByte 64 = .ok (.iload 4, 2) := by decide +kernel
theorem dX3_textByte_66 : decode cX3_textByte 66 = .ok (.aload_n 0, 1) := by decide +kernel
theorem dX3_textByte_67 : decode cX3_textByte 67 = .ok (.iload_n 3, 1) := by decide +kernel
theorem dX3_textByte_68 : decode cX3_textByte 68 = .ok (.invokevirtual 30, 3) := by decide +kernel
theorem dX3_textByte_71 : decode cX3_textByte 71 = .ok (.if_icmp .ne 8, 3) := by decide +kernel
theorem dX3_textByte_74 : decode cX3_textByte 74 = .ok (.bipush 46, 2) := by decide +kernel
theorem dX3_textByte_76 : decode cX3_textByte 76 = .ok (.goto 10, 3) := by decide +kernel
theorem dX3_textByte_79 : decode cX3_textByte 79 = .ok (.aload_n 0, 1) := by decide +kernel
theorem dX3_textByte_80 : decode cX3_textByte 80 = .ok (.iload_n 3, 1) := by decide +kernel
theorem dX3_textByte_81 : decode cX3_textByte 81 = .ok (.iload 4, 2) := by decide +kernel
theorem dX3_textByte_83 : decode cX3_textByte 83 = .ok (.invokevirtual 36, 3) := by decide +kernel
theorem dX3_textByte_86 : decode cX3_textByte 86 = .ok (.ireturn, 1) := by decide +kernel
theorem dX3_missing_0 : decode cX3_missing 0 = .ok (.iconst 0, 1) := by decide +kernel
theorem dX3_missing_1 : decode cX3_missing 1 = .ok (.istore_n 2, 1) := by decide +kernel
theorem dX3_missing_2 : decode cX3_missing 2 = .ok (.aload_n 1, 1) := by decide +kernel
theorem dX3_missing_3 : decode cX3_missing 3 = .ok (.invokevirtual 40, 3) := by decide +kernel
theorem dX3_missing_6 : decode cX3_missing 6 = .ok (.iconst 1, 1) := by decide +kernel
theorem dX3_missing_7 : decode cX3_missing 7 = .ok (.isub, 1) := by decide +kernel
theorem dX3_missing_8 : decode cX3_missing 8 = .ok (.istore_n 3, 1) := by decide +kernel
theorem dX3_missing_9 : decode cX3_missing 9 = .ok (.iload_n 3, 1) := by decide +kernel
theorem dX3_missing_10 : decode cX3_missing 10 = .ok (.ifCond .lt 29, 3) := by decide +kernel
theorem dX3_missing_13 : decode cX3_missing 13 = .ok (.aload_n 0, 1) := by decide +kernel
theorem dX3_missing_14 : decode cX3_missing 14 = .ok (.iload_n 2, 1) := by decide +kernel
theorem dX3_missing_15 : decode cX3_missing 15 = .ok (.aload_n 1, 1) := by decide +kernel
theorem dX3_missing_16 : decode cX3_missing 16 = .ok (.iload_n 3, 1) := by decide +kernel
theorem dX3_missing_17 : decode cX3_missing 17 = .ok (.invokevirtual 46, 3) := by decide +kernel
theorem dX3_missing_20 : decode cX3_missing 20 = .ok (.invokevirtual 50, 3) := by decide +kernel
theorem dX3_missing_23 : decode cX3_missing 23 = .ok (.istore_n 2, 1) := by decide +kernel
theorem dX3_missing_24 : decode cX3_missing 24 = .ok (.iload_n 2, 1) := by decide +kernel
theorem dX3_missing_25 : decode cX3_missing 25 = .ok (.iconst (-1), 1) := by decide +kernel
theorem dX3_missing_26 : decode cX3_missing 26 = .ok (.if_icmp .ne 7, 3) := by decide +kernel
theorem dX3_missing_29 : decode cX3_missing 29 = .ok (.iload_n 3, 1) := by decide +kernel
theorem dX3_missing_30 : decode cX3_missing 30 = .ok (.iconst 1, 1) := by decide +kernel
theorem dX3_missing_31 : decode cX3_missing 31 = .ok (.iadd, 1) := by decide +kernel
theorem dX3_missing_32 : decode cX3_missing 32 = .ok (.ireturn, 1) := by decide +kernel
theorem dX3_missing_33 : decode cX3_missing 33 = .ok (.iinc 3 (-1), 3) := by decide +kernel
theorem dX3_missing_36 : decode cX3_missing 36 = .ok (.goto (-27), 3) := by decide +kernel
theorem dX3_missing_39 : decode cX3_missing 39 = .ok (.iconst 0, 1) := by decide +kernel
theorem dX3_missing_40 : decode cX3_missing 40 = .ok (.ireturn, 1) := by decide +kernel
theorem dX3_made_0 : decode cX3_made 0 = .ok (.iconst 0, 1) := by decide +kernel
theorem dX3_made_1 : decode cX3_made 1 = .ok (.istore_n 2, 1) := by decide +kernel
theorem dX3_made_2 : decode cX3_made 2 = .ok (.aload_n 1, 1) := by decide +kernel
theorem dX3_made_3 : decode cX3_made 3 = .ok (.invokevirtual 40, 3) := by decide +kernel
theorem dX3_made_6 : decode cX3_made 6 = .ok (.iconst 1, 1) := by decide +kernel
theorem dX3_made_7 : decode cX3_made 7 = .ok (.isub, 1) := by decide +kernel
theorem dX3_made_8 : decode cX3_made 8 = .ok (.istore_n 3, 1) := by decide +kernel
theorem dX3_made_9 : decode cX3_made 9 = .ok (.iload_n 3, 1) := by decide +kernel
theorem dX3_made_10 : decode cX3_made 10 = .ok (.ifCond .lt 55, 3) := by decide +kernel
theorem dX3_made_13 : decode cX3_made 13 = .ok (.aload_n 0, 1) := by decide +kernel
theorem dX3_made_14 : decode cX3_made 14 = .ok (.iload_n 2, 1) := by decide +kernel
theorem dX3_made_15 : decode cX3_made 15 = .ok (.aload_n 1, 1) := by decide +kernel
theorem dX3_made_16 : decode cX3_made 16 = .ok (.iload_n 3, 1) := by decide +kernel
theorem dX3_made_17 : decode cX3_made 17 = .ok (.invokevirtual 46, 3) := by decide +kernel
theorem dX3_made_20 : decode cX3_made 20 = .ok (.invokevirtual 50, 3) := by decide +kernel
theorem dX3_made_23 : decode cX3_made 23 = .ok (.istore 4, 2) := by decide +kernel
theorem dX3_made_25 : decode cX3_made 25 = .ok (.iload 4, 2) := by decide +kernel
theorem dX3_made_27 : decode cX3_made 27 = .ok (.iconst (-1), 1) := by decide +kernel
theorem dX3_made_28 : decode cX3_made 28 = .ok (.if_icmp .ne 20, 3) := by decide +kernel
theorem dX3_made_31 : decode cX3_made 31 = .ok (.aload_n 0, 1) := by decide +kernel
theorem dX3_made_32 : decode cX3_made 32 = .ok (.iload_n 2, 1) := by decide +kernel
theorem dX3_made_33 : decode cX3_made 33 = .ok (.aload_n 1, 1) := by decide +kernel
theorem dX3_made_34 : decode cX3_made 34 = .ok (.iload_n 3, 1) := by decide +kernel
theorem dX3_made_35 : decode cX3_made 35 = .ok (.invokevirtual 46, 3) := by decide +kernel
theorem dX3_made_38 : decode cX3_made 38 = .ok (.aload_n 1, 1) := by decide +kernel
theorem dX3_made_39 : decode cX3_made 39 = .ok (.iload_n 3, 1) := by decide +kernel
theorem dX3_made_40 : decode cX3_made 40 = .ok (.invokevirtual 54, 3) := by decide +kernel
theorem dX3_made_43 : decode cX3_made 43 = .ok (.invokevirtual 57, 3) := by decide +kernel
theorem dX3_made_46 : decode cX3_made 46 = .ok (.istore 4, 2) := by decide +kernel
theorem dX3_made_48 : decode cX3_made 48 = .ok (.iload 4, 2) := by decide +kernel
theorem dX3_made_50 : decode cX3_made 50 = .ok (.iconst (-1), 1) := by decide +kernel
theorem dX3_made_51 : decode cX3_made 51 = .ok (.if_icmp .ne 5, 3) := by decide +kernel
theorem dX3_made_54 : decode cX3_made 54 = .ok (.iconst (-1), 1) := by decide +kernel
theorem dX3_made_55 : decode cX3_made 55 = .ok (.ireturn, 1) := by decide +kernel
theorem dX3_made_56 : decode cX3_made 56 = .ok (.iload 4, 2) := by decide +kernel
theorem dX3_made_58 : decode cX3_made 58 = .ok (.istore_n 2, 1) := by decide +kernel
theorem dX3_made_59 : decode cX3_made 59 = .ok (.iinc 3 (-1), 3) := by decide +kernel
theorem dX3_made_62 : decode cX3_made 62 = .ok (.goto (-53), 3) := by decide +kernel
theorem dX3_made_65 : decode cX3_made 65 = .ok (.iload_n 2, 1) := by decide +kernel
theorem dX3_made_66 : decode cX3_made 66 = .ok (.ireturn, 1) := by decide +kernel
theorem dX3_child_0 : decode cX3_child 0 = .ok (.iconst 1, 1) := by decide +kernel
theorem dX3_child_1 : decode cX3_child 1 = .ok (.istore 4, 2) := by decide +kernel
theorem dX3_child_3 : decode cX3_child 3 = .ok (.iload 4, 2) := by decide +kernel
theorem dX3_child_5 : decode cX3_child 5 = .ok (.aload_n 0, 1) := by decide +kernel
theorem dX3_child_6 : decode cX3_child 6 = .ok (.getfield 22, 3) := by decide +kernel
theorem dX3_child_9 : decode cX3_child 9 = .ok (.if_icmp .ge 35, 3) := by decide +kernel
theorem dX3_child_12 : decode cX3_child 12 = .ok (.aload_n 0, 1) := by decide +kernel
theorem dX3_child_13 : decode cX3_child 13 = .ok (.getfield 9, 3) := by decide +kernel
theorem dX3_child_16 : decode cX3_child 16 = .ok (.iload 4, 2) := by decide +kernel
theorem dX3_child_18 : decode cX3_child 18 = .ok (.iaload, 1) := by decide +kernel
theorem dX3_child_19 : decode cX3_child 19 = .ok (.iload_n 1, 1) := by decide +kernel
theorem dX3_child_20 : decode cX3_child 20 = .ok (.if_icmp .ne 18, 3) := by decide +kernel
theorem dX3_child_23 : decode cX3_child 23 = .ok (.aload_n 0, 1) := by decide +kernel
theorem dX3_child_24 : decode cX3_child 24 = .ok (.getfield 15, 3) := by decide +kernel
theorem dX3_child_27 : decode cX3_child 27 = .ok (.iload 4, 2) := by decide +kernel
theorem dX3_child_29 : decode cX3_child 29 = .ok (.laload, 1) := by decide +kernel
theorem dX3_child_30 : decode cX3_child 30 = .ok (.lload_n 2, 1) := by decide +kernel
theorem dX3_child_31 : decode cX3_child 31 = .ok (.lcmp, 1) := by decide +kernel
theorem dX3_child_32 : decode cX3_child 32 = .ok (.ifCond .ne 6, 3) := by decide +kernel
theorem dX3_child_35 : decode cX3_child 35 = .ok (.iload 4, 2) := by decide +kernel
theorem dX3_child_37 : decode cX3_child 37 = .ok (.ireturn, 1) := by decide +kernel
theorem dX3_child_38 : decode cX3_child 38 = .ok (.iinc 4 1, 3) := by decide +kernel
theorem dX3_child_41 : decode cX3_child 41 = .ok (.goto (-38), 3) := by decide +kernel
theorem dX3_child_44 : decode cX3_child 44 = .ok (.iconst (-1), 1) := by decide +kernel
theorem dX3_child_45 : decode cX3_child 45 = .ok (.ireturn, 1) := by decide +kernel
theorem dX3_add_0 : decode cX3_add 0 = .ok (.aload_n 0, 1) := by decide +kernel
theorem dX3_add_1 : decode cX3_add 1 = .ok (.getfield 22, 3) := by decide +kernel
theorem dX3_add_4 : decode cX3_add 4 = .ok (.sipush 300, 3) := by decide +kernel
theorem dX3_add_7 : decode cX3_add 7 = .ok (.if_icmp .lt 5, 3) := by decide +kernel
theorem dX3_add_10 : decode cX3_add 10 = .ok (.iconst (-1), 1) := by decide +kernel
theorem dX3_add_11 : decode cX3_add 11 = .ok (.ireturn, 1) := by decide +kernel
theorem dX3_add_12 : decode cX3_add 12 = .ok (.aload_n 0, 1) := by decide +kernel
theorem dX3_add_13 : decode cX3_add 13 = .ok (.getfield 9, 3) := by decide +kernel
theorem dX3_add_16 : decode cX3_add 16 = .ok (.aload_n 0, 1) := by decide +kernel
theorem dX3_add_17 : decode cX3_add 17 = .ok (.getfield 22, 3) := by decide +kernel
theorem dX3_add_20 : decode cX3_add 20 = .ok (.iload_n 1, 1) := by decide +kernel
theorem dX3_add_21 : decode cX3_add 21 = .ok (.iastore, 1) := by decide +kernel
theorem dX3_add_22 : decode cX3_add 22 = .ok (.aload_n 0, 1) := by decide +kernel
theorem dX3_add_23 : decode cX3_add 23 = .ok (.getfield 15, 3) := by decide +kernel
theorem dX3_add_26 : decode cX3_add 26 = .ok (.aload_n 0, 1) := by decide +kernel
theorem dX3_add_27 : decode cX3_add 27 = .ok (.getfield 22, 3) := by decide +kernel
theorem dX3_add_30 : decode cX3_add 30 = .ok (.lload_n 2, 1) := by decide +kernel
theorem dX3_add_31 : decode cX3_add 31 = .ok (.lastore, 1) := by decide +kernel
theorem dX3_add_32 : decode cX3_add 32 = .ok (.aload_n 0, 1) := by decide +kernel
theorem dX3_add_33 : decode cX3_add 33 = .ok (.getfield 19, 3) := by decide +kernel
theorem dX3_add_36 : decode cX3_add 36 = .ok (.aload_n 0, 1) := by decide +kernel
theorem dX3_add_37 : decode cX3_add 37 = .ok (.getfield 22, 3) := by decide +kernel
theorem dX3_add_40 : decode cX3_add 40 = .ok (.iload 4, 2) := by decide +kernel
theorem dX3_add_42 : decode cX3_add 42 = .ok (.iastore, 1) := by decide +kernel
theorem dX3_add_43 : decode cX3_add 43 = .ok (.aload_n 0, 1) := by decide +kernel
theorem dX3_add_44 : decode cX3_add 44 = .ok (.dup, 1) := by decide +kernel
theorem dX3_add_45 : decode cX3_add 45 = .ok (.getfield 22, 3) := by decide +kernel
theorem dX3_add_48 : decode cX3_add 48 = .ok (.iconst 1, 1) := by decide +kernel
theorem dX3_add_49 : decode cX3_add 49 = .ok (.iadd, 1) := by decide +kernel
theorem dX3_add_50 : decode cX3_add 50 = .ok (.putfield 22, 3) := by decide +kernel
theorem dX3_add_53 : decode cX3_add 53 = .ok (.aload_n 0, 1) := by decide +kernel
theorem dX3_add_54 : decode cX3_add 54 = .ok (.getfield 22, 3) := by decide +kernel
theorem dX3_add_57 : decode cX3_add 57 = .ok (.iconst 1, 1) := by decide +kernel
theorem dX3_add_58 : decode cX3_add 58 = .ok (.isub, 1) := by decide +kernel
theorem dX3_add_59 : decode cX3_add 59 = .ok (.ireturn, 1) := by decide +kernel
theorem dX5_init_0 : decode cX5_init 0 = .ok (.aload_n 0, 1) := by decide +kernel
theorem dX5_init_1 : decode cX5_init 1 = .ok (.invokespecial 3, 3) := by decide +kernel
theorem dX5_init_4 : decode cX5_init 4 = .ok (.aload_n 0, 1) := by decide +kernel
theorem dX5_init_5 : decode cX5_init 5 = .ok (.bipush 90, 2) := by decide +kernel
theorem dX5_init_7 : decode cX5_init 7 = .ok (.newarray .int, 2) := by decide +kernel
theorem dX5_init_9 : decode cX5_init 9 = .ok (.putfield 9, 3) := by decide +kernel
theorem dX5_init_12 : decode cX5_init 12 = .ok (.aload_n 0, 1) := by decide +kernel
theorem dX5_init_13 : decode cX5_init 13 = .ok (.bipush 90, 2) := by decide +kernel
theorem dX5_init_15 : decode cX5_init 15 = .ok (.newarray .int, 2) := by decide +kernel
theorem dX5_init_17 : decode cX5_init 17 = .ok (.putfield 15, 3) := by decide +kernel
theorem dX5_init_20 : decode cX5_init 20 = .ok (.aload_n 0, 1) := by decide +kernel
theorem dX5_init_21 : decode cX5_init 21 = .ok (.bipush 90, 2) := by decide +kernel
theorem dX5_init_23 : decode cX5_init 23 = .ok (.newarray .int, 2) := by decide +kernel
theorem dX5_init_25 : decode cX5_init 25 = .ok (.putfield 18, 3) := by decide +kernel
theorem dX5_init_28 : decode cX5_init 28 = .ok (.aload_n 0, 1) := by decide +kernel
theorem dX5_init_29 : decode cX5_init 29 = .ok (.bipush 90, 2) := by decide +kernel
theorem dX5_init_31 : decode cX5_init 31 = .ok (.newarray .int, 2) := by decide +kernel
theorem dX5_init_33 : decode cX5_init 33 = .ok (.putfield 21, 3) := by decide +kernel
theorem dX5_init_36 : decode cX5_init 36 = .ok (.aload_n 0, 1) := by decide +kernel
theorem dX5_init_37 : decode cX5_init 37 = .ok (.bipush 90, 2) := by decide +kernel
theorem dX5_init_39 : decode cX5_init 39 = .ok (.newarray .int, 2) := by decide +kernel
theorem dX5_init_41 : decode cX5_init 41 = .ok (.putfield 24, 3) := by decide +kernel
theorem dX5_init_44 : decode cX5_init 44 = .ok (.aload_n 0, 1) := by decide +kernel
theorem dX5_init_45 : decode cX5_init 45 = .ok (.iconst 0, 1) := by decide +kernel
theorem dX5_init_46 : decode cX5_init 46 = .ok (.putfield 27, 3) := by decide +kernel
theorem dX5_init_49 : decode cX5_init 49 = .ok (.return_, 1) := by decide +kernel
theorem dX5_size_0 : decode cX5_size 0 = .ok (.aload_n 0, 1) := by decide +kernel
theorem dX5_size_1 : decode cX5_size 1 = .ok (.getfield 27, 3) := by decide +kernel
theorem dX5_size_4 : decode cX5_size 4 = .ok (.ireturn, 1) := by decide +kernel
theorem dX5_has_0 : decode cX5_has 0 = .ok (.iload_n 1, 1) := by decide +kernel
theorem dX5_has_1 : decode cX5_has 1 = .ok (.ifCond .lt 15, 3) := by decide +kernel
theorem dX5_has_4 : decode cX5_has 4 = .ok (.iload_n 1, 1) := by decide +kernel
theorem dX5_has_5 : decode cX5_has 5 = .ok (.aload_n 0, 1) := by decide +kernel
theorem dX5_has_6 : decode cX5_has 6 = .ok (.getfield 27, 3) := by decide +kernel
theorem dX5_has_9 : decode cX5_has 9 = .ok (.if_icmp .ge 7, 3) := by decide +kernel
theorem dX5_has_12 : decode cX5_has 12 = .ok (.iconst 1, 1) := by decide +kernel
theorem dX5_has_13 : decode cX5_has 13 = .ok (.goto 4, 3) := by decide +kernel
theorem dX5_has_16 : decode cX5_has 16 = .ok (.iconst 0, 1) := by decide +kernel
theorem dX5_has_17 : decode cX5_has 17 = .ok (.ireturn, 1) := by decide +kernel
theorem dX5_section_0 : decode cX5_section 0 = .ok (.aload_n 0, 1) := by decide +kernel
theorem dX5_section_1 : decode cX5_section 1 = .ok (.iload_n 1, 1) := by decide +kernel
theorem dX5_section_2 : decode cX5_section 2 = .ok (.invokevirtual 31, 3) := by decide +kernel
theorem dX5_section_5 : decode cX5_section 5 = .ok (.ifCond .eq 12, 3) := by decide +kernel
theorem dX5_section_8 : decode cX5_section 8 = .ok (.aload_n 0, 1) := by decide +kernel
theorem dX5_section_9 : decode cX5_section 9 = .ok (.getfield 9, 3) := by decide +kernel
theorem dX5_section_12 : decode cX5_section 12 = .ok (.iload_n 1, 1) := by decide +kernel
theorem dX5_section_13 : decode cX5_section 13 = .ok (.iaload, 1) := by decide +kernel
theorem dX5_section_14 : decode cX5_section 14 = .ok (.goto 4, 3) := by decide +kernel
theorem dX5_section_17 : decode cX5_section 17 = .ok (.iconst (-1), 1) := by decide +kernel
theorem dX5_section_18 : decode cX5_section 18 = .ok (.ireturn, 1) := by decide +kernel
theorem dX5_owner_0 : decode cX5_owner 0 = .ok (.aload_n 0, 1) := by decide +kernel
theorem dX5_owner_1 : decode cX5_owner 1 = .ok (.iload_n 1, 1) := by decide +kernel
theorem dX5_owner_2 : decode cX5_owner 2 = .ok (.invokevirtual 31, 3) := by decide +kernel
theorem dX5_owner_5 : decode cX5_owner 5 = .ok (.ifCond .eq 12, 3) := by decide +kernel
theorem dX5_owner_8 : decode cX5_owner 8 = .ok (.aload_n 0, 1) := by decide +kernel
theorem dX5_owner_9 : decode cX5_owner 9 = .ok (.getfield 15, 3) := by decide +kernel
theorem dX5_owner_12 : decode cX5_owner 12 = .ok (.iload_n 1, 1) := by decide +kernel
theorem dX5_owner_13 : decode cX5_owner 13 = .ok (.iaload, 1) := by decide +kernel
theorem dX5_owner_14 : decode cX5_owner 14 = .ok (.goto 4, 3) := by decide +kernel
theorem dX5_owner_17 : decode cX5_owner 17 = .ok (.iconst (-1), 1) := by decide +kernel
theorem dX5_owner_18 : decode cX5_owner 18 = .ok (.ireturn, 1) := by decide +kernel
theorem dX5_type_0 : decode cX5_type 0 = .ok (.aload_n 0, 1) := by decide +kernel
theorem dX5_type_1 : decode cX5_type 1 = .ok (.iload_n 1, 1) := by decide +kernel
theorem dX5_type_2 : decode cX5_type 2 = .ok (.invokevirtual 31, 3) := by decide +kernel
theorem dX5_type_5 : decode cX5_type 5 = .ok (.ifCond .eq 12, 3) := by decide +kernel
theorem dX5_type_8 : decode cX5_type 8 = .ok (.aload_n 0, 1) := by decide +kernel
theorem dX5_type_9 : decode cX5_type 9 = .ok (.getfield 18, 3) := by decide +kernel
theorem dX5_type_12 : decode cX5_type 12 = .ok (.iload_n 1, 1) := by decide +kernel
theorem dX5_type_13 : decode cX5_type 13 = .ok (.iaload, 1) := by decide +kernel
theorem dX5_type_14 : decode cX5_type 14 = .ok (.goto 4, 3) := by decide +kernel
theorem dX5_type_17 : decode cX5_type 17 = .ok (.iconst (-1), 1) := by decide +kernel
theorem dX5_type_18 : decode cX5_type 18 = .ok (.ireturn, 1) := by decide +kernel
theorem dX5_value_0 : decode cX5_value 0 = .ok (.aload_n 0, 1) := by decide +kernel
theorem dX5_value_1 : decode cX5_value 1 = .ok (.iload_n 1, 1) := by decide +kernel
theorem dX5_value_2 : decode cX5_value 2 = .ok (.invokevirtual 31, 3) := by decide +kernel
theorem dX5_value_5 : decode cX5_value 5 = .ok (.ifCond .eq 12, 3) := by decide +kernel
theorem dX5_value_8 : decode cX5_value 8 = .ok (.aload_n 0, 1) := by decide +kernel
theorem dX5_value_9 : decode cX5_value 9 = .ok (.getfield 21, 3) := by decide +kernel
theorem dX5_value_12 : decode cX5_value 12 = .ok (.iload_n 1, 1) := by decide +kernel
theorem dX5_value_13 : decode cX5_value 13 = .ok (.iaload, 1) := by decide +kernel
theorem dX5_value_14 : decode cX5_value 14 = .ok (.goto 4, 3) := by decide +kernel
theorem dX5_value_17 : decode cX5_value 17 = .ok (.iconst 0, 1) := by decide +kernel
theorem dX5_value_18 : decode cX5_value 18 = .ok (.ireturn, 1) := by decide +kernel
theorem dX5_life_0 : decode cX5_life 0 = .ok (.aload_n 0, 1) := by decide +kernel
theorem dX5_life_1 : decode cX5_life 1 = .ok (.iload_n 1, 1) := by decide +kernel
theorem dX5_life_2 : decode cX5_life 2 = .ok (.invokevirtual 31, 3) := by decide +kernel
theorem dX5_life_5 : decode cX5_life 5 = .ok (.ifCond .eq 12, 3) := by decide +kernel
theorem dX5_life_8 : decode cX5_life 8 = .ok (.aload_n 0, 1) := by decide +kernel
theorem dX5_life_9 : decode cX5_life 9 = .ok (.getfield 24, 3) := by decide +kernel
theorem dX5_life_12 : decode cX5_life 12 = .ok (.iload_n 1, 1) := by decide +kernel
theorem dX5_life_13 : decode cX5_life 13 = .ok (.iaload, 1) := by decide +kernel
theorem dX5_life_14 : decode cX5_life 14 = .ok (.goto 4, 3) := by decide +kernel
theorem dX5_life_17 : decode cX5_life 17 = .ok (.iconst 0, 1) := by decide +kernel
theorem dX5_life_18 : decode cX5_life 18 = .ok (.ireturn, 1) := by decide +kernel
theorem dX5_clear_0 : decode cX5_clear 0 = .ok (.aload_n 0, 1) := by decide +kernel
theorem dX5_clear_1 : decode cX5_clear 1 = .ok (.iconst 0, 1) := by decide +kernel
theorem dX5_clear_2 : decode cX5_clear 2 = .ok (.putfield 27, 3) := by decide +kernel
theorem dX5_clear_5 : decode cX5_clear 5 = .ok (.return_, 1) := by decide +kernel
theorem dX5_add_0 : decode cX5_add 0 = .ok (.aload_n 0, 1) := by decide +kernel
theorem dX5_add_1 : decode cX5_add 1 = .ok (.getfield 27, 3) := by decide +kernel
theorem dX5_add_4 : decode cX5_add 4 = .ok (.bipush 90, 2) := by decide +kernel
theorem dX5_add_6 : decode cX5_add 6 = .ok (.if_icmp .lt 4, 3) := by decide +kernel
theorem dX5_add_9 : decode cX5_add 9 = .ok (.return_, 1) := by decide +kernel
theorem dX5_add_10 : decode cX5_add 10 = .ok (.aload_n 0, 1) := by decide +kernel
theorem dX5_add_11 : decode cX5_add 11 = .ok (.getfield 9, 3) := by decide +kernel
theorem dX5_add_14 : decode cX5_add 14 = .ok (.aload_n 0, 1) := by decide +kernel
theorem dX5_add_15 : decode cX5_add 15 = .ok (.getfield 27, 3) := by decide +kernel
theorem dX5_add_18 : decode cX5_add 18 = .ok (.iload_n 1, 1) := by decide +kernel
theorem dX5_add_19 : decode cX5_add 19 = .ok (.iastore, 1) := by decide +kernel
theorem dX5_add_20 : decode cX5_add 20 = .ok (.aload_n 0, 1) := by decide +kernel
theorem dX5_add_21 : decode cX5_add 21 = .ok (.getfield 15, 3) := by decide +kernel
theorem dX5_add_24 : decode cX5_add 24 = .ok (.aload_n 0, 1) := by decide +kernel
theorem dX5_add_25 : decode cX5_add 25 = .ok (.getfield 27, 3) := by decide +kernel
theorem dX5_add_28 : decode cX5_add 28 = .ok (.iload_n 2, 1) := by decide +kernel
theorem dX5_add_29 : decode cX5_add 29 = .ok (.iastore, 1) := by decide +kernel
theorem dX5_add_30 : decode cX5_add 30 = .ok (.aload_n 0, 1) := by decide +kernel
theorem dX5_add_31 : decode cX5_add 31 = .ok (.getfield 18, 3) := by decide +kernel
theorem dX5_add_34 : decode cX5_add 34 = .ok (.aload_n 0, 1) := by decide +kernel
theorem dX5_add_35 : decode cX5_add 35 = .ok (.getfield 27, 3) := by decide +kernel
theorem dX5_add_38 : decode cX5_add 38 = .ok (.iload_n 3, 1) := by decide +kernel
theorem dX5_add_39 : decode cX5_add 39 = .ok (.iastore, 1) := by decide +kernel
theorem dX5_add_40 : decode cX5_add 40 = .ok (.aload_n 0, 1) := by decide +kernel
theorem dX5_add_41 : decode cX5_add 41 = .ok (.getfield 21, 3) := by decide +kernel
theorem dX5_add_44 : decode cX5_add 44 = .ok (.aload_n 0, 1) := by decide +kernel
theorem dX5_add_45 : decode cX5_add 45 = .ok (.getfield 27, 3) := by decide +kernel
theorem dX5_add_48 : decode cX5_add 48 = .ok (.iload 4, 2) := by decide +kernel
theorem dX5_add_50 : decode cX5_add 50 = .ok (.iastore, 1) := by decide +kernel
theorem dX5_add_51 : decode cX5_add 51 = .ok (.aload_n 0, 1) := by decide +kernel
theorem dX5_add_52 : decode cX5_add 52 = .ok (.getfield 24, 3) := by decide +kernel
theorem dX5_add_55 : decode cX5_add 55 = .ok (.aload_n 0, 1) := by decide +kernel
theorem dX5_add_56 : decode cX5_add 56 = .ok (.getfield 27, 3) := by decide +kernel
theorem dX5_add_59 : decode cX5_add 59 = .ok (.iload 5, 2) := by decide +kernel
theorem dX5_add_61 : decode cX5_add 61 = .ok (.iastore, 1) := by decide +kernel
theorem dX5_add_62 : decode cX5_add 62 = .ok (.aload_n 0, 1) := by decide +kernel
theorem dX5_add_63 : decode cX5_add 63 = .ok (.dup, 1) := by decide +kernel
theorem dX5_add_64 : decode cX5_add 64 = .ok (.getfield 27, 3) := by decide +kernel
theorem dX5_add_67 : decode cX5_add 67 = .ok (.iconst 1, 1) := by decide +kernel
theorem dX5_add_68 : decode cX5_add 68 = .ok (.iadd, 1) := by decide +kernel
theorem dX5_add_69 : decode cX5_add 69 = .ok (.putfield 27, 3) := by decide +kernel
theorem dX5_add_72 : decode cX5_add 72 = .ok (.return_, 1) := by decide +kernel
theorem dX5_copy_0 : decode cX5_copy 0 = .ok (.aload_n 0, 1) := by decide +kernel
theorem dX5_copy_1 : decode cX5_copy 1 = .ok (.invokevirtual 35, 3) := by decide +kernel
theorem dX5_copy_4 : decode cX5_copy 4 = .ok (.iconst 0, 1) := by decide +kernel
theorem dX5_copy_5 : decode cX5_copy 5 = .ok (.istore_n 2, 1) := by decide +kernel
theorem dX5_copy_6 : decode cX5_copy 6 = .ok (.iload_n 2, 1) := by decide +kernel
theorem dX5_copy_7 : decode cX5_copy 7 = .ok (.aload_n 1, 1) := by decide +kernel
theorem dX5_copy_8 : decode cX5_copy 8 = .ok (.getfield 27, 3) := by decide +kernel
theorem dX5_copy_11 : decode cX5_copy 11 = .ok (.if_icmp .ge 43, 3) := by decide +kernel
theorem dX5_copy_14 : decode cX5_copy 14 = .ok (.aload_n 0, 1) := by decide +kernel
theorem dX5_copy_15 : decode cX5_copy 15 = .ok (.aload_n 1, 1) := by decide +kernel
theorem dX5_copy_16 : decode cX5_copy 16 = .ok (.getfield 9, 3) := by decide +kernel
theorem dX5_copy_19 : decode cX5_copy 19 = .ok (.iload_n 2, 1) := by decide +kernel
theorem dX5_copy_20 : decode cX5_copy 20 = .ok (.iaload, 1) := by decide +kernel
theorem dX5_copy_21 : decode cX5_copy 21 = .ok (.aload_n 1, 1) := by decide +kernel
theorem dX5_copy_22 : decode cX5_copy 22 = .ok (.getfield 15, 3) := by decide +kernel
theorem dX5_copy_25 : decode cX5_copy 25 = .ok (.iload_n 2, 1) := by decide +kernel
theorem dX5_copy_26 : decode cX5_copy 26 = .ok (.iaload, 1) := by decide +kernel
theorem dX5_copy_27 : decode cX5_copy 27 = .ok (.aload_n 1, 1) := by decide +kernel
theorem dX5_copy_28 : decode cX5_copy 28 = .ok (.getfield 18, 3) := by decide +kernel
theorem dX5_copy_31 : decode cX5_copy 31 = .ok (.iload_n 2, 1) := by decide +kernel
theorem dX5_copy_32 : decode cX5_copy 32 = .ok (.iaload, 1) := by decide +kernel
theorem dX5_copy_33 : decode cX5_copy 33 = .ok (.aload_n 1, 1) := by decide +kernel
theorem dX5_copy_34 : decode cX5_copy 34 = .ok (.getfield 21, 3) := by decide +kernel
theorem dX5_copy_37 : decode cX5_copy 37 = .ok (.iload_n 2, 1) := by decide +kernel
theorem dX5_copy_38 : decode cX5_copy 38 = .ok (.iaload, 1) := by decide +kernel
theorem dX5_copy_39 : decode cX5_copy 39 = .ok (.aload_n 1, 1) := by decide +kernel
theorem dX5_copy_40 : decode cX5_copy 40 = .ok (.getfield 24, 3) := by decide +kernel
theorem dX5_copy_43 : decode cX5_copy 43 = .ok (.iload_n 2, 1) := by decide +kernel
theorem dX5_copy_44 : decode cX5_copy 44 = .ok (.iaload, 1) := by decide +kernel
theorem dX5_copy_45 : decode cX5_copy 45 = .ok (.invokevirtual 38, 3) := by decide +kernel
theorem dX5_copy_48 : decode cX5_copy 48 = .ok (.iinc 2 1, 3) := by decide +kernel
theorem dX5_copy_51 : decode cX5_copy 51 = .ok (.goto (-45), 3) := by decide +kernel
theorem dX5_copy_54 : decode cX5_copy 54 = .ok (.return_, 1) := by decide +kernel
theorem dX5_isOf_0 : decode cX5_isOf 0 = .ok (.aload_n 0, 1) := by decide +kernel
theorem dX5_isOf_1 : decode cX5_isOf 1 = .ok (.iload_n 1, 1) := by decide +kernel
theorem dX5_isOf_2 : decode cX5_isOf 2 = .ok (.invokevirtual 31, 3) := by decide +kernel
theorem dX5_isOf_5 : decode cX5_isOf 5 = .ok (.ifCond .eq 38, 3) := by decide +kernel
theorem dX5_isOf_8 : decode cX5_isOf 8 = .ok (.aload_n 0, 1) := by decide +kernel
theorem dX5_isOf_9 : decode cX5_isOf 9 = .ok (.getfield 9, 3) := by decide +kernel
theorem dX5_isOf_12 : decode cX5_isOf 12 = .ok (.iload_n 1, 1) := by decide +kernel
theorem dX5_isOf_13 : decode cX5_isOf 13 = .ok (.iaload, 1) := by decide +kernel
theorem dX5_isOf_14 : decode cX5_isOf 14 = .ok (.iload_n 2, 1) := by decide +kernel
theorem dX5_isOf_15 : decode cX5_isOf 15 = .ok (.if_icmp .ne 28, 3) := by decide +kernel
theorem dX5_isOf_18 : decode cX5_isOf 18 = .ok (.aload_n 0, 1) := by decide +kernel
theorem dX5_isOf_19 : decode cX5_isOf 19 = .ok (.getfield 15, 3) := by decide +kernel
theorem dX5_isOf_22 : decode cX5_isOf 22 = .ok (.iload_n 1, 1) := by decide +kernel
theorem dX5_isOf_23 : decode cX5_isOf 23 = .ok (.iaload, 1) := by decide +kernel
theorem dX5_isOf_24 : decode cX5_isOf 24 = .ok (.iload_n 3, 1) := by decide +kernel
theorem dX5_isOf_25 : decode cX5_isOf 25 = .ok (.if_icmp .ne 18, 3) := by decide +kernel
theorem dX5_isOf_28 : decode cX5_isOf 28 = .ok (.aload_n 0, 1) := by decide +kernel
theorem dX5_isOf_29 : decode cX5_isOf 29 = .ok (.getfield 18, 3) := by decide +kernel
theorem dX5_isOf_32 : decode cX5_isOf 32 = .ok (.iload_n 1, 1) := by decide +kernel
theorem dX5_isOf_33 : decode cX5_isOf 33 = .ok (.iaload, 1) := by decide +kernel
theorem dX5_isOf_34 : decode cX5_isOf 34 = .ok (.iload 4, 2) := by decide +kernel
theorem dX5_isOf_36 : decode cX5_isOf 36 = .ok (.if_icmp .ne 7, 3) := by decide +kernel
theorem dX5_isOf_39 : decode cX5_isOf 39 = .ok (.iconst 1, 1) := by decide +kernel
theorem dX5_isOf_40 : decode cX5_isOf 40 = .ok (.goto 4, 3) := by decide +kernel
theorem dX5_isOf_43 : decode cX5_isOf 43 = .ok (.iconst 0, 1) := by decide +kernel
theorem dX5_isOf_44 : decode cX5_isOf 44 = .ok (.ireturn, 1) := by decide +kernel
theorem dX5_first_0 : decode cX5_first 0 = .ok (.iconst 0, 1) := by decide +kernel
theorem dX5_first_1 : decode cX5_first 1 = .ok (.istore_n 3, 1) := by decide +kernel
theorem dX5_first_2 : decode cX5_first 2 = .ok (.iload_n 3, 1) := by decide +kernel
theorem dX5_first_3 : decode cX5_first 3 = .ok (.aload_n 0, 1) := by decide +kernel
theorem dX5_first_4 : decode cX5_first 4 = .ok (.getfield 27, 3) := by decide +kernel
theorem dX5_first_7 : decode cX5_first 7 = .ok (.if_icmp .ge 31, 3) := by decide +kernel
theorem dX5_first_10 : decode cX5_first 10 = .ok (.aload_n 0, 1) := by decide +kernel
theorem dX5_first_11 : decode cX5_first 11 = .ok (.getfield 9, 3) := by decide +kernel
theorem dX5_first_14 : decode cX5_first 14 = .ok (.iload_n 3, 1) := by decide +kernel
theorem dX5_first_15 : decode cX5_first 15 = .ok (.iaload, 1) := by decide +kernel
theorem dX5_first_16 : decode cX5_first 16 = .ok (.iload_n 1, 1) := by decide +kernel
theorem dX5_first_17 : decode cX5_first 17 = .ok (.if_icmp .ne 15, 3) := by decide +kernel
theorem dX5_first_20 : decode cX5_first 20 = .ok (.aload_n 0, 1) := by decide +kernel
theorem dX5_first_21 : decode cX5_first 21 = .ok (.getfield 18, 3) := by decide +kernel
theorem dX5_first_24 : decode cX5_first 24 = .ok (.iload_n 3, 1) := by decide +kernel
theorem dX5_first_25 : decode cX5_first 25 = .ok (.iaload, 1) := by decide +kernel
theorem dX5_first_26 : decode cX5_first 26 = .ok (.iload_n 2, 1) := by decide +kernel
theorem dX5_first_27 : decode cX5_first 27 = .ok (.if_icmp .ne 5, 3) := by decide +kernel
theorem dX5_first_30 : decode cX5_first 30 = .ok (.iload_n 3, 1) := by decide +kernel
theorem dX5_first_31 : decode cX5_first 31 = .ok (.ireturn, 1) := by decide +kernel
theorem dX5_first_32 : decode cX5_first 32 = .ok (.iinc 3 1, 3) := by decide +kernel
theorem dX5_first_35 : decode cX5_first 35 = .ok (.goto (-33), 3) := by decide +kernel
theorem dX5_first_38 : decode cX5_first 38 = .ok (.iconst (-1), 1) := by decide +kernel
theorem dX5_first_39 : decode cX5_first 39 = .ok (.ireturn, 1) := by decide +kernel
theorem dX8_init_0 : decode cX8_init 0 = .ok (.aload_n 0, 1) := by decide +kernel
theorem dX8_init_1 : decode cX8_init 1 = .ok (.invokespecial 3, 3) := by decide +kernel
theorem dX8_init_4 : decode cX8_init 4 = .ok (.aload_n 0, 1) := by decide +kernel
theorem dX8_init_5 : decode cX8_init 5 = .ok (.bipush 6, 2) := by decide +kernel
theorem dX8_init_7 : decode cX8_init 7 = .ok (.newarray .long, 2) := by decide +kernel
theorem dX8_init_9 : decode cX8_init 9 = .ok (.putfield 9, 3) := by decide +kernel
theorem dX8_init_12 : decode cX8_init 12 = .ok (.aload_n 0, 1) := by decide +kernel
theorem dX8_init_13 : decode cX8_init 13 = .ok (.bipush 6, 2) := by decide +kernel
theorem dX8_init_15 : decode cX8_init 15 = .ok (.newarray .int, 2) := by decide +kernel
theorem dX8_init_17 : decode cX8_init 17 = .ok (.putfield 15, 3) := by decide +kernel
theorem dX8_init_20 : decode cX8_init 20 = .ok (.aload_n 0, 1) := by decide +kernel
theorem dX8_init_21 : decode cX8_init 21 = .ok (.iconst 0, 1) := by decide +kernel
theorem dX8_init_22 : decode cX8_init 22 = .ok (.putfield 19, 3) := by decide +kernel
theorem dX8_init_25 : decode cX8_init 25 = .ok (.return_, 1) := by decide +kernel
theorem dX8_clear_0 : decode cX8_clear 0 = .ok (.aload_n 0, 1) := by decide +kernel
theorem dX8_clear_1 : decode cX8_clear 1 = .ok (.iconst 0, 1) := by decide +kernel
theorem dX8_clear_2 : decode cX8_clear 2 = .ok (.putfield 19, 3) := by decide +kernel
theorem dX8_clear_5 : decode cX8_clear 5 = .ok (.return_, 1) := by decide +kernel
theorem dX8_size_0 : decode cX8_size 0 = .ok (.aload_n 0, 1) := by decide +kernel
theorem dX8_size_1 : decode cX8_size 1 = .ok (.getfield 19, 3) := by decide +kernel
theorem dX8_size_4 : decode cX8_size 4 = .ok (.ireturn, 1) := by decide +kernel
theorem dX8_labelAt_0 : decode cX8_labelAt 0 = .ok (.iload_n 1, 1) := by decide +kernel
theorem dX8_labelAt_1 : decode cX8_labelAt 1 = .ok (.ifCond .lt 20, 3) := by decide +kernel
theorem dX8_labelAt_4 : decode cX8_labelAt 4 = .ok (.iload_n 1, 1) := by decide +kernel
theorem dX8_labelAt_5 : decode cX8_labelAt 5 = .ok (.aload_n 0, 1) := by decide +kernel
theorem dX8_labelAt_6 : decode cX8_labelAt 6 = .ok (.getfield 19, 3) := by decide +kernel
theorem dX8_labelAt_9 : decode cX8_labelAt 9 = .ok (.if_icmp .ge 12, 3) := by decide +kernel
theorem dX8_labelAt_12 : decode cX8_labelAt 12 = .ok (.aload_n 0, 1) := by decide +kernel
theorem dX8_labelAt_13 : decode cX8_labelAt 13 = .ok (.getfield 9, 3) := by decide +kernel
theorem dX8_labelAt_16 : decode cX8_labelAt 16 = .ok (.iload_n 1, 1) := by decide +kernel
theorem dX8_labelAt_17 : decode cX8_labelAt 17 = .ok (.laload, 1) := by decide +kernel
theorem dX8_labelAt_18 : decode cX8_labelAt 18 = .ok (.goto 4, 3) := by decide +kernel
theorem dX8_labelAt_21 : decode cX8_labelAt 21 = .ok (.lconst 0, 1) := by decide +kernel
theorem dX8_labelAt_22 : decode cX8_labelAt 22 = .ok (.lreturn, 1) := by decide +kernel
theorem dX8_lengthAt_0 : decode cX8_lengthAt 0 = .ok (.iload_n 1, 1) := by decide +kernel
theorem dX8_lengthAt_1 : decode cX8_lengthAt 1 = .ok (.ifCond .lt 20, 3) := by decide +kernel
theorem dX8_lengthAt_4 : decode cX8_lengthAt 4 = .ok (.iload_n 1, 1) := by decide +kernel
theorem dX8_lengthAt_5 : decode cX8_lengthAt 5 = .ok (.aload_n 0, 1) := by decide +kernel
theorem dX8_lengthAt_6 : decode cX8_lengthAt 6 = .ok (.getfield 19, 3) := by decide +kernel
theorem dX8_lengthAt_9 : decode cX8_lengthAt 9 = .ok (.if_icmp .ge 12, 3) := by decide +kernel
theorem dX8_lengthAt_12 : decode cX8_lengthAt 12 = .ok (.aload_n 0, 1) := by decide +kernel
theorem dX8_lengthAt_13 : decode cX8_lengthAt 13 = .ok (.getfield 15, 3) := by decide +kernel
theorem dX8_lengthAt_16 : decode cX8_lengthAt 16 = .ok (.iload_n 1, 1) := by decide +kernel
theorem dX8_lengthAt_17 : decode cX8_lengthAt 17 = .ok (.iaload, 1) := by decide +kernel
theorem dX8_lengthAt_18 : decode cX8_lengthAt 18 = .ok (.goto 4, 3) := by decide +kernel
theorem dX8_lengthAt_21 : decode cX8_lengthAt 21 = .ok (.iconst 0, 1) := by decide +kernel
theorem dX8_lengthAt_22 : decode cX8_lengthAt 22 = .ok (.ireturn, 1) := by decide +kernel
theorem dX8_open_0 : decode cX8_open 0 = .ok (.aload_n 0, 1) := by decide +kernel
theorem dX8_open_1 : decode cX8_open 1 = .ok (.getfield 19, 3) := by decide +kernel
theorem dX8_open_4 : decode cX8_open 4 = .ok (.bipush 6, 2) := by decide +kernel
theorem dX8_open_6 : decode cX8_open 6 = .ok (.if_icmp .lt 5, 3) := by decide +kernel
theorem dX8_open_9 : decode cX8_open 9 = .ok (.iconst 0, 1) := by decide +kernel
theorem dX8_open_10 : decode cX8_open 10 = .ok (.ireturn, 1) := by decide +kernel
theorem dX8_open_11 : decode cX8_open 11 = .ok (.aload_n 0, 1) := by decide +kernel
theorem dX8_open_12 : decode cX8_open 12 = .ok (.getfield 9, 3) := by decide +kernel
theorem dX8_open_15 : decode cX8_open 15 = .ok (.aload_n 0, 1) := by decide +kernel
theorem dX8_open_16 : decode cX8_open 16 = .ok (.getfield 19, 3) := by decide +kernel
theorem dX8_open_19 : decode cX8_open 19 = .ok (.lconst 0, 1) := by decide +kernel
theorem dX8_open_20 : decode cX8_open 20 = .ok (.lastore, 1) := by decide +kernel
theorem dX8_open_21 : decode cX8_open 21 = .ok (.aload_n 0, 1) := by decide +kernel
theorem dX8_open_22 : decode cX8_open 22 = .ok (.getfield 15, 3) := by decide +kernel
theorem dX8_open_25 : decode cX8_open 25 = .ok (.aload_n 0, 1) := by decide +kernel
theorem dX8_open_26 : decode cX8_open 26 = .ok (.getfield 19, 3) := by decide +kernel
theorem dX8_open_29 : decode cX8_open 29 = .ok (.iconst 0, 1) := by decide +kernel
theorem dX8_open_30 : decode cX8_open 30 = .ok (.iastore, 1) := by decide +kernel
theorem dX8_open_31 : decode cX8_open 31 = .ok (.aload_n 0, 1) := by decide +kernel
theorem dX8_open_32 : decode cX8_open 32 = .ok (.dup, 1) := by decide +kernel
theorem dX8_open_33 : decode cX8_open 33 = .ok (.getfield 19, 3) := by decide +kernel
theorem dX8_open_36 : decode cX8_open 36 = .ok (.iconst 1, 1) := by decide +kernel
theorem dX8_open_37 : decode cX8_open 37 = .ok (.iadd, 1) := by decide +kernel
theorem dX8_open_38 : decode cX8_open 38 = .ok (.putfield 19, 3) := by decide +kernel
theorem dX8_open_41 : decode cX8_open 41 = .ok (.iconst 1, 1) := by decide +kernel
theorem dX8_open_42 : decode cX8_open 42 = .ok (.ireturn, 1) := by decide +kernel
theorem dX8_add_0 : decode cX8_add 0 = .ok (.iconst 0, 1) := by decide +kernel
theorem dX8_add_1 : decode cX8_add 1 = .ok (.istore_n 2, 1) := by decide +kernel
theorem dX8_add_2 : decode cX8_add 2 = .ok (.iload_n 1, 1) := by decide +kernel
theorem dX8_add_3 : decode cX8_add 3 = .ok (.bipush 97, 2) := by decide +kernel
theorem dX8_add_5 : decode cX8_add 5 = .ok (.if_icmp .lt 19, 3) := by decide +kernel
theorem dX8_add_8 : decode cX8_add 8 = .ok (.iload_n 1, 1) := by decide +kernel
theorem dX8_add_9 : decode cX8_add 9 = .ok (.bipush 122, 2) := by decide +kernel
theorem dX8_add_11 : decode cX8_add 11 = .ok (.if_icmp .gt 13, 3) := by decide +kernel
theorem dX8_add_14 : decode cX8_add 14 = .ok (.iload_n 1, 1) := by decide +kernel
theorem dX8_add_15 : decode cX8_add 15 = .ok (.bipush 97, 2) := by decide +kernel
theorem dX8_add_17 : decode cX8_add 17 = .ok (.isub, 1) := by decide +kernel
theorem dX8_add_18 : decode cX8_add 18 = .ok (.iconst 1, 1) := by decide +kernel
theorem dX8_add_19 : decode cX8_add 19 = .ok (.iadd, 1) := by decide +kernel
theorem dX8_add_20 : decode cX8_add 20 = .ok (.istore_n 2, 1) := by decide +kernel
theorem dX8_add_21 : decode cX8_add 21 = .ok (.goto 35, 3) := by decide +kernel
theorem dX8_add_24 : decode cX8_add 24 = .ok (.iload_n 1, 1) := by decide +kernel
theorem dX8_add_25 : decode cX8_add 25 = .ok (.bipush 48, 2) := by decide +kernel
theorem dX8_add_27 : decode cX8_add 27 = .ok (.if_icmp .lt 20, 3) := by decide +kernel
theorem dX8_add_30 : decode cX8_add 30 = .ok (.iload_n 1, 1) := by decide +kernel
theorem dX8_add_31 : decode cX8_add 31 = .ok (.bipush 57, 2) := by decide +kernel
theorem dX8_add_33 : decode cX8_add 33 = .ok (.if_icmp .gt 14, 3) := by decide +kernel
theorem dX8_add_36 : decode cX8_add 36 = .ok (.iload_n 1, 1) := by decide +kernel
theorem dX8_add_37 : decode cX8_add 37 = .ok (.bipush 48, 2) := by decide +kernel
theorem dX8_add_39 : decode cX8_add 39 = .ok (.isub, 1) := by decide +kernel
theorem dX8_add_40 : decode cX8_add 40 = .ok (.bipush 27, 2) := by decide +kernel
theorem dX8_add_42 : decode cX8_add 42 = .ok (.iadd, 1) := by decide +kernel
theorem dX8_add_43 : decode cX8_add 43 = .ok (.istore_n 2, 1) := by decide +kernel
theorem dX8_add_44 : decode cX8_add 44 = .ok (.goto 12, 3) := by decide +kernel
theorem dX8_add_47 : decode cX8_add 47 = .ok (.iload_n 1, 1) := by decide +kernel
theorem dX8_add_48 : decode cX8_add 48 = .ok (.bipush 45, 2) := by decide +kernel
theorem dX8_add_50 : decode cX8_add 50 = .ok (.if_icmp .ne 6, 3) := by decide +kernel
theorem dX8_add_53 : decode cX8_add 53 = .ok (.bipush 37, 2) := by decide +kernel
theorem dX8_add_55 : decode cX8_add 55 = .ok (.istore_n 2, 1) := by decide +kernel
theorem dX8_add_56 : decode cX8_add 56 = .ok (.aload_n 0, 1) := by decide +kernel
theorem dX8_add_57 : decode cX8_add 57 = .ok (.getfield 19, 3) := by decide +kernel
theorem dX8_add_60 : decode cX8_add 60 = .ok (.iconst 1, 1) := by decide +kernel
theorem dX8_add_61 : decode cX8_add 61 = .ok (.isub, 1) := by decide +kernel
theorem dX8_add_62 : decode cX8_add 62 = .ok (.istore_n 3, 1) := by decide +kernel
theorem dX8_add_63 : decode cX8_add 63 = .ok (.iload_n 2, 1) := by decide +kernel
theorem dX8_add_64 : decode cX8_add 64 = .ok (.ifCond .eq 18, 3) := by decide +kernel
theorem dX8_add_67 : decode cX8_add 67 = .ok (.iload_n 3, 1) := by decide +kernel
theorem dX8_add_68 : decode cX8_add 68 = .ok (.ifCond .lt 14, 3) := by decide +kernel
theorem dX8_add_71 : decode cX8_add 71 = .ok (.aload_n 0, 1) := by decide +kernel
theorem dX8_add_72 : decode cX8_add 72 = .ok (.getfield 15, 3) := by decide +kernel
theorem dX8_add_75 : decode cX8_add 75 = .ok (.iload_n 3, 1) := by decide +kernel
theorem dX8_add_76 : decode cX8_add 76 = .ok (.iaload, 1) := by decide +kernel
theorem dX8_add_77 : decode cX8_add 77 = .ok (.bipush 10, 2) := by decide +kernel
theorem dX8_add_79 : decode cX8_add 79 = .ok (.if_icmp .lt 5, 3) := by decide +kernel
theorem dX8_add_82 : decode cX8_add 82 = .ok (.iconst 0, 1) := by decide +kernel
theorem dX8_add_83 : decode cX8_add 83 = .ok (.ireturn, 1) := by decide +kernel
theorem dX8_add_84 : decode cX8_add 84 = .ok (.aload_n 0, 1) := by decide +kernel
theorem dX8_add_85 : decode cX8_add 85 = .ok (.getfield 9, 3) := by decide +kernel
theorem dX8_add_88 : decode cX8_add 88 = .ok (.iload_n 3, 1) := by decide +kernel
theorem dX8_add_89 : decode cX8_add 89 = .ok (.aload_n 0, 1) := by decide +kernel
theorem dX8_add_90 : decode cX8_add 90 = .ok (.getfield 9, 3) := by decide +kernel
theorem dX8_add_93 : decode cX8_add 93 = .ok (.iload_n 3, 1) := by decide +kernel
theorem dX8_add_94 : decode cX8_add 94 = .ok (.laload, 1) := by decide +kernel
theorem dX8_add_95 : decode cX8_add 95 = .ok (.bipush 6, 2) := by decide +kernel
theorem dX8_add_97 : decode cX8_add 97 = .ok (.lshl, 1) := by decide +kernel
theorem dX8_add_98 : decode cX8_add 98 = .ok (.iload_n 2, 1) := by decide +kernel
theorem dX8_add_99 : decode cX8_add 99 = .ok (.i2l, 1) := by decide +kernel
theorem dX8_add_100 : decode cX8_add 100 = .ok (.ladd, 1) := by decide +kernel
theorem dX8_add_101 : decode cX8_add 101 = .ok (.lastore, 1) := by decide +kernel
theorem dX8_add_102 : decode cX8_add 102 = .ok (.aload_n 0, 1) := by decide +kernel
theorem dX8_add_103 : decode cX8_add 103 = .ok (.getfield 15, 3) := by decide +kernel
theorem dX8_add_106 : decode cX8_add 106 = .ok (.iload_n 3, 1) := by decide +kernel
theorem dX8_add_107 : decode cX8_add 107 = .ok (.dup2, 1) := by decide +kernel
theorem dX8_add_108 : decode cX8_add 108 = .ok (.iaload, 1) := by decide +kernel
theorem dX8_add_109 : decode cX8_add 109 = .ok (.iconst 1, 1) := by decide +kernel
theorem dX8_add_110 : decode cX8_add 110 = .ok (.iadd, 1) := by decide +kernel
theorem dX8_add_111 : decode cX8_add 111 = .ok (.iastore, 1) := by decide +kernel
theorem dX8_add_112 : decode cX8_add 112 = .ok (.iconst 1, 1) := by decide +kernel
theorem dX8_add_113 : decode cX8_add 113 = .ok (.ireturn, 1) := by decide +kernel
theorem dX8_readText_0 : decode cX8_readText 0 = .ok (.aload_n 0, 1) := by decide +kernel
theorem dX8_readText_1 : decode cX8_readText 1 = .ok (.invokevirtual 23, 3) := by decide +kernel
theorem dX8_readText_4 : decode cX8_readText 4 = .ok (.aload_n 1, 1) := by decide +kernel
theorem dX8_readText_5 : decode cX8_readText 5 = .ok (.invokevirtual 26, 3) := by decide +kernel
theorem dX8_readText_8 : decode cX8_readText 8 = .ok (.iconst 1, 1) := by decide +kernel
theorem dX8_readText_9 : decode cX8_readText 9 = .ok (.if_icmp .ne 15, 3) := by decide +kernel
theorem dX8_readText_12 : decode cX8_readText 12 = .ok (.aload_n 1, 1) := by decide +kernel
theorem dX8_readText_13 : decode cX8_readText 13 = .ok (.iconst 0, 1) := by decide +kernel
theorem dX8_readText_14 : decode cX8_readText 14 = .ok (.invokevirtual 32, 3) := by decide +kernel
theorem dX8_readText_17 : decode cX8_readText 17 = .ok (.bipush 46, 2) := by decide +kernel
theorem dX8_readText_19 : decode cX8_readText 19 = .ok (.if_icmp .ne 5, 3) := by decide +kernel
theorem dX8_readText_22 : decode cX8_readText 22 = .ok (.iconst 1, 1) := by decide +kernel
theorem dX8_readText_23 : decode cX8_readText 23 = .ok (.ireturn, 1) := by decide +kernel
theorem dX8_readText_24 : decode cX8_readText 24 = .ok (.aload_n 0, 1) := by decide +kernel
theorem dX8_readText_25 : decode cX8_readText 25 = .ok (.invokevirtual 36, 3) := by decide +kernel
theorem dX8_readText_28 : decode cX8_readText 28 = .ok (.pop, 1) := by decide +kernel
theorem dX8_readText_29 : decode cX8_readText 29 = .ok (.iconst 0, 1) := by decide +kernel
theorem dX8_readText_30 : decode cX8_readText 30 = .ok (.istore_n 2, 1) := by decide +kernel
theorem dX8_readText_31 : decode cX8_readText 31 = .ok (.iload_n 2, 1) := by decide +kernel
theorem dX8_readText_32 : decode cX8_readText 32 = .ok (.aload_n 1, 1) := by decide +kernel
theorem dX8_readText_33 : decode cX8_readText 33 = .ok (.invokevirtual 26, 3) := by decide +kernel
theorem dX8_readText_36 : decode cX8_readText 36 = .ok (.if_icmp .ge 63, 3) := by decide +kernel
theorem dX8_readText_39 : decode cX8_readText 39 = .ok (.aload_n 1, 1) := by decide +kernel
theorem dX8_readText_40 : decode cX8_readText 40 = .ok (.iload_n 2, 1) := by decide +kernel
theorem dX8_readText_41 : decode cX8_readText 41 = .ok (.invokevirtual 32, 3) := by decide +kernel
theorem dX8_readText_44 : decode cX8_readText 44 = .ok (.istore_n 3, 1) := by decide +kernel
theorem dX8_readText_45 : decode cX8_readText 45 = .ok (.iload_n 3, 1) := by decide +kernel
theorem dX8_readText_46 : decode cX8_readText 46 = .ok (.bipush 46, 2) := by decide +kernel
theorem dX8_readText_48 : decode cX8_readText 48 = .ok (.if_icmp .ne 31, 3) := by decide +kernel
theorem dX8_readText_51 : decode cX8_readText 51 = .ok (.aload_n 0, 1) := by decide +kernel
theorem dX8_readText_52 : decode cX8_readText 52 = .ok (.aload_n 0, 1) := by decide +kernel
theorem dX8_readText_53 : decode cX8_readText 53 = .ok (.getfield 19, 3) := by decide +kernel
theorem dX8_readText_56 : decode cX8_readText 56 = .ok (.iconst 1, 1) := by decide +kernel
theorem dX8_readText_57 : decode cX8_readText 57 = .ok (.isub, 1) := by decide +kernel
theorem dX8_readText_58 : decode cX8_readText 58 = .ok (.invokevirtual 40, 3) := by decide +kernel
theorem dX8_readText_61 : decode cX8_readText 61 = .ok (.ifCond .le 14, 3) := by decide +kernel
theorem dX8_readText_64 : decode cX8_readText 64 = .ok (.aload_n 0, 1) := by decide +kernel
theorem dX8_readText_65 : decode cX8_readText 65 = .ok (.invokevirtual 36, 3) := by decide +kernel
theorem dX8_readText_68 : decode cX8_readText 68 = .ok (.ifCond .eq 7, 3) := by decide +kernel
theorem dX8_readText_71 : decode cX8_readText 71 = .ok (.iconst 1, 1) := by decide +kernel
theorem dX8_readText_72 : decode cX8_readText 72 = .ok (.goto 12, 3) := by decide +kernel
theorem dX8_readText_75 : decode cX8_readText 75 = .ok (.iconst 0, 1) := by decide +kernel
theorem dX8_readText_76 : decode cX8_readText 76 = .ok (.goto 8, 3) := by decide +kernel
theorem dX8_readText_79 : decode cX8_readText 79 = .ok (.aload_n 0, 1) := by decide +kernel
theorem dX8_readText_80 : decode cX8_readText 80 = .ok (.iload_n 3, 1) := by decide +kernel
theorem dX8_readText_81 : decode cX8_readText 81 = .ok (.invokevirtual 43, 3) := by decide +kernel
theorem dX8_readText_84 : decode cX8_readText 84 = .ok (.istore 4, 2) := by decide +kernel
theorem dX8_readText_86 : decode cX8_readText 86 = .ok (.iload 4, 2) := by decide +kernel
theorem dX8_readText_88 : decode cX8_readText 88 = .ok (.ifCond .ne 5, 3) := by decide +kernel
theorem dX8_readText_91 : decode cX8_readText 91 = .ok (.iconst 0, 1) := by decide +kernel
theorem dX8_readText_92 : decode cX8_readText 92 = .ok (.ireturn, 1) := by decide +kernel
theorem dX8_readText_93 : decode cX8_readText 93 = .ok (.iinc 2 1, 3) := by decide +kernel
theorem dX8_readText_96 : decode cX8_readText 96 = .ok (.goto (-65), 3) := by decide +kernel
theorem dX8_readText_99 : decode cX8_readText 99 = .ok (.aload_n 0, 1) := by decide +kernel
theorem dX8_readText_100 : decode cX8_readText 100 = .ok (.aload_n 0, 1) := by decide +kernel
theorem dX8_readText_101 : decode cX8_readText 101 = .ok (.getfield 19, 3) := by decide +kernel
theorem dX8_readText_104 : decode cX8_readText 104 = .ok (.iconst 1, 1) := by decide +kernel
theorem dX8_readText_105 : decode cX8_readText 105 = .ok (.isub, 1) := by decide +kernel
theorem dX8_readText_106 : decode cX8_readText 106 = .ok (.invokevirtual 40, 3) := by decide +kernel
theorem dX8_readText_109 : decode cX8_readText 109 = .ok (.ifCond .le 7, 3) := by decide +kernel
theorem dX8_readText_112 : decode cX8_readText 112 = .ok (.iconst 1, 1) := by decide +kernel
theorem dX8_readText_113 : decode cX8_readText 113 = .ok (.goto 4, 3) := by decide +kernel
theorem dX8_readText_116 : decode cX8_readText 116 = .ok (.iconst 0, 1) := by decide +kernel
theorem dX8_readText_117 : decode cX8_readText 117 = .ok (.ireturn, 1) := by decide +kernel
theorem dJ9_min_f86c9_0 : decode cJ9_min_f86c9 0 = .ok (.lload_n 0, 1) := by decide +kernel
theorem dJ9_min_f86c9_1 : decode cJ9_min_f86c9 1 = .ok (.lload_n 2, 1) := by decide +kernel
theorem dJ9_min_f86c9_2 : decode cJ9_min_f86c9 2 = .ok (.lcmp, 1) := by decide +kernel
theorem dJ9_min_f86c9_3 : decode cJ9_min_f86c9 3 = .ok (.ifCond .gt 7, 3) := by decide +kernel
theorem dJ9_min_f86c9_6 : decode cJ9_min_f86c9 6 = .ok (.lload_n 0, 1) := by decide +kernel
theorem dJ9_min_f86c9_7 : decode cJ9_min_f86c9 7 = .ok (.goto 4, 3) := by decide +kernel
theorem dJ9_min_f86c9_10 : decode cJ9_min_f86c9 10 = .ok (.lload_n 2, 1) := by decide +kernel
theorem dJ9_min_f86c9_11 : decode cJ9_min_f86c9 11 = .ok (.lreturn, 1) := by decide +kernel
theorem dJ7_fill_53178_0 : decode cJ7_fill_53178 0 = .ok (.iconst 0, 1) := by decide +kernel
theorem dJ7_fill_53178_1 : decode cJ7_fill_53178 1 = .ok (.istore_n 2, 1) := by decide +kernel
theorem dJ7_fill_53178_2 : decode cJ7_fill_53178 2 = .ok (.aload_n 0, 1) := by decide +kernel
theorem dJ7_fill_53178_3 : decode cJ7_fill_53178 3 = .ok (.arraylength, 1) := by decide +kernel
theorem dJ7_fill_53178_4 : decode cJ7_fill_53178 4 = .ok (.istore_n 3, 1) := by decide +kernel
theorem dJ7_fill_53178_5 : decode cJ7_fill_53178 5 = .ok (.iload_n 2, 1) := by decide +kernel
theorem dJ7_fill_53178_6 : decode cJ7_fill_53178 6 = .ok (.iload_n 3, 1) := by decide +kernel
theorem dJ7_fill_53178_7 : decode cJ7_fill_53178 7 = .ok (.if_icmp .ge 13, 3) := by decide +kernel
theorem dJ7_fill_53178_10 : decode cJ7_fill_53178 10 = .ok (.aload_n 0, 1) := by decide +kernel
theorem dJ7_fill_53178_11 : decode cJ7_fill_53178 11 = .ok (.iload_n 2, 1) := by decide +kernel
theorem dJ7_fill_53178_12 : decode cJ7_fill_53178 12 = .ok (.iload_n 1, 1) := by decide +kernel
theorem dJ7_fill_53178_13 : decode cJ7_fill_53178 13 = .ok (.iastore, 1) := by decide +kernel
theorem dJ7_fill_53178_14 : decode cJ7_fill_53178 14 = .ok (.iinc 2 1, 3) := by decide +kernel
theorem dJ7_fill_53178_17 : decode cJ7_fill_53178 17 = .ok (.goto (-12), 3) := by decide +kernel
theorem dJ7_fill_53178_20 : decode cJ7_fill_53178 20 = .ok (.return_, 1) := by decide +kernel
