theorem dX0_init_0 : decode cX0_init 0 = .ok (.aload_n 0, 1) := by decide +kernel
theorem dX0_init_1 : decode cX0_init 1 = .ok (.invokespecial 3, 3) := by decide +kernel
theorem dX0_init_4 : decode cX0_init 4 = .ok (.aload_n 0, 1) := by decide +kernel
theorem dX0_init_5 : decode cX0_init 5 = .ok (.sipush 1000, 3) := by decide +kernel
theorem dX0_init_8 : decode cX0_init 8 = .ok (.newarray .byte, 2) := by decide +kernel
theorem dX0_init_10 : decode cX0_init 10 = .ok (.putfield 9, 3) := by decide +kernel
theorem dX0_init_13 : decode cX0_init 13 = .ok (.aload_n 0, 1) := by decide +kernel
theorem dX0_init_14 : decode cX0_init 14 = .ok (.iconst 0, 1) := by decide +kernel
theorem dX0_init_15 : decode cX0_init 15 = .ok (.putfield 15, 3) := by decide +kernel
theorem dX0_init_18 : decode cX0_init 18 = .ok (.aload_n 0, 1) := by decide +kernel
theorem dX0_init_19 : decode cX0_init 19 = .ok (.iconst 0, 1) := by decide +kernel
theorem dX0_init_20 : decode cX0_init 20 = .ok (.putfield 19, 3) := by decide +kernel
theorem dX0_init_23 : decode cX0_init 23 = .ok (.return_, 1) := by decide +kernel
theorem dX0_size_0 : decode cX0_size 0 = .ok (.aload_n 0, 1) := by decide +kernel
theorem dX0_size_1 : decode cX0_size 1 = .ok (.getfield 15, 3) := by decide +kernel
theorem dX0_size_4 : decode cX0_size 4 = .ok (.ireturn, 1) := by decide +kernel
theorem dX0_isTooLong_0 : decode cX0_isTooLong 0 = .ok (.aload_n 0, 1) := by decide +kernel
theorem dX0_isTooLong_1 : decode cX0_isTooLong 1 = .ok (.getfield 19, 3) := by decide +kernel
theorem dX0_isTooLong_4 : decode cX0_isTooLong 4 = .ok (.ireturn, 1) := by decide +kernel
theorem dX0_clear_0 : decode cX0_clear 0 = .ok (.aload_n 0, 1) := by decide +kernel
theorem dX0_clear_1 : decode cX0_clear 1 = .ok (.iconst 0, 1) := by decide +kernel
theorem dX0_clear_2 : decode cX0_clear 2 = .ok (.putfield 15, 3) := by decide +kernel
theorem dX0_clear_5 : decode cX0_clear 5 = .ok (.aload_n 0, 1) := by decide +kernel
theorem dX0_clear_6 : decode cX0_clear 6 = .ok (.iconst 0, 1) := by decide +kernel
theorem dX0_clear_7 : decode cX0_clear 7 = .ok (.putfield 19, 3) := by decide +kernel
theorem dX0_clear_10 : decode cX0_clear 10 = .ok (.return_, 1) := by decide +kernel
theorem dX0_at_0 : decode cX0_at 0 = .ok (.iload_n 1, 1) := by decide +kernel
theorem dX0_at_1 : decode cX0_at 1 = .ok (.ifCond .lt 24, 3) := by decide +kernel
theorem dX0_at_4 : decode cX0_at 4 = .ok (.iload_n 1, 1) := by decide +kernel
theorem dX0_at_5 : decode cX0_at 5 = .ok (.aload_n 0, 1) := by decide +kernel
theorem dX0_at_6 : decode cX0_at 6 = .ok (.getfield 15, 3) := by decide +kernel
theorem dX0_at_9 : decode cX0_at 9 = .ok (.if_icmp .ge 16, 3) := by decide +kernel
theorem dX0_at_12 : decode cX0_at 12 = .ok (.aload_n 0, 1) := by decide +kernel
theorem dX0_at_13 : decode cX0_at 13 = .ok (.getfield 9, 3) := by decide +kernel
theorem dX0_at_16 : decode cX0_at 16 = .ok (.iload_n 1, 1) := by decide +kernel
theorem dX0_at_17 : decode cX0_at 17 = .ok (.baload, 1) := by decide +kernel
theorem dX0_at_18 : decode cX0_at 18 = .ok (.sipush 255, 3) := by decide +kernel
theorem dX0_at_21 : decode cX0_at 21 = .ok (.iand, 1) := by decide +kernel
theorem dX0_at_22 : decode cX0_at 22 = .ok (.goto 4, 3) := by decide +kernel
theorem dX0_at_25 : decode cX0_at 25 = .ok (.iconst (-1), 1) := by decide +kernel
theorem dX0_at_26 : decode cX0_at 26 = .ok (.ireturn, 1) := by decide +kernel
theorem dX0_set_0 : decode cX0_set 0 = .ok (.iload_n 1, 1) := by decide +kernel
theorem dX0_set_1 : decode cX0_set 1 = .ok (.ifCond .lt 11, 3) := by decide +kernel
theorem dX0_set_4 : decode cX0_set 4 = .ok (.iload_n 1, 1) := by decide +kernel
theorem dX0_set_5 : decode cX0_set 5 = .ok (.aload_n 0, 1) := by decide +kernel
theorem dX0_set_6 : decode cX0_set 6 = .ok (.getfield 15, 3) := by decide +kernel
theorem dX0_set_9 : decode cX0_set 9 = .ok (.if_icmp .lt 5, 3) := by decide +kernel
theorem dX0_set_12 : decode cX0_set 12 = .ok (.iconst 0, 1) := by decide +kernel
theorem dX0_set_13 : decode cX0_set 13 = .ok (.ireturn, 1) := by decide +kernel
theorem dX0_set_14 : decode cX0_set 14 = .ok (.aload_n 0, 1) := by decide +kernel
theorem dX0_set_15 : decode cX0_set 15 = .ok (.getfield 9, 3) := by decide +kernel
theorem dX0_set_18 : decode cX0_set 18 = .ok (.iload_n 1, 1) := by decide +kernel
theorem dX0_set_19 : decode cX0_set 19 = .ok (.iload_n 2, 1) := by decide +kernel
theorem dX0_set_20 : decode cX0_set 20 = .ok (.i2b, 1) := by decide +kernel
theorem dX0_set_21 : decode cX0_set 21 = .ok (.bastore, 1) := by decide +kernel
theorem dX0_set_22 : decode cX0_set 22 = .ok (.iconst 1, 1) := by decide +kernel
theorem dX0_set_23 : decode cX0_set 23 = .ok (.ireturn, 1) := by decide +kernel
theorem dX0_cutTo_0 : decode cX0_cutTo 0 = .ok (.iload_n 1, 1) := by decide +kernel
theorem dX0_cutTo_1 : decode cX0_cutTo 1 = .ok (.ifCond .lt 11, 3) := by decide +kernel
theorem dX0_cutTo_4 : decode cX0_cutTo 4 = .ok (.iload_n 1, 1) := by decide +kernel
theorem dX0_cutTo_5 : decode cX0_cutTo 5 = .ok (.aload_n 0, 1) := by decide +kernel
theorem dX0_cutTo_6 : decode cX0_cutTo 6 = .ok (.getfield 15, 3) := by decide +kernel
theorem dX0_cutTo_9 : decode cX0_cutTo 9 = .ok (.if_icmp .le 5, 3) := by decide +kernel
theorem dX0_cutTo_12 : decode cX0_cutTo 12 = .ok (.iconst 0, 1) := by decide +kernel
theorem dX0_cutTo_13 : decode cX0_cutTo 13 = .ok (.ireturn, 1) := by decide +kernel
theorem dX0_cutTo_14 : decode cX0_cutTo 14 = .ok (.aload_n 0, 1) := by decide +kernel
theorem dX0_cutTo_15 : decode cX0_cutTo 15 = .ok (.iload_n 1, 1) := by decide +kernel
theorem dX0_cutTo_16 : decode cX0_cutTo 16 = .ok (.putfield 15, 3) := by decide +kernel
theorem dX0_cutTo_19 : decode cX0_cutTo 19 = .ok (.iconst 1, 1) := by decide +kernel
theorem dX0_cutTo_20 : decode cX0_cutTo 20 = .ok (.ireturn, 1) := by decide +kernel
theorem dX0_add_0 : decode cX0_add 0 = .ok (.aload_n 0, 1) := by decide +kernel
theorem dX0_add_1 : decode cX0_add 1 = .ok (.getfield 15, 3) := by decide +kernel
theorem dX0_add_4 : decode cX0_add 4 = .ok (.sipush 1000, 3) := by decide +kernel
theorem dX0_add_7 : decode cX0_add 7 = .ok (.if_icmp .lt 9, 3) := by decide +kernel
theorem dX0_add_10 : decode cX0_add 10 = .ok (.aload_n 0, 1) := by decide +kernel
theorem dX0_add_11 : decode cX0_add 11 = .ok (.iconst 1, 1) := by decide +kernel
theorem dX0_add_12 : decode cX0_add 12 = .ok (.putfield 19, 3) := by decide +kernel
theorem dX0_add_15 : decode cX0_add 15 = .ok (.return_, 1) := by decide +kernel
theorem dX0_add_16 : decode cX0_add 16 = .ok (.aload_n 0, 1) := by decide +kernel
theorem dX0_add_17 : decode cX0_add 17 = .ok (.getfield 9, 3) := by decide +kernel
theorem dX0_add_20 : decode cX0_add 20 = .ok (.aload_n 0, 1) := by decide +kernel
theorem dX0_add_21 : decode cX0_add 21 = .ok (.getfield 15, 3) := by decide +kernel
theorem dX0_add_24 : decode cX0_add 24 = .ok (.iload_n 1, 1) := by decide +kernel
theorem dX0_add_25 : decode cX0_add 25 = .ok (.i2b, 1) := by decide +kernel
theorem dX0_add_26 : decode cX0_add 26 = .ok (.bastore, 1) := by decide +kernel
theorem dX0_add_27 : decode cX0_add 27 = .ok (.aload_n 0, 1) := by decide +kernel
theorem dX0_add_28 : decode cX0_add 28 = .ok (.dup, 1) := by decide +kernel
theorem dX0_add_29 : decode cX0_add 29 = .ok (.getfield 15, 3) := by decide +kernel
theorem dX0_add_32 : decode cX0_add 32 = .ok (.iconst 1, 1) := by decide +kernel
theorem dX0_add_33 : decode cX0_add 33 = .ok (.iadd, 1) := by decide +kernel
theorem dX0_add_34 : decode cX0_add 34 = .ok (.putfield 15, 3) := by decide +kernel
theorem dX0_add_37 : decode cX0_add 37 = .ok (.return_, 1) := by decide +kernel
theorem dX0_addTwo_0 : decode cX0_addTwo 0 = .ok (.aload_n 0, 1) := by decide +kernel
theorem dX0_addTwo_1 : decode cX0_addTwo 1 = .ok (.iload_n 1, 1) := by decide +kernel
theorem dX0_addTwo_2 : decode cX0_addTwo 2 = .ok (.bipush 8, 2) := by decide +kernel
theorem dX0_addTwo_4 : decode cX0_addTwo 4 = .ok (.ishr, 1) := by decide +kernel
theorem dX0_addTwo_5 : decode cX0_addTwo 5 = .ok (.invokevirtual 23, 3) := by decide +kernel
theorem dX0_addTwo_8 : decode cX0_addTwo 8 = .ok (.aload_n 0, 1) := by decide +kernel
theorem dX0_addTwo_9 : decode cX0_addTwo 9 = .ok (.iload_n 1, 1) := by decide +kernel
theorem dX0_addTwo_10 : decode cX0_addTwo 10 = .ok (.invokevirtual 23, 3) := by decide +kernel
theorem dX0_addTwo_13 : decode cX0_addTwo 13 = .ok (.return_, 1) := by decide +kernel
theorem dX0_addFour_0 : decode cX0_addFour 0 = .ok (.aload_n 0, 1) := by decide +kernel
theorem dX0_addFour_1 : decode cX0_addFour 1 = .ok (.iload_n 1, 1) := by decide +kernel
theorem dX0_addFour_2 : decode cX0_addFour 2 = .ok (.bipush 24, 2) := by decide +kernel
theorem dX0_addFour_4 : decode cX0_addFour 4 = .ok (.ishr, 1) := by decide +kernel
theorem dX0_addFour_5 : decode cX0_addFour 5 = .ok (.invokevirtual 23, 3) := by decide +kernel
theorem dX0_addFour_8 : decode cX0_addFour 8 = .ok (.aload_n 0, 1) := by decide +kernel
theorem dX0_addFour_9 : decode cX0_addFour 9 = .ok (.iload_n 1, 1) := by decide +kernel
theorem dX0_addFour_10 : decode cX0_addFour 10 = .ok (.bipush 16, 2) := by decide +kernel
theorem dX0_addFour_12 : decode cX0_addFour 12 = .ok (.ishr, 1) := by decide +kernel
theorem dX0_addFour_13 : decode cX0_addFour 13 = .ok (.invokevirtual 23, 3) := by decide +kernel
theorem dX0_addFour_16 : decode cX0_addFour 16 = .ok (.aload_n 0, 1) := by decide +kernel
theorem dX0_addFour_17 : decode cX0_addFour 17 = .ok (.iload_n 1, 1) := by decide +kernel
theorem dX0_addFour_18 : decode cX0_addFour 18 = .ok (.bipush 8, 2) := by decide +kernel
theorem dX0_addFour_20 : decode cX0_addFour 20 = .ok (.ishr, 1) := by decide +kernel
theorem dX0_addFour_21 : decode cX0_addFour 21 = .ok (.invokevirtual 23, 3) := by decide +kernel
theorem dX0_addFour_24 : decode cX0_addFour 24 = .ok (.aload_n 0, 1) := by decide +kernel
theorem dX0_addFour_25 : decode cX0_addFour 25 = .ok (.iload_n 1, 1) := by decide +kernel
theorem dX0_addFour_26 : decode cX0_addFour 26 = .ok (.invokevirtual 23, 3) := by decide +kernel
theorem dX0_addFour_29 : decode cX0_addFour 29 = .ok (.return_, 1) := by decide +kernel
theorem dX0_setTwo_0 : decode cX0_setTwo 0 = .ok (.aload_n 0, 1) := by decide +kernel
theorem dX0_setTwo_1 : decode cX0_setTwo 1 = .ok (.iload_n 1, 1) := by decide +kernel
theorem dX0_setTwo_2 : decode cX0_setTwo 2 = .ok (.iload_n 2, 1) := by decide +kernel
theorem dX0_setTwo_3 : decode cX0_setTwo 3 = .ok (.bipush 8, 2) := by decide +kernel
theorem dX0_setTwo_5 : decode cX0_setTwo 5 = .ok (.ishr, 1) := by decide +kernel
theorem dX0_setTwo_6 : decode cX0_setTwo 6 = .ok (.invokevirtual 27, 3) := by decide +kernel
theorem dX0_setTwo_9 : decode cX0_setTwo 9 = .ok (.pop, 1) := by decide +kernel
theorem dX0_setTwo_10 : decode cX0_setTwo 10 = .ok (.aload_n 0, 1) := by decide +kernel
theorem dX0_setTwo_11 : decode cX0_setTwo 11 = .ok (.iload_n 1, 1) := by decide +kernel
theorem dX0_setTwo_12 : decode cX0_setTwo 12 = .ok (.iconst 1, 1) := by decide +kernel
theorem dX0_setTwo_13 : decode cX0_setTwo 13 = .ok (.iadd, 1) := by decide +kernel
theorem dX0_setTwo_14 : decode cX0_setTwo 14 = .ok (.iload_n 2, 1) := by decide +kernel
theorem dX0_setTwo_15 : decode cX0_setTwo 15 = .ok (.invokevirtual 27, 3) := by decide +kernel
theorem dX0_setTwo_18 : decode cX0_setTwo 18 = .ok (.pop, 1) := by decide +kernel
theorem dX0_setTwo_19 : decode cX0_setTwo 19 = .ok (.return_, 1) := by decide +kernel
theorem dX0_two_0 : decode cX0_two 0 = .ok (.aload_n 0, 1) := by decide +kernel
theorem dX0_two_1 : decode cX0_two 1 = .ok (.iload_n 1, 1) := by decide +kernel
theorem dX0_two_2 : decode cX0_two 2 = .ok (.invokevirtual 31, 3) := by decide +kernel
theorem dX0_two_5 : decode cX0_two 5 = .ok (.bipush 8, 2) := by decide +kernel
theorem dX0_two_7 : decode cX0_two 7 = .ok (.ishl, 1) := by decide +kernel
theorem dX0_two_8 : decode cX0_two 8 = .ok (.aload_n 0, 1) := by decide +kernel
theorem dX0_two_9 : decode cX0_two 9 = .ok (.iload_n 1, 1) := by decide +kernel
theorem dX0_two_10 : decode cX0_two 10 = .ok (.iconst 1, 1) := by decide +kernel
theorem dX0_two_11 : decode cX0_two 11 = .ok (.iadd, 1) := by decide +kernel
theorem dX0_two_12 : decode cX0_two 12 = .ok (.invokevirtual 31, 3) := by decide +kernel
theorem dX0_two_15 : decode cX0_two 15 = .ok (.iadd, 1) := by decide +kernel
theorem dX0_two_16 : decode cX0_two 16 = .ok (.ireturn, 1) := by decide +kernel
theorem dX0_four_0 : decode cX0_four 0 = .ok (.aload_n 0, 1) := by decide +kernel
theorem dX0_four_1 : decode cX0_four 1 = .ok (.iload_n 1, 1) := by decide +kernel
theorem dX0_four_2 : decode cX0_four 2 = .ok (.invokevirtual 35, 3) := by decide +kernel
theorem dX0_four_5 : decode cX0_four 5 = .ok (.bipush 16, 2) := by decide +kernel
theorem dX0_four_7 : decode cX0_four 7 = .ok (.ishl, 1) := by decide +kernel
theorem dX0_four_8 : decode cX0_four 8 = .ok (.aload_n 0, 1) := by decide +kernel
theorem dX0_four_9 : decode cX0_four 9 = .ok (.iload_n 1, 1) := by decide +kernel
theorem dX0_four_10 : decode cX0_four 10 = .ok (.iconst 2, 1) := by decide +kernel
theorem dX0_four_11 : decode cX0_four 11 = .ok (.iadd, 1) := by decide +kernel
theorem dX0_four_12 : decode cX0_four 12 = .ok (.invokevirtual 35, 3) := by decide +kernel
theorem dX0_four_15 : decode cX0_four 15 = .ok (.iadd, 1) := by decide +kernel
theorem dX0_four_16 : decode cX0_four 16 = .ok (.ireturn, 1) := by decide +kernel
theorem dX0_copy_0 : decode cX0_copy 0 = .ok (.aload_n 1, 1) := by decide +kernel
theorem dX0_copy_1 : decode cX0_copy 1 = .ok (.getfield 9, 3) := by decide +kernel
theorem dX0_copy_4 : decode cX0_copy 4 = .ok (.iconst 0, 1) := by decide +kernel
theorem dX0_copy_5 : decode cX0_copy 5 = .ok (.aload_n 0, 1) := by decide +kernel
theorem dX0_copy_6 : decode cX0_copy 6 = .ok (.getfield 9, 3) := by decide +kernel
theorem dX0_copy_9 : decode cX0_copy 9 = .ok (.iconst 0, 1) := by decide +kernel
theorem dX0_copy_10 : decode cX0_copy 10 = .ok (.aload_n 1, 1) := by decide +kernel
theorem dX0_copy_11 : decode cX0_copy 11 = .ok (.getfield 15, 3) := by decide +kernel
theorem dX0_copy_14 : decode cX0_copy 14 = .ok (.invokestatic 38, 3) := by decide +kernel
theorem dX0_copy_17 : decode cX0_copy 17 = .ok (.aload_n 0, 1) := by decide +kernel
theorem dX0_copy_18 : decode cX0_copy 18 = .ok (.aload_n 1, 1) := by decide +kernel
theorem dX0_copy_19 : decode cX0_copy 19 = .ok (.getfield 15, 3) := by decide +kernel
theorem dX0_copy_22 : decode cX0_copy 22 = .ok (.putfield 15, 3) := by decide +kernel
theorem dX0_copy_25 : decode cX0_copy 25 = .ok (.aload_n 0, 1) := by decide +kernel
theorem dX0_copy_26 : decode cX0_copy 26 = .ok (.aload_n 1, 1) := by decide +kernel
theorem dX0_copy_27 : decode cX0_copy 27 = .ok (.getfield 19, 3) := by decide +kernel
theorem dX0_copy_30 : decode cX0_copy 30 = .ok (.putfield 19, 3) := by decide +kernel
theorem dX0_copy_33 : decode cX0_copy 33 = .ok (.return_, 1) := by decide +kernel
theorem dX3_init_0 : decode cX3_init 0 = .ok (.aload_n 0, 1) := by decide +kernel
theorem dX3_init_1 : decode cX3_init 1 = .ok (.invokespecial 3, 3) := by decide +kernel
theorem dX3_init_4 : decode cX3_init 4 = .ok (.aload_n 0, 1) := by decide +kernel
theorem dX3_init_5 : decode cX3_init 5 = .ok (.sipush 300, 3) := by decide +kernel
theorem dX3_init_8 : decode cX3_init 8 = .ok (.newarray .int, 2) := by decide +kernel
theorem dX3_init_10 : decode cX3_init 10 = .ok (.putfield 9, 3) := by decide +kernel
theorem dX3_init_13 : decode cX3_init 13 = .ok (.aload_n 0, 1) := by decide +kernel
theorem dX3_init_14 : decode cX3_init 14 = .ok (.sipush 300, 3) := by decide +kernel
theorem dX3_init_17 : decode cX3_init 17 = .ok (.newarray .long, 2) := by decide +kernel
theorem dX3_init_19 : decode cX3_init 19 = .ok (.putfield 15, 3) := by decide +kernel
theorem dX3_init_22 : decode cX3_init 22 = .ok (.aload_n 0, 1) := by decide +kernel
theorem dX3_init_23 : decode cX3_init 23 = .ok (.sipush 300, 3) := by decide +kernel
theorem dX3_init_26 : decode cX3_init 26 = .ok (.newarray .int, 2) := by decide +kernel
theorem dX3_init_28 : decode cX3_init 28 = .ok (.putfield 19, 3) := by decide +kernel
theorem dX3_init_31 : decode cX3_init 31 = .ok (.aload_n 0, 1) := by decide +kernel
theorem dX3_init_32 : decode cX3_init 32 = .ok (.iconst 1, 1) := by decide +kernel
theorem dX3_init_33 : decode cX3_init 33 = .ok (.putfield 22, 3) := by decide +kernel
theorem dX3_init_36 : decode cX3_init 36 = .ok (.return_, 1) := by decide +kernel
theorem dX3_size_0 : decode cX3_size 0 = .ok (.aload_n 0, 1) := by decide +kernel
theorem dX3_size_1 : decode cX3_size 1 = .ok (.getfield 22, 3) := by decide +kernel
theorem dX3_size_4 : decode cX3_size 4 = .ok (.ireturn, 1) := by decide +kernel
theorem dX3_has_0 : decode cX3_has 0 = .ok (.iload_n 1, 1) := by decide +kernel
theorem dX3_has_1 : decode cX3_has 1 = .ok (.ifCond .lt 15, 3) := by decide +kernel
theorem dX3_has_4 : decode cX3_has 4 = .ok (.iload_n 1, 1) := by decide +kernel
theorem dX3_has_5 : decode cX3_has 5 = .ok (.aload_n 0, 1) := by decide +kernel
theorem dX3_has_6 : decode cX3_has 6 = .ok (.getfield 22, 3) := by decide +kernel
theorem dX3_has_9 : decode cX3_has 9 = .ok (.if_icmp .ge 7, 3) := by decide +kernel
theorem dX3_has_12 : decode cX3_has 12 = .ok (.iconst 1, 1) := by decide +kernel
theorem dX3_has_13 : decode cX3_has 13 = .ok (.goto 4, 3) := by decide +kernel
theorem dX3_has_16 : decode cX3_has 16 = .ok (.iconst 0, 1) := by decide +kernel
theorem dX3_has_17 : decode cX3_has 17 = .ok (.ireturn, 1) := by decide +kernel
theorem dX3_above_0 : decode cX3_above 0 = .ok (.iload_n 1, 1) := by decide +kernel
theorem dX3_above_1 : decode cX3_above 1 = .ok (.ifCond .lt 20, 3) := by decide +kernel
theorem dX3_above_4 : decode cX3_above 4 = .ok (.iload_n 1, 1) := by decide +kernel
theorem dX3_above_5 : decode cX3_above 5 = .ok (.aload_n 0, 1) := by decide +kernel
theorem dX3_above_6 : decode cX3_above 6 = .ok (.getfield 22, 3) := by decide +kernel
theorem dX3_above_9 : decode cX3_above 9 = .ok (.if_icmp .ge 12, 3) := by decide +kernel
theorem dX3_above_12 : decode cX3_above 12 = .ok (.aload_n 0, 1) := by decide +kernel
theorem dX3_above_13 : decode cX3_above 13 = .ok (.getfield 9, 3) := by decide +kernel
theorem dX3_above_16 : decode cX3_above 16 = .ok (.iload_n 1, 1) := by decide +kernel
theorem dX3_above_17 : decode cX3_above 17 = .ok (.iaload, 1) := by decide +kernel
theorem dX3_above_18 : decode cX3_above 18 = .ok (.goto 4, 3) := by decide +kernel
theorem dX3_above_21 : decode cX3_above 21 = .ok (.iconst 0, 1) := by decide +kernel
theorem dX3_above_22 : decode cX3_above 22 = .ok (.ireturn, 1) := by decide +kernel
theorem dX3_labelSize_0 : decode cX3_labelSize 0 = .ok (.iload_n 1, 1) := by decide +kernel
theorem dX3_labelSize_1 : decode cX3_labelSize 1 = .ok (.ifCond .lt 20, 3) := by decide +kernel
theorem dX3_labelSize_4 : decode cX3_labelSize 4 = .ok (.iload_n 1, 1) := by decide +kernel
theorem dX3_labelSize_5 : decode cX3_labelSize 5 = .ok (.aload_n 0, 1) := by decide +kernel
theorem dX3_labelSize_6 : decode cX3_labelSize 6 = .ok (.getfield 22, 3) := by decide +kernel
theorem dX3_labelSize_9 : decode cX3_labelSize 9 = .ok (.if_icmp .ge 12, 3) := by decide +kernel
theorem dX3_labelSize_12 : decode cX3_labelSize 12 = .ok (.aload_n 0, 1) := by decide +kernel
theorem dX3_labelSize_13 : decode cX3_labelSize 13 = .ok (.getfield 19, 3) := by decide +kernel
theorem dX3_labelSize_16 : decode cX3_labelSize 16 = .ok (.iload_n 1, 1) := by decide +kernel
theorem dX3_labelSize_17 : decode cX3_labelSize 17 = .ok (.iaload, 1) := by decide +kernel
theorem dX3_labelSize_18 : decode cX3_labelSize 18 = .ok (.goto 4, 3) := by decide +kernel
theorem dX3_labelSize_21 : decode cX3_labelSize 21 = .ok (.iconst 0, 1) := by decide +kernel
theorem dX3_labelSize_22 : decode cX3_labelSize 22 = .ok (.ireturn, 1) := by decide +kernel
theorem dX3_letter_0 : decode cX3_letter 0 = .ok (.iload_n 1, 1) := by decide +kernel
theorem dX3_letter_1 : decode cX3_letter 1 = .ok (.ifCond .lt 25, 3) := by decide +kernel
theorem dX3_letter_4 : decode cX3_letter 4 = .ok (.iload_n 1, 1) := by decide +kernel
theorem dX3_letter_5 : decode cX3_letter 5 = .ok (.aload_n 0, 1) := by decide +kernel
theorem dX3_letter_6 : decode cX3_letter 6 = .ok (.getfield 22, 3) := by decide +kernel
theorem dX3_letter_9 : decode cX3_letter 9 = .ok (.if_icmp .ge 17, 3) := by decide +kernel
theorem dX3_letter_12 : decode cX3_letter 12 = .ok (.iload_n 2, 1) := by decide +kernel
theorem dX3_letter_13 : decode cX3_letter 13 = .ok (.ifCond .lt 13, 3) := by decide +kernel
theorem dX3_letter_16 : decode cX3_letter 16 = .ok (.iload_n 2, 1) := by decide +kernel
theorem dX3_letter_17 : decode cX3_letter 17 = .ok (.aload_n 0, 1) := by decide +kernel
theorem dX3_letter_18 : decode cX3_letter 18 = .ok (.getfield 19, 3) := by decide +kernel
theorem dX3_letter_21 : decode cX3_letter 21 = .ok (.iload_n 1, 1) := by decide +kernel
theorem dX3_letter_22 : decode cX3_letter 22 = .ok (.iaload, 1) := by decide +kernel
theorem dX3_letter_23 : decode cX3_letter 23 = .ok (.if_icmp .lt 5, 3) := by decide +kernel
theorem dX3_letter_26 : decode cX3_letter 26 = .ok (.iconst (-1), 1) := by decide +kernel
theorem dX3_letter_27 : decode cX3_letter 27 = .ok (.ireturn, 1) := by decide +kernel
theorem dX3_letter_28 : decode cX3_letter 28 = .ok (.aload_n 0, 1) := by decide +kernel
theorem dX3_letter_29 : decode cX3_letter 29 = .ok (.getfield 15, 3) := by decide +kernel
theorem dX3_letter_32 : decode cX3_letter 32 = .ok (.iload_n 1, 1) := by decide +kernel
theorem dX3_letter_33 : decode cX3_letter 33 = .ok (.laload, 1) := by decide +kernel
theorem dX3_letter_34 : decode cX3_letter 34 = .ok (.bipush 6, 2) := by decide +kernel
theorem dX3_letter_36 : decode cX3_letter 36 = .ok (.aload_n 0, 1) := by decide +kernel
theorem dX3_letter_37 : decode cX3_letter 37 = .ok (.getfield 19, 3) := by decide +kernel
theorem dX3_letter_40 : decode cX3_letter 40 = .ok (.iload_n 1, 1) := by decide +kernel
theorem dX3_letter_41 : decode cX3_letter 41 = .ok (.iaload, 1) := by decide +kernel
theorem dX3_letter_42 : decode cX3_letter 42 = .ok (.iconst 1, 1) := by decide +kernel
theorem dX3_letter_43 : decode cX3_letter 43 = .ok (.isub, 1) := by decide +kernel
theorem dX3_letter_44 : decode cX3_letter 44 = .ok (.iload_n 2, 1) := by decide +kernel
theorem dX3_letter_45 : decode cX3_letter 45 = .ok (.isub, 1) := by decide +kernel
theorem dX3_letter_46 : decode cX3_letter 46 = .ok (.imul, 1) := by decide +kernel
theorem dX3_letter_47 : decode cX3_letter 47 = .ok (.lshr, 1) := by decide +kernel
theorem dX3_letter_48 : decode cX3_letter 48 = .ok (.l2i, 1) := by decide +kernel
theorem dX3_letter_49 : decode cX3_letter 49 = .ok (.bipush 63, 2) := by decide +kernel
theorem dX3_letter_51 : decode cX3_letter 51 = .ok (.iand, 1) := by decide +kernel
theorem dX3_letter_52 : decode cX3_letter 52 = .ok (.istore_n 3, 1) := by decide +kernel
theorem dX3_letter_53 : decode cX3_letter 53 = .ok (.iload_n 3, 1) := by decide +kernel
theorem dX3_letter_54 : decode cX3_letter 54 = .ok (.bipush 37, 2) := by decide +kernel
theorem dX3_letter_56 : decode cX3_letter 56 = .ok (.if_icmp .ne 6, 3) := by decide +kernel
theorem dX3_letter_59 : decode cX3_letter 59 = .ok (.bipush 45, 2) := by decide +kernel
theorem dX3_letter_61 : decode cX3_letter 61 = .ok (.ireturn, 1) := by decide +kernel
theorem dX3_letter_62 : decode cX3_letter 62 = .ok (.iload_n 3, 1) := by decide +kernel
theorem dX3_letter_63 : decode cX3_letter 63 = .ok (.bipush 26, 2) := by decide +kernel
theorem dX3_letter_65 : decode cX3_letter 65 = .ok (.if_icmp .le 13, 3) := by decide +kernel
theorem dX3_letter_68 : decode cX3_letter 68 = .ok (.iload_n 3, 1) := by decide +kernel
theorem dX3_letter_69 : decode cX3_letter 69 = .ok (.bipush 27, 2) := by decide +kernel
theorem dX3_letter_71 : decode cX3_letter 71 = .ok (.isub, 1) := by decide +kernel
theorem dX3_letter_72 : decode cX3_letter 72 = .ok (.bipush 48, 2) := by decide +kernel
theorem dX3_letter_74 : decode cX3_letter 74 = .ok (.iadd, 1) := by decide +kernel
theorem dX3_letter_75 : decode cX3_letter 75 = .ok (.goto 9, 3) := by decide +kernel
theorem dX3_letter_78 : decode cX3_letter 78 = .ok (.iload_n 3, 1) := by decide +kernel
theorem dX3_letter_79 : decode cX3_letter 79 = .ok (.iconst 1, 1) := by decide +kernel
theorem dX3_letter_80 : decode cX3_letter 80 = .ok (.isub, 1) := by decide +kernel
theorem dX3_letter_81 : decode cX3_letter 81 = .ok (.bipush 97, 2) := by decide +kernel
theorem dX3_letter_83 : decode cX3_letter 83 = .ok (.iadd, 1) := by decide +kernel
theorem dX3_letter_84 : decode cX3_letter 84 = .ok (.ireturn, 1) := by decide +kernel
theorem dX3_depth_0 : decode cX3_depth 0 = .ok (.iconst 0, 1) := by decide +kernel
theorem dX3_depth_1 : decode cX3_depth 1 = .ok (.istore_n 2, 1) := by decide +kernel
theorem dX3_depth_2 : decode cX3_depth 2 = .ok (.iload_n 1, 1) := by decide +kernel
theorem dX3_depth_3 : decode cX3_depth 3 = .ok (.istore_n 3, 1) := by decide +kernel
theorem dX3_depth_4 : decode cX3_depth 4 = .ok (.iconst 0, 1) := by decide +kernel
theorem dX3_depth_5 : decode cX3_depth 5 = .ok (.istore 4, 2) := by decide +kernel
theorem dX3_depth_7 : decode cX3_depth 7 = .ok (.iload 4, 2) := by decide +kernel
theorem dX3_depth_9 : decode cX3_depth 9 = .ok (.bipush 6, 2) := by decide +kernel
theorem dX3_depth_11 : decode cX3_depth 11 = .ok (.if_icmp .ge 22, 3) := by decide +kernel
theorem dX3_depth_14 : decode cX3_depth 14 = .ok (.iload_n 3, 1) := by decide +kernel
theorem dX3_depth_15 : decode cX3_depth 15 = .ok (.ifCond .eq 18, 3) := by decide +kernel
theorem dX3_depth_18 : decode cX3_depth 18 = .ok (.iinc 2 1, 3) := by decide +kernel
theorem dX3_depth_21 : decode cX3_depth 21 = .ok (.aload_n 0, 1) := by decide +kernel
theorem dX3_depth_22 : decode cX3_depth 22 = .ok (.iload_n 3, 1) := by decide +kernel
theorem dX3_depth_23 : decode cX3_depth 23 = .ok (.invokevirtual 26, 3) := by decide +kernel
theorem dX3_depth_26 : decode cX3_depth 26 = .ok (.istore_n 3, 1) := by decide +kernel
theorem dX3_depth_27 : decode cX3_depth 27 = .ok (.iinc 4 1, 3) := by decide +kernel
theorem dX3_depth_30 : decode cX3_depth 30 = .ok (.goto (-23), 3) := by decide +kernel
theorem dX3_depth_33 : decode cX3_depth 33 = .ok (.iload_n 2, 1) := by decide +kernel
theorem dX3_depth_34 : decode cX3_depth 34 = .ok (.ireturn, 1) := by decide +kernel
theorem dX3_isIn_0 : decode cX3_isIn 0 = .ok (.iload_n 1, 1) := by decide +kernel
theorem dX3_isIn_1 : decode cX3_isIn 1 = .ok (.istore_n 3, 1) := by decide +kernel
theorem dX3_isIn_2 : decode cX3_isIn 2 = .ok (.iconst 0, 1) := by decide +kernel
theorem dX3_isIn_3 : decode cX3_isIn 3 = .ok (.istore 4, 2) := by decide +kernel
theorem dX3_isIn_5 : decode cX3_isIn 5 = .ok (.iload 4, 2) := by decide +kernel
theorem dX3_isIn_7 : decode cX3_isIn 7 = .ok (.bipush 6, 2) := by decide +kernel
theorem dX3_isIn_9 : decode cX3_isIn 9 = .ok (.if_icmp .ge 20, 3) := by decide +kernel
theorem dX3_isIn_12 : decode cX3_isIn 12 = .ok (.iload_n 3, 1) := by decide +kernel
theorem dX3_isIn_13 : decode cX3_isIn 13 = .ok (.iload_n 2, 1) := by decide +kernel
theorem dX3_isIn_14 : decode cX3_isIn 14 = .ok (.if_icmp .eq 15, 3) := by decide +kernel
theorem dX3_isIn_17 : decode cX3_isIn 17 = .ok (.aload_n 0, 1) := by decide +kernel
theorem dX3_isIn_18 : decode cX3_isIn 18 = .ok (.iload_n 3, 1) := by decide +kernel
theorem dX3_isIn_19 : decode cX3_isIn 19 = .ok (.invokevirtual 26, 3) := by decide +kernel
theorem dX3_isIn_22 : decode cX3_isIn 22 = .ok (.istore_n 3, 1) := by decide +kernel
theorem dX3_isIn_23 : decode cX3_isIn 23 = .ok (.iinc 4 1, 3) := by decide +kernel
theorem dX3_isIn_26 : decode cX3_isIn 26 = .ok (.goto (-21), 3) := by decide +kernel
theorem dX3_isIn_29 : decode cX3_isIn 29 = .ok (.iload_n 3, 1) := by decide +kernel
theorem dX3_isIn_30 : decode cX3_isIn 30 = .ok (.iload_n 2, 1) := by decide +kernel
theorem dX3_isIn_31 : decode cX3_isIn 31 = .ok (.if_icmp .ne 7, 3) := by decide +kernel
theorem dX3_isIn_34 : decode cX3_isIn 34 = .ok (.iconst 1, 1) := by decide +kernel
theorem dX3_isIn_35 : decode cX3_isIn 35 = .ok (.goto 4, 3) := by decide +kernel
theorem dX3_isIn_38 : decode cX3_isIn 38 = .ok (.iconst 0, 1) := by decide +kernel
theorem dX3_isIn_39 : decode cX3_isIn 39 = .ok (.ireturn, 1) := by decide +kernel
theorem dX3_textSize_0 : decode cX3_textSize 0 = .ok (.iload_n 1, 1) := by decide +kernel
theorem dX3_textSize_1 : decode cX3_textSize 1 = .ok (.ifCond .ne 5, 3) := by decide +kernel
theorem dX3_textSize_4 : decode cX3_textSize 4 = .ok (.iconst 1, 1) := by decide +kernel
theorem dX3_textSize_5 : decode cX3_textSize 5 = .ok (.ireturn, 1) := by decide +kernel
theorem dX3_textSize_6 : decode cX3_textSize 6 = .ok (.iconst (-1), 1) := by decide +kernel
theorem dX3_textSize_7 : decode cX3_textSize 7 = .ok (.istore_n 2, 1) := by decide +kernel
theorem dX3_textSize_8 : decode cX3_textSize 8 = .ok (.iload_n 1, 1) := by decide +kernel
theorem dX3_textSize_9 : decode cX3_textSize 9 = .ok (.istore_n 3, 1) := by decide +kernel
theorem dX3_textSize_10 : decode cX3_textSize 10 = .ok (.iconst 0, 1) := by decide +kernel
theorem dX3_textSize_11 : decode cX3_textSize 11 = .ok (.istore 4, 2) := by decide +kernel
theorem dX3_textSize_13 : decode cX3_textSize 13 = .ok (.iload 4, 2) := by decide +kernel
theorem dX3_textSize_15 : decode cX3_textSize 15 = .ok (.bipush 6, 2) := by decide +kernel
theorem dX3_textSize_17 : decode cX3_textSize 17 = .ok (.if_icmp .ge 29, 3) := by decide +kernel
theorem dX3_textSize_20 : decode cX3_textSize 20 = .ok (.iload_n 3, 1) := by decide +kernel
theorem dX3_textSize_21 : decode cX3_textSize 21 = .ok (.ifCond .eq 25, 3) := by decide +kernel
theorem dX3_textSize_24 : decode cX3_textSize 24 = .ok (.iload_n 2, 1) := by decide +kernel
theorem dX3_textSize_25 : decode cX3_textSize 25 = .ok (.aload_n 0, 1) := by decide +kernel
theorem dX3_textSize_26 : decode cX3_textSize 26 = .ok (.iload_n 3, 1) := by decide +kernel
theorem dX3_textSize_27 : decode cX3_textSize 27 = .ok (.invokevirtual 30, 3) := by decide +kernel
theorem dX3_textSize_30 : decode cX3_textSize 30 = .ok (.iconst 1, 1) := by decide +kernel
theorem dX3_textSize_31 : decode cX3_textSize 31 = .ok (.iadd, 1) := by decide +kernel
theorem dX3_textSize_32 : decode cX3_textSize 32 = .ok (.iadd, 1) := by decide +kernel
theorem dX3_textSize_33 : decode cX3_textSize 33 = .ok (.istore_n 2, 1) := by decide +kernel
theorem dX3_textSize_34 : decode cX3_textSize 34 = .ok (.aload_n 0, 1) := by decide +kernel
theorem dX3_textSize_35 : decode cX3_textSize 35 = .ok (.iload_n 3, 1) := by decide +kernel
theorem dX3_textSize_36 : decode cX3_textSize 36 = .ok (.invokevirtual 26, 3) := by decide +kernel
theorem dX3_textSize_39 : decode cX3_textSize 39 = .ok (.istore_n 3, 1) := by decide +kernel
theorem dX3_textSize_40 : decode cX3_textSize 40 = .ok (.iinc 4 1, 3) := by decide +kernel
theorem dX3_textSize_43 : decode cX3_textSize 43 = .ok (.goto (-30), 3) := by decide +kernel
theorem dX3_textSize_46 : decode cX3_textSize 46 = .ok (.iload_n 2, 1) := by decide +kernel
theorem dX3_textSize_47 : decode cX3_textSize 47 = .ok (.ireturn, 1) := by decide +kernel
theorem dX3_textByte_0 : decode cX3_textByte 0 = .ok (.iload_n 2, 1) := by decide +kernel
theorem dX3_textByte_1 : decode cX3_textByte 1 = .ok (.ifCond .lt 12, 3) := by decide +kernel
theorem dX3_textByte_4 : decode cX3_textByte 4 = .ok (.iload_n 2, 1) := by decide +kernel
theorem dX3_textByte_5 : decode cX3_textByte 5 = .ok (.aload_n 0, 1) := by decide +kernel
theorem dX3_textByte_6 : decode cX3_textByte 6 = .ok (.iload_n 1, 1) := by decide +kernel
theorem dX3_textByte_7 : decode cX3_textByte 7 = .ok (.invokevirtual 33, 3) := by decide +kernel
theorem dX3_textByte_10 : decode cX3_textByte 10 = .ok (.if_icmp .lt 5, 3) := by decide +kernel
theorem dX3_textByte_13 : decode cX3_textByte 13 = .ok (.iconst (-1), 1) := by decide +kernel
theorem dX3_textByte_14 : decode cX3_textByte 14 = .ok (.ireturn, 1) := by decide +kernel
theorem dX3_textByte_15 : decode cX3_textByte 15 = .ok (.iload_n 1, 1) := by decide +kernel
theorem dX3_textByte_16 : decode cX3_textByte 16 = .ok (.istore_n 3, 1) := by decide +kernel
theorem dX3_textByte_17 : decode cX3_textByte 17 = .ok (.iload_n 2, 1) := by decide +kernel
theorem dX3_textByte_18 : decode cX3_textByte 18 = .ok (.istore 4, 2) := by decide +kernel
theorem dX3_textByte_20 : decode cX3_textByte 20 = .ok (.iconst 0, 1) := by decide +kernel
theorem dX3_textByte_21 : decode cX3_textByte 21 = .ok (.istore 5, 2) := by decide +kernel
theorem dX3_textByte_23 : decode cX3_textByte 23 = .ok (.iload 5, 2) := by decide +kernel
theorem dX3_textByte_25 : decode cX3_textByte 25 = .ok (.bipush 6, 2) := by decide +kernel
theorem dX3_textByte_27 : decode cX3_textByte 27 = .ok (.if_icmp .ge 37, 3) := by decide +kernel
theorem dX3_textByte_30 : decode cX3_textByte 30 = .ok (.iload 4, 2) := by decide +kernel
theorem dX3_textByte_32 : decode cX3_textByte 32 = .ok (.aload_n 0, 1) := by decide +kernel
theorem dX3_textByte_33 : decode cX3_textByte 33 = .ok (.iload_n 3, 1) := by decide +kernel
theorem dX3_textByte_34 : decode cX3_textByte 34 = .ok (.invokevirtual 30, 3) := by decide +kernel
theorem dX3_textByte_37 : decode cX3_textByte 37 = .ok (.if_icmp .le 27, 3) := by decide +kernel
theorem dX3_textByte_40 : decode cX3_textByte 40 = .ok (.iload 4, 2) := by decide +kernel
theorem dX3_textByte_42 : decode cX3_textByte 42 = .ok (.aload_n 0, 1) := by decide +kernel
theorem dX3_textByte_43 : decode cX3_textByte 43 = .ok (.iload_n 3, 1) := by decide +kernel
theorem dX3_textByte_44 : decode cX3_textByte 44 = .ok (.invokevirtual 30, 3) := by decide +kernel
theorem dX3_textByte_47 : decode cX3_textByte 47 = .ok (.iconst 1, 1) := by decide +kernel
theorem dX3_textByte_48 : decode cX3_textByte 48 = .ok (.iadd, 1) := by decide +kernel
theorem dX3_textByte_49 : decode cX3_textByte 49 = .ok (.isub, 1) := by decide +kernel
theorem dX3_textByte_50 : decode cX3_textByte 50 = .ok (.istore 4, 2) := by decide +kernel
theorem dX3_textByte_52 : decode cX3_textByte 52 = .ok (.aload_n 0, 1) := by decide +kernel
theorem dX3_textByte_53 : decode cX3_textByte 53 = .ok (.iload_n 3, 1) := by decide +kernel
theorem dX3_textByte_54 : decode cX3_textByte 54 = .ok (.invokevirtual 26, 3) := by decide +kernel
theorem dX3_textByte_57 : decode cX3_textByte 57 = .ok (.istore_n 3, 1) := by decide +kernel
theorem dX3_textByte_58 : decode cX3_textByte 58 = .ok (.iinc 5 1, 3) := by decide +kernel
theorem dX3_textByte_61 : decode cX3_textByte 61 = .ok (.goto (-38), 3) := by decide +kernel
theorem dX3_textByte_64 : decode cX3_textByte 64 = .ok (.iload 4, 2) := by decide +kernel
theorem dX3_textByte_66 : decode cX3_textByte 66 = .ok (.aload_n 0, 1) := by decide +kernel
theorem dX3_textByte_67 : decode cX3_textByte 67 = .ok (.iload_n 3, 1) := by decide +kernel
theorem dX3_textByte_68 : decode cX3_textByte 68 = .ok (.invokevirtual 30, 3) := by decide +kernel
theorem dX3_textByte_71 : decode cX3_textByte 71 = .ok (.if_icmp .ne 8, 3) := by decide +kernel
theorem dX3_textByte_74 : decode cX3_textByte 74 = .ok (.bipush 46, 2) := by decide +kernel
theorem dX3_textByte_76 : decode cX3_textByte 76 = .ok (.goto 10, 3) := by decide +kernel
theorem dX3_textByte_79 : decode cX3_textByte 79 = .ok (.aload_n 0, 1) := by decide +kernel
theorem dX3_textByte_80 : decode cX3_textByte 80 = .ok (.iload_n 3, 1) := by decide +kernel
theorem dX3_textByte_81 : decode cX3_textByte 81 = .ok (.iload 4, 2) := by decide +kernel
theorem dX3_textByte_83 : decode cX3_textByte 83 = .ok (.invokevirtual 36, 3) := by decide +kernel
theorem dX3_textByte_86 : decode cX3_textByte 86 = .ok (.ireturn, 1) := by decide +kernel
theorem dX3_missing_0 : decode cX3_missing 0 = .ok (.iconst 0, 1) := by decide +kernel
theorem dX3_missing_1 : decode cX3_missing 1 = .ok (.istore_n 2, 1) := by decide +kernel
theorem dX3_missing_2 : decode cX3_missing 2 = .ok (.aload_n 1, 1) := by decide +kernel
theorem dX3_missing_3 : decode cX3_missing 3 = .ok (.invokevirtual 40, 3) := by decide +kernel
theorem dX3_missing_6 : decode cX3_missing 6 = .ok (.iconst 1, 1) := by decide +kernel
theorem dX3_missing_7 : decode cX3_missing 7 = .ok (.isub, 1) := by decide +kernel
theorem dX3_missing_8 : decode cX3_missing 8 = .ok (.istore_n 3, 1) := by decide +kernel
theorem dX3_missing_9 : decode cX3_missing 9 = .ok (.iload_n 3, 1) := by decide +kernel
theorem dX3_missing_10 : decode cX3_missing 10 = .ok (.ifCond .lt 29, 3) := by decide +kernel
theorem dX3_missing_13 : decode cX3_missing 13 = .ok (.aload_n 0, 1) := by decide +kernel
theorem dX3_missing_14 : decode cX3_missing 14 = .ok (.iload_n 2, 1) := by decide +kernel
theorem dX3_missing_15 : decode cX3_missing 15 = .ok (.aload_n 1, 1) := by decide +kernel
theorem dX3_missing_16 : decode cX3_missing 16 = .ok (.iload_n 3, 1) := by decide +kernel
theorem dX3_missing_17 : decode cX3_missing 17 = .ok (.invokevirtual 46, 3) := by decide +kernel
theorem dX3_missing_20 : decode cX3_missing 20 = .ok (.invokevirtual 50, 3) := by decide +kernel
theorem dX3_missing_23 : decode cX3_missing 23 = .ok (.istore_n 2, 1) := by decide +kernel
theorem dX3_missing_24 : decode cX3_missing 24 = .ok (.iload_n 2, 1) := by decide +kernel
theorem dX3_missing_25 : decode cX3_missing 25 = .ok (.iconst (-1), 1) := by decide +kernel
theorem dX3_missing_26 : decode cX3_missing 26 = .ok (.if_icmp .ne 7, 3) := by decide +kernel
theorem dX3_missing_29 : decode cX3_missing 29 = .ok (.iload_n 3, 1) := by decide +kernel
theorem dX3_missing_30 : decode cX3_missing 30 = .ok (.iconst 1, 1) := by decide +kernel
theorem dX3_missing_31 : decode cX3_missing 31 = .ok (.iadd, 1) := by decide +kernel
theorem dX3_missing_32 : decode cX3_missing 32 = .ok (.ireturn, 1) := by decide +kernel
theorem dX3_missing_33 : decode cX3_missing 33 = .ok (.iinc 3 (-1), 3) := by decide +kernel
theorem dX3_missing_36 : decode cX3_missing 36 = .ok (.goto (-27), 3) := by decide +kernel
theorem dX3_missing_39 : decode cX3_missing 39 = .ok (.iconst 0, 1) := by decide +kernel
theorem dX3_missing_40 : decode cX3_missing 40 = .ok (.ireturn, 1) := by decide +kernel
theorem dX3_made_0 : decode cX3_made 0 = .ok (.iconst 0, 1) := by decide +kernel
theorem dX3_made_1 : decode cX3_made 1 = .ok (.istore_n 2, 1) := by decide +kernel
theorem dX3_made_2 : decode cX3_made 2 = .ok (.aload_n 1, 1) := by decide +kernel
theorem dX3_made_3 : decode cX3_made 3 = .ok (.invokevirtual 40, 3) := by decide +kernel
theorem dX3_made_6 : decode cX3_made 6 = .ok (.iconst 1, 1) := by decide +kernel
theorem dX3_made_7 : decode cX3_made 7 = .ok (.isub, 1) := by decide +kernel
theorem dX3_made_8 : decode cX3_made 8 = .ok (.istore_n 3, 1) := by decide +kernel
theorem dX3_made_9 : decode cX3_made 9 = .ok (.iload_n 3, 1) := by decide +kernel
theorem dX3_made_10 : decode cX3_made 10 = .ok (.ifCond .lt 55, 3) := by decide +kernel
theorem dX3_made_13 : decode cX3_made 13 = .ok (.aload_n 0, 1) := by decide +kernel
theorem dX3_made_14 : decode cX3_made 14 = .ok (.iload_n 2, 1) := by decide +kernel
theorem dX3_made_15 : decode cX3_made 15 = .ok (.aload_n 1, 1) := by decide +kernel
theorem dX3_made_16 : decode cX3_made 16 = .ok (.iload_n 3, 1) := by decide +kernel
theorem dX3_made_17 : decode cX3_made 17 = .ok (.invokevirtual 46, 3) := by decide +kernel
theorem dX3_made_20 : decode cX3_made 20 = .ok (.invokevirtual 50, 3) := by decide +kernel
theorem dX3_made_23 : decode cX3_made 23 = .ok (.istore 4, 2) := by decide +kernel
theorem dX3_made_25 : decode cX3_made 25 = .ok (.iload 4, 2) := by decide +kernel
theorem dX3_made_27 : decode cX3_made 27 = .ok (.iconst (-1), 1) := by decide +kernel
theorem dX3_made_28 : decode cX3_made 28 = .ok (.if_icmp .ne 20, 3) := by decide +kernel
theorem dX3_made_31 : decode cX3_made 31 = .ok (.aload_n 0, 1) := by decide +kernel
theorem dX3_made_32 : decode cX3_made 32 = .ok (.iload_n 2, 1) := by decide +kernel
theorem dX3_made_33 : decode cX3_made 33 = .ok (.aload_n 1, 1) := by decide +kernel
theorem dX3_made_34 : decode cX3_made 34 = .ok (.iload_n 3, 1) := by decide +kernel
theorem dX3_made_35 : decode cX3_made 35 = .ok (.invokevirtual 46, 3) := by decide +kernel
theorem dX3_made_38 : decode cX3_made 38 = .ok (.aload_n 1, 1) := by decide +kernel
theorem dX3_made_39 : decode cX3_made 39 = .ok (.iload_n 3, 1) := by decide +kernel
theorem dX3_made_40 : decode cX3_made 40 = .ok (.invokevirtual 54, 3) := by decide +kernel
theorem dX3_made_43 : decode cX3_made 43 = .ok (.invokevirtual 57, 3) := by decide +kernel
theorem dX3_made_46 : decode cX3_made 46 = .ok (.istore 4, 2) := by decide +kernel
theorem dX3_made_48 : decode cX3_made 48 = .ok (.iload 4, 2) := by decide +kernel
theorem dX3_made_50 : decode cX3_made 50 = .ok (.iconst (-1), 1) := by decide +kernel
theorem dX3_made_51 : decode cX3_made 51 = .ok (.if_icmp .ne 5, 3) := by decide +kernel
theorem dX3_made_54 : decode cX3_made 54 = .ok (.iconst (-1), 1) := by decide +kernel
theorem dX3_made_55 : decode cX3_made 55 = .ok (.ireturn, 1) := by decide +kernel
theorem dX3_made_56 : decode cX3_made 56 = .ok (.iload 4, 2) := by decide +kernel
theorem dX3_made_58 : decode cX3_made 58 = .ok (.istore_n 2, 1) := by decide +kernel
theorem dX3_made_59 : decode cX3_made 59 = .ok (.iinc 3 (-1), 3) := by decide +kernel
theorem dX3_made_62 : decode cX3_made 62 = .ok (.goto (-53), 3) := by decide +kernel
theorem dX3_made_65 : decode cX3_made 65 = .ok (.iload_n 2, 1) := by decide +kernel
theorem dX3_made_66 : decode cX3_made 66 = .ok (.ireturn, 1) := by decide +kernel
theorem dX3_child_0 : decode cX3_child 0 = .ok (.iconst 1, 1) := by decide +kernel
theorem dX3_child_1 : decode cX3_child 1 = .ok (.istore 4, 2) := by decide +kernel
theorem dX3_child_3 : decode cX3_child 3 = .ok (.iload 4, 2) := by decide +kernel
theorem dX3_child_5 : decode cX3_child 5 = .ok (.aload_n 0, 1) := by decide +kernel
theorem dX3_child_6 : decode cX3_child 6 = .ok (.getfield 22, 3) := by decide +kernel
theorem dX3_child_9 : decode cX3_child 9 = .ok (.if_icmp .ge 35, 3) := by decide +kernel
theorem dX3_child_12 : decode cX3_child 12 = .ok (.aload_n 0, 1) := by decide +kernel
theorem dX3_child_13 : decode cX3_child 13 = .ok (.getfield 9, 3) := by decide +kernel
theorem dX3_child_16 : decode cX3_child 16 = .ok (.iload 4, 2) := by decide +kernel
theorem dX3_child_18 : decode cX3_child 18 = .ok (.iaload, 1) := by decide +kernel
theorem dX3_child_19 : decode cX3_child 19 = .ok (.iload_n 1, 1) := by decide +kernel
theorem dX3_child_20 : decode cX3_child 20 = .ok (.if_icmp .ne 18, 3) := by decide +kernel
theorem dX3_child_23 : decode cX3_child 23 = .ok (.aload_n 0, 1) := by decide +kernel
theorem dX3_child_24 : decode cX3_child 24 = .ok (.getfield 15, 3) := by decide +kernel
theorem dX3_child_27 : decode cX3_child 27 = .ok (.iload 4, 2) := by decide +kernel
theorem dX3_child_29 : decode cX3_child 29 = .ok (.laload, 1) := by decide +kernel
theorem dX3_child_30 : decode cX3_child 30 = .ok (.lload_n 2, 1) := by decide +kernel
theorem dX3_child_31 : decode cX3_child 31 = .ok (.lcmp, 1) := by decide +kernel
theorem dX3_child_32 : decode cX3_child 32 = .ok (.ifCond .ne 6, 3) := by decide +kernel
theorem dX3_child_35 : decode cX3_child 35 = .ok (.iload 4, 2) := by decide +kernel
theorem dX3_child_37 : decode cX3_child 37 = .ok (.ireturn, 1) := by decide +kernel
theorem dX3_child_38 : decode cX3_child 38 = .ok (.iinc 4 1, 3) := by decide +kernel
theorem dX3_child_41 : decode cX3_child 41 = .ok (.goto (-38), 3) := by decide +kernel
theorem dX3_child_44 : decode cX3_child 44 = .ok (.iconst (-1), 1) := by decide +kernel
theorem dX3_child_45 : decode cX3_child 45 = .ok (.ireturn, 1) := by decide +kernel
theorem dX3_add_0 : decode cX3_add 0 = .ok (.aload_n 0, 1) := by decide +kernel
theorem dX3_add_1 : decode cX3_add 1 = .ok (.getfield 22, 3) := by decide +kernel
theorem dX3_add_4 : decode cX3_add 4 = .ok (.sipush 300, 3) := by decide +kernel
theorem dX3_add_7 : decode cX3_add 7 = .ok (.if_icmp .lt 5, 3) := by decide +kernel
theorem dX3_add_10 : decode cX3_add 10 = .ok (.iconst (-1), 1) := by decide +kernel
theorem dX3_add_11 : decode cX3_add 11 = .ok (.ireturn, 1) := by decide +kernel
theorem dX3_add_12 : decode cX3_add 12 = .ok (.aload_n 0, 1) := by decide +kernel
theorem dX3_add_13 : decode cX3_add 13 = .ok (.getfield 9, 3) := by decide +kernel
theorem dX3_add_16 : decode cX3_add 16 = .ok (.aload_n 0, 1) := by decide +kernel
theorem dX3_add_17 : decode cX3_add 17 = .ok (.getfield 22, 3) := by decide +kernel
theorem dX3_add_20 : decode cX3_add 20 = .ok (.iload_n 1, 1) := by decide +kernel
theorem dX3_add_21 : decode cX3_add 21 = .ok (.iastore, 1) := by decide +kernel
theorem dX3_add_22 : decode cX3_add 22 = .ok (.aload_n 0, 1) := by decide +kernel
theorem dX3_add_23 : decode cX3_add 23 = .ok (.getfield 15, 3) := by decide +kernel
theorem dX3_add_26 : decode cX3_add 26 = .ok (.aload_n 0, 1) := by decide +kernel
theorem dX3_add_27 : decode cX3_add 27 = .ok (.getfield 22, 3) := by decide +kernel
theorem dX3_add_30 : decode cX3_add 30 = .ok (.lload_n 2, 1) := by decide +kernel
theorem dX3_add_31 : decode cX3_add 31 = .ok (.lastore, 1) := by decide +kernel
theorem dX3_add_32 : decode cX3_add 32 = .ok (.aload_n 0, 1) := by decide +kernel
theorem dX3_add_33 : decode cX3_add 33 = .ok (.getfield 19, 3) := by decide +kernel
theorem dX3_add_36 : decode cX3_add 36 = .ok (.aload_n 0, 1) := by decide +kernel
theorem dX3_add_37 : decode cX3_add 37 = .ok (.getfield 22, 3) := by decide +kernel
theorem dX3_add_40 : decode cX3_add 40 = .ok (.iload 4, 2) := by decide +kernel
theorem dX3_add_42 : decode cX3_add 42 = .ok (.iastore, 1) := by decide +kernel
theorem dX3_add_43 : decode cX3_add 43 = .ok (.aload_n 0, 1) := by decide +kernel
theorem dX3_add_44 : decode cX3_add 44 = .ok (.dup, 1) := by decide +kernel
theorem dX3_add_45 : decode cX3_add 45 = .ok (.getfield 22, 3) := by decide +kernel
theorem dX3_add_48 : decode cX3_add 48 = .ok (.iconst 1, 1) := by decide +kernel
theorem dX3_add_49 : decode cX3_add 49 = .ok (.iadd, 1) := by decide +kernel
theorem dX3_add_50 : decode cX3_add 50 = .ok (.putfield 22, 3) := by decide +kernel
theorem dX3_add_53 : decode cX3_add 53 = .ok (.aload_n 0, 1) := by decide +kernel
theorem dX3_add_54 : decode cX3_add 54 = .ok (.getfield 22, 3) := by decide +kernel
theorem dX3_add_57 : decode cX3_add 57 = .ok (.iconst 1, 1) := by decide +kernel
theorem dX3_add_58 : decode cX3_add 58 = .ok (.isub, 1) := by decide +kernel
theorem dX3_add_59 : decode cX3_add 59 = .ok (.ireturn, 1) := by decide +kernel
theorem dX8_init_0 : decode cX8_init 0 = .ok (.aload_n 0, 1) := by decide +kernel
theorem dX8_init_1 : decode cX8_init 1 = .ok (.invokespecial 3, 3) := by decide +kernel
theorem dX8_init_4 : decode cX8_init 4 = .ok (.aload_n 0, 1) := by decide +kernel
theorem dX8_init_5 : decode cX8_init 5 = .ok (.bipush 6, 2) := by decide +kernel
theorem dX8_init_7 : decode cX8_init 7 = .ok (.newarray .long, 2) := by decide +kernel
theorem dX8_init_9 : decode cX8_init 9 = .ok (.putfield 9, 3) := by decide +kernel
theorem dX8_init_12 : decode cX8_init 12 = .ok (.aload_n 0, 1) := by decide +kernel
theorem dX8_init_13 : decode cX8_init 13 = .ok (.bipush 6, 2) := by decide +kernel
theorem dX8_init_15 : decode cX8_init 15 = .ok (.newarray .int, 2) := by decide +kernel
theorem dX8_init_17 : decode cX8_init 17 = .ok (.putfield 15, 3) := by decide +kernel
theorem dX8_init_20 : decode cX8_init 20 = .ok (.aload_n 0, 1) := by decide +kernel
theorem dX8_init_21 : decode cX8_init 21 = .ok (.iconst 0, 1) := by decide +kernel
theorem dX8_init_22 : decode cX8_init 22 = .ok (.putfield 19, 3) := by decide +kernel
theorem dX8_init_25 : decode cX8_init 25 = .ok (.return_, 1) := by decide +kernel
theorem dX8_clear_0 : decode cX8_clear 0 = .ok (.aload_n 0, 1) := by decide +kernel
theorem dX8_clear_1 : decode cX8_clear 1 = .ok (.iconst 0, 1) := by decide +kernel
theorem dX8_clear_2 : decode cX8_clear 2 = .ok (.putfield 19, 3) := by decide +kernel
theorem dX8_clear_5 : decode cX8_clear 5 = .ok (.return_, 1) := by decide +kernel
theorem dX8_size_0 : decode cX8_size 0 = .ok (.aload_n 0, 1) := by decide +kernel
theorem dX8_size_1 : decode cX8_size 1 = .ok (.getfield 19, 3) := by decide +kernel
theorem dX8_size_4 : decode cX8_size 4 = .ok (.ireturn, 1) := by decide +kernel
theorem dX8_labelAt_0 : decode cX8_labelAt 0 = .ok (.iload_n 1, 1) := by decide +kernel
theorem dX8_labelAt_1 : decode cX8_labelAt 1 = .ok (.ifCond .lt 20, 3) := by decide +kernel
theorem dX8_labelAt_4 : decode cX8_labelAt 4 = .ok (.iload_n 1, 1) := by decide +kernel
theorem dX8_labelAt_5 : decode cX8_labelAt 5 = .ok (.aload_n 0, 1) := by decide +kernel
theorem dX8_labelAt_6 : decode cX8_labelAt 6 = .ok (.getfield 19, 3) := by decide +kernel
theorem dX8_labelAt_9 : decode cX8_labelAt 9 = .ok (.if_icmp .ge 12, 3) := by decide +kernel
theorem dX8_labelAt_12 : decode cX8_labelAt 12 = .ok (.aload_n 0, 1) := by decide +kernel
theorem dX8_labelAt_13 : decode cX8_labelAt 13 = .ok (.getfield 9, 3) := by decide +kernel
theorem dX8_labelAt_16 : decode cX8_labelAt 16 = .ok (.iload_n 1, 1) := by decide +kernel
theorem dX8_labelAt_17 : decode cX8_labelAt 17 = .ok (.laload, 1) := by decide +kernel
theorem dX8_labelAt_18 : decode cX8_labelAt 18 = .ok (.goto 4, 3) := by decide +kernel
theorem dX8_labelAt_21 : decode cX8_labelAt 21 = .ok (.lconst 0, 1) := by decide +kernel
theorem dX8_labelAt_22 : decode cX8_labelAt 22 = .ok (.lreturn, 1) := by decide +kernel
theorem dX8_lengthAt_0 : decode cX8_lengthAt 0 = .ok (.iload_n 1, 1) := by decide +kernel
theorem dX8_lengthAt_1 : decode cX8_lengthAt 1 = .ok (.ifCond .lt 20, 3) := by decide +kernel
theorem dX8_lengthAt_4 : decode cX8_lengthAt 4 = .ok (.iload_n 1, 1) := by decide +kernel
theorem dX8_lengthAt_5 : decode cX8_lengthAt 5 = .ok (.aload_n 0, 1) := by decide +kernel
theorem dX8_lengthAt_6 : decode cX8_lengthAt 6 = .ok (.getfield 19, 3) := by decide +kernel
theorem dX8_lengthAt_9 : decode cX8_lengthAt 9 = .ok (.if_icmp .ge 12, 3) := by decide +kernel
theorem dX8_lengthAt_12 : decode cX8_lengthAt 12 = .ok (.aload_n 0, 1) := by decide +kernel
theorem dX8_lengthAt_13 : decode cX8_lengthAt 13 = .ok (.getfield 15, 3) := by decide +kernel
theorem dX8_lengthAt_16 : decode cX8_lengthAt 16 = .ok (.iload_n 1, 1) := by decide +kernel
theorem dX8_lengthAt_17 : decode cX8_lengthAt 17 = .ok (.iaload, 1) := by decide +kernel
theorem dX8_lengthAt_18 : decode cX8_lengthAt 18 = .ok (.goto 4, 3) := by decide +kernel
theorem dX8_lengthAt_21 : decode cX8_lengthAt 21 = .ok (.iconst 0, 1) := by decide +kernel
theorem dX8_lengthAt_22 : decode cX8_lengthAt 22 = .ok (.ireturn, 1) := by decide +kernel
theorem dX8_open_0 : decode cX8_open 0 = .ok (.aload_n 0, 1) := by decide +kernel
theorem dX8_open_1 : decode cX8_open 1 = .ok (.getfield 19, 3) := by decide +kernel
theorem dX8_open_4 : decode cX8_open 4 = .ok (.bipush 6, 2) := by decide +kernel
theorem dX8_open_6 : decode cX8_open 6 = .ok (.if_icmp .lt 5, 3) := by decide +kernel
theorem dX8_open_9 : decode cX8_open 9 = .ok (.iconst 0, 1) := by decide +kernel
theorem dX8_open_10 : decode cX8_open 10 = .ok (.ireturn, 1) := by decide +kernel
theorem dX8_open_11 : decode cX8_open 11 = .ok (.aload_n 0, 1) := by decide +kernel
theorem dX8_open_12 : decode cX8_open 12 = .ok (.getfield 9, 3) := by decide +kernel
theorem dX8_open_15 : decode cX8_open 15 = .ok (.aload_n 0, 1) := by decide +kernel
theorem dX8_open_16 : decode cX8_open 16 = .ok (.getfield 19, 3) := by decide +kernel
theorem dX8_open_19 : decode cX8_open 19 = .ok (.lconst 0, 1) := by decide +kernel
theorem dX8_open_20 : decode cX8_open 20 = .ok (.lastore, 1) := by decide +kernel
theorem dX8_open_21 : decode cX8_open 21 = .ok (.aload_n 0, 1) := by decide +kernel
theorem dX8_open_22 : decode cX8_open 22 = .ok (.getfield 15, 3) := by decide +kernel
theorem dX8_open_25 : decode cX8_open 25 = .ok (.aload_n 0, 1) := by decide +kernel
theorem dX8_open_26 : decode cX8_open 26 = .ok (.getfield 19, 3) := by decide +kernel
theorem dX8_open_29 : decode cX8_open 29 = .ok (.iconst 0, 1) := by decide +kernel
theorem dX8_open_30 : decode cX8_open 30 = .ok (.iastore, 1) := by decide +kernel
theorem dX8_open_31 : decode cX8_open 31 = .ok (.aload_n 0, 1) := by decide +kernel
theorem dX8_open_32 : decode cX8_open 32 = .ok (.dup, 1) := by decide +kernel
theorem dX8_open_33 : decode cX8_open 33 = .ok (.getfield 19, 3) := by decide +kernel
theorem dX8_open_36 : decode cX8_open 36 = .ok (.iconst 1, 1) := by decide +kernel
theorem dX8_open_37 : decode cX8_open 37 = .ok (.iadd, 1) := by decide +kernel
theorem dX8_open_38 : decode cX8_open 38 = .ok (.putfield 19, 3) := by decide +kernel
theorem dX8_open_41 : decode cX8_open 41 = .ok (.iconst 1, 1) := by decide +kernel
theorem dX8_open_42 : decode cX8_open 42 = .ok (.ireturn, 1) := by decide +kernel
theorem dX8_add_0 : decode cX8_add 0 = .ok (.iconst 0, 1) := by decide +kernel
theorem dX8_add_1 : decode cX8_add 1 = .ok (.istore_n 2, 1) := by decide +kernel
theorem dX8_add_2 : decode cX8_add 2 = .ok (.iload_n 1, 1) := by decide +kernel
theorem dX8_add_3 : decode cX8_add 3 = .ok (.bipush 97, 2) := by decide +kernel
theorem dX8_add_5 : decode cX8_add 5 = .ok (.if_icmp .lt 19, 3) := by decide +kernel
theorem dX8_add_8 : decode cX8_add 8 = .ok (.iload_n 1, 1) := by decide +kernel
theorem dX8_add_9 : decode cX8_add 9 = .ok (.bipush 122, 2) := by decide +kernel
theorem dX8_add_11 : decode cX8_add 11 = .ok (.if_icmp .gt 13, 3) := by decide +kernel
theorem dX8_add_14 : decode cX8_add 14 = .ok (.iload_n 1, 1) := by decide +kernel
theorem dX8_add_15 : decode cX8_add 15 = .ok (.bipush 97, 2) := by decide +kernel
theorem dX8_add_17 : decode cX8_add 17 = .ok (.isub, 1) := by decide +kernel
theorem dX8_add_18 : decode cX8_add 18 = .ok (.iconst 1, 1) := by decide +kernel
theorem dX8_add_19 : decode cX8_add 19 = .ok (.iadd, 1) := by decide +kernel
theorem dX8_add_20 : decode cX8_add 20 = .ok (.istore_n 2, 1) := by decide +kernel
theorem dX8_add_21 : decode cX8_add 21 = .ok (.goto 35, 3) := by decide +kernel
theorem dX8_add_24 : decode cX8_add 24 = .ok (.iload_n 1, 1) := by decide +kernel
theorem dX8_add_25 : decode cX8_add 25 = .ok (.bipush 48, 2) := by decide +kernel
theorem dX8_add_27 : decode cX8_add 27 = .ok (.if_icmp .lt 20, 3) := by decide +kernel
theorem dX8_add_30 : decode cX8_add 30 = .ok (.iload_n 1, 1) := by decide +kernel
theorem dX8_add_31 : decode cX8_add 31 = .ok (.bipush 57, 2) := by decide +kernel
theorem dX8_add_33 : decode cX8_add 33 = .ok (.if_icmp .gt 14, 3) := by decide +kernel
theorem dX8_add_36 : decode cX8_add 36 = .ok (.iload_n 1, 1) := by decide +kernel
theorem dX8_add_37 : decode cX8_add 37 = .ok (.bipush 48, 2) := by decide +kernel
theorem dX8_add_39 : decode cX8_add 39 = .ok (.isub, 1) := by decide +kernel
theorem dX8_add_40 : decode cX8_add 40 = .ok (.bipush 27, 2) := by decide +kernel
theorem dX8_add_42 : decode cX8_add 42 = .ok (.iadd, 1) := by decide +kernel
theorem dX8_add_43 : decode cX8_add 43 = .ok (.istore_n 2, 1) := by decide +kernel
theorem dX8_add_44 : decode cX8_add 44 = .ok (.goto 12, 3) := by decide +kernel
theorem dX8_add_47 : decode cX8_add 47 = .ok (.iload_n 1, 1) := by decide +kernel
theorem dX8_add_48 : decode cX8_add 48 = .ok (.bipush 45, 2) := by decide +kernel
theorem dX8_add_50 : decode cX8_add 50 = .ok (.if_icmp .ne 6, 3) := by decide +kernel
theorem dX8_add_53 : decode cX8_add 53 = .ok (.bipush 37, 2) := by decide +kernel
theorem dX8_add_55 : decode cX8_add 55 = .ok (.istore_n 2, 1) := by decide +kernel
theorem dX8_add_56 : decode cX8_add 56 = .ok (.aload_n 0, 1) := by decide +kernel
theorem dX8_add_57 : decode cX8_add 57 = .ok (.getfield 19, 3) := by decide +kernel
theorem dX8_add_60 : decode cX8_add 60 = .ok (.iconst 1, 1) := by decide +kernel
theorem dX8_add_61 : decode cX8_add 61 = .ok (.isub, 1) := by decide +kernel
theorem dX8_add_62 : decode cX8_add 62 = .ok (.istore_n 3, 1) := by decide +kernel
theorem dX8_add_63 : decode cX8_add 63 = .ok (.iload_n 2, 1) := by decide +kernel
theorem dX8_add_64 : decode cX8_add 64 = .ok (.ifCond .eq 18, 3) := by decide +kernel
theorem dX8_add_67 : decode cX8_add 67 = .ok (.iload_n 3, 1) := by decide +kernel
theorem dX8_add_68 : decode cX8_add 68 = .ok (.ifCond .lt 14, 3) := by decide +kernel
theorem dX8_add_71 : decode cX8_add 71 = .ok (.aload_n 0, 1) := by decide +kernel
theorem dX8_add_72 : decode cX8_add 72 = .ok (.getfield 15, 3) := by decide +kernel
theorem dX8_add_75 : decode cX8_add 75 = .ok (.iload_n 3, 1) := by decide +kernel
theorem dX8_add_76 : decode cX8_add 76 = .ok (.iaload, 1) := by decide +kernel
theorem dX8_add_77 : decode cX8_add 77 = .ok (.bipush 10, 2) := by decide +kernel
theorem dX8_add_79 : decode cX8_add 79 = .ok (.if_icmp .lt 5, 3) := by decide +kernel
theorem dX8_add_82 : decode cX8_add 82 = .ok (.iconst 0, 1) := by decide +kernel
theorem dX8_add_83 : decode cX8_add 83 = .ok (.ireturn, 1) := by decide +kernel
theorem dX8_add_84 : decode cX8_add 84 = .ok (.aload_n 0, 1) := by decide +kernel
theorem dX8_add_85 : decode cX8_add 85 = .ok (.getfield 9, 3) := by decide +kernel
theorem dX8_add_88 : decode cX8_add 88 = .ok (.iload_n 3, 1) := by decide +kernel
theorem dX8_add_89 : decode cX8_add 89 = .ok (.aload_n 0, 1) := by decide +kernel
theorem dX8_add_90 : decode cX8_add 90 = .ok (.getfield 9, 3) := by decide +kernel
theorem dX8_add_93 : decode cX8_add 93 = .ok (.iload_n 3, 1) := by decide +kernel
theorem dX8_add_94 : decode cX8_add 94 = .ok (.laload, 1) := by decide +kernel
theorem dX8_add_95 : decode cX8_add 95 = .ok (.bipush 6, 2) := by decide +kernel
theorem dX8_add_97 : decode cX8_add 97 = .ok (.lshl, 1) := by decide +kernel
theorem dX8_add_98 : decode cX8_add 98 = .ok (.iload_n 2, 1) := by decide +kernel
theorem dX8_add_99 : decode cX8_add 99 = .ok (.i2l, 1) := by decide +kernel
theorem dX8_add_100 : decode cX8_add 100 = .ok (.ladd, 1) := by decide +kernel
theorem dX8_add_101 : decode cX8_add 101 = .ok (.lastore, 1) := by decide +kernel
theorem dX8_add_102 : decode cX8_add 102 = .ok (.aload_n 0, 1) := by decide +kernel
theorem dX8_add_103 : decode cX8_add 103 = .ok (.getfield 15, 3) := by decide +kernel
theorem dX8_add_106 : decode cX8_add 106 = .ok (.iload_n 3, 1) := by decide +kernel
theorem dX8_add_107 : decode cX8_add 107 = .ok (.dup2, 1) := by decide +kernel
theorem dX8_add_108 : decode cX8_add 108 = .ok (.iaload, 1) := by decide +kernel
theorem dX8_add_109 : decode cX8_add 109 = .ok (.iconst 1, 1) := by decide +kernel
theorem dX8_add_110 : decode cX8_add 110 = .ok (.iadd, 1) := by decide +kernel
theorem dX8_add_111 : decode cX8_add 111 = .ok (.iastore, 1) := by decide +kernel
theorem dX8_add_112 : decode cX8_add 112 = .ok (.iconst 1, 1) := by decide +kernel
theorem dX8_add_113 : decode cX8_add 113 = .ok (.ireturn, 1) := by decide +kernel
theorem dX8_readText_0 : decode cX8_readText 0 = .ok (.aload_n 0, 1) := by decide +kernel
theorem dX8_readText_1 : decode cX8_readText 1 = .ok (.invokevirtual 23, 3) := by decide +kernel
theorem dX8_readText_4 : decode cX8_readText 4 = .ok (.aload_n 1, 1) := by decide +kernel
theorem dX8_readText_5 : decode cX8_readText 5 = .ok (.invokevirtual 26, 3) := by decide +kernel
theorem dX8_readText_8 : decode cX8_readText 8 = .ok (.iconst 1, 1) := by decide +kernel
theorem dX8_readText_9 : decode cX8_readText 9 = .ok (.if_icmp .ne 15, 3) := by decide +kernel
theorem dX8_readText_12 : decode cX8_readText 12 = .ok (.aload_n 1, 1) := by decide +kernel
theorem dX8_readText_13 : decode cX8_readText 13 = .ok (.iconst 0, 1) := by decide +kernel
theorem dX8_readText_14 : decode cX8_readText 14 = .ok (.invokevirtual 32, 3) := by decide +kernel
theorem dX8_readText_17 : decode cX8_readText 17 = .ok (.bipush 46, 2) := by decide +kernel
theorem dX8_readText_19 : decode cX8_readText 19 = .ok (.if_icmp .ne 5, 3) := by decide +kernel
theorem dX8_readText_22 : decode cX8_readText 22 = .ok (.iconst 1, 1) := by decide +kernel
theorem dX8_readText_23 : decode cX8_readText 23 = .ok (.ireturn, 1) := by decide +kernel
theorem dX8_readText_24 : decode cX8_readText 24 = .ok (.aload_n 0, 1) := by decide +kernel
theorem dX8_readText_25 : decode cX8_readText 25 = .ok (.invokevirtual 36, 3) := by decide +kernel
theorem dX8_readText_28 : decode cX8_readText 28 = .ok (.pop, 1) := by decide +kernel
theorem dX8_readText_29 : decode cX8_readText 29 = .ok (.iconst 0, 1) := by decide +kernel
theorem dX8_readText_30 : decode cX8_readText 30 = .ok (.istore_n 2, 1) := by decide +kernel
theorem dX8_readText_31 : decode cX8_readText 31 = .ok (.iload_n 2, 1) := by decide +kernel
theorem dX8_readText_32 : decode cX8_readText 32 = .ok (.aload_n 1, 1) := by decide +kernel
theorem dX8_readText_33 : decode cX8_readText 33 = .ok (.invokevirtual 26, 3) := by decide +kernel
theorem dX8_readText_36 : decode cX8_readText 36 = .ok (.if_icmp .ge 63, 3) := by decide +kernel
theorem dX8_readText_39 : decode cX8_readText 39 = .ok (.aload_n 1, 1) := by decide +kernel
theorem dX8_readText_40 : decode cX8_readText 40 = .ok (.iload_n 2, 1) := by decide +kernel
theorem dX8_readText_41 : decode cX8_readText 41 = .ok (.invokevirtual 32, 3) := by decide +kernel
theorem dX8_readText_44 : decode cX8_readText 44 = .ok (.istore_n 3, 1) := by decide +kernel
theorem dX8_readText_45 : decode cX8_readText 45 = .ok (.iload_n 3, 1) := by decide +kernel
theorem dX8_readText_46 : decode cX8_readText 46 = .ok (.bipush 46, 2) := by decide +kernel
theorem dX8_readText_48 : decode cX8_readText 48 = .ok (.if_icmp .ne 31, 3) := by decide +kernel
theorem dX8_readText_51 : decode cX8_readText 51 = .ok (.aload_n 0, 1) := by decide +kernel
theorem dX8_readText_52 : decode cX8_readText 52 = .ok (.aload_n 0, 1) := by decide +kernel
theorem dX8_readText_53 : decode cX8_readText 53 = .ok (.getfield 19, 3) := by decide +kernel
theorem dX8_readText_56 : decode cX8_readText 56 = .ok (.iconst 1, 1) := by decide +kernel
theorem dX8_readText_57 : decode cX8_readText 57 = .ok (.isub, 1) := by decide +kernel
theorem dX8_readText_58 : decode cX8_readText 58 = .ok (.invokevirtual 40, 3) := by decide +kernel
theorem dX8_readText_61 : decode cX8_readText 61 = .ok (.ifCond .le 14, 3) := by decide +kernel
theorem dX8_readText_64 : decode cX8_readText 64 = .ok (.aload_n 0, 1) := by decide +kernel
theorem dX8_readText_65 : decode cX8_readText 65 = .ok (.invokevirtual 36, 3) := by decide +kernel
theorem dX8_readText_68 : decode cX8_readText 68 = .ok (.ifCond .eq 7, 3) := by decide +kernel
theorem dX8_readText_71 : decode cX8_readText 71 = .ok (.iconst 1, 1) := by decide +kernel
theorem dX8_readText_72 : decode cX8_readText 72 = .ok (.goto 12, 3) := by decide +kernel
theorem dX8_readText_75 : decode cX8_readText 75 = .ok (.iconst 0, 1) := by decide +kernel
theorem dX8_readText_76 : decode cX8_readText 76 = .ok (.goto 8, 3) := by decide +kernel
theorem dX8_readText_79 : decode cX8_readText 79 = .ok (.aload_n 0, 1) := by decide +kernel
theorem dX8_readText_80 : decode cX8_readText 80 = .ok (.iload_n 3, 1) := by decide +kernel
theorem dX8_readText_81 : decode cX8_readText 81 = .ok (.invokevirtual 43, 3) := by decide +kernel
theorem dX8_readText_84 : decode cX8_readText 84 = .ok (.istore 4, 2) := by decide +kernel
theorem dX8_readText_86 : decode cX8_readText 86 = .ok (.iload 4, 2) := by decide +kernel
theorem dX8_readText_88 : decode cX8_readText 88 = .ok (.ifCond .ne 5, 3) := by decide +kernel
theorem dX8_readText_91 : decode cX8_readText 91 = .ok (.iconst 0, 1) := by decide +kernel
theorem dX8_readText_92 : decode cX8_readText 92 = .ok (.ireturn, 1) := by decide +kernel
theorem dX8_readText_93 : decode cX8_readText 93 = .ok (.iinc 2 1, 3) := by decide +kernel
theorem dX8_readText_96 : decode cX8_readText 96 = .ok (.goto (-65), 3) := by decide +kernel
theorem dX8_readText_99 : decode cX8_readText 99 = .ok (.aload_n 0, 1) := by decide +kernel
theorem dX8_readText_100 : decode cX8_readText 100 = .ok (.aload_n 0, 1) := by decide +kernel
theorem dX8_readText_101 : decode cX8_readText 101 = .ok (.getfield 19, 3) := by decide +kernel
theorem dX8_readText_104 : decode cX8_readText 104 = .ok (.iconst 1, 1) := by decide +kernel
theorem dX8_readText_105 : decode cX8_readText 105 = .ok (.isub, 1) := by decide +kernel
theorem dX8_readText_106 : decode cX8_readText 106 = .ok (.invokevirtual 40, 3) := by decide +kernel
theorem dX8_readText_109 : decode cX8_readText 109 = .ok (.ifCond .le 7, 3) := by decide +kernel
theorem dX8_readText_112 : decode cX8_readText 112 = .ok (.iconst 1, 1) := by decide +kernel
theorem dX8_readText_113 : decode cX8_readText 113 = .ok (.goto 4, 3) := by decide +kernel
theorem dX8_readText_116 : decode cX8_readText 116 = .ok (.iconst 0, 1) := by decide +kernel
theorem dX8_readText_117 : decode cX8_readText 117 = .ok (.ireturn, 1) := by decide +kernel
theorem dJ9_min_f86c9_0 : decode cJ9_min_f86c9 0 = .ok (.lload_n 0, 1) := by decide +kernel
theorem dJ9_min_f86c9_1 : decode cJ9_min_f86c9 1 = .ok (.lload_n 2, 1) := by decide +kernel
theorem dJ9_min_f86c9_2 : decode cJ9_min_f86c9 2 = .ok (.lcmp, 1) := by decide +kernel
theorem dJ9_min_f86c9_3 : decode cJ9_min_f86c9 3 = .ok (.ifCond .gt 7, 3) := by decide +kernel
theorem dJ9_min_f86c9_6 : decode cJ9_min_f86c9 6 = .ok (.lload_n 0, 1) := by decide +kernel
theorem dJ9_min_f86c9_7 : decode cJ9_min_f86c9 7 = .ok (.goto 4, 3) := by decide +kernel
theorem dJ9_min_f86c9_10 : decode cJ9_min_f86c9 10 = .ok (.lload_n 2, 1) := by decide +kernel
theorem dJ9_min_f86c9_11 : decode cJ9_min_f86c9 11 = .ok (.lreturn, 1) := by decide +kernel
theorem dJ7_fill_53178_0 : decode cJ7_fill_53178 0 = .ok (.iconst 0, 1) := by decide +kernel
theorem dJ7_fill_53178_1 : decode cJ7_fill_53178 1 = .ok (.istore_n 2, 1) := by decide +kernel
theorem dJ7_fill_53178_2 : decode cJ7_fill_53178 2 = .ok (.aload_n 0, 1) := by decide +kernel
theorem dJ7_fill_53178_3 : decode cJ7_fill_53178 3 = .ok (.arraylength, 1) := by decide +kernel
theorem dJ7_fill_53178_4 : decode cJ7_fill_53178 4 = .ok (.istore_n 3, 1) := by decide +kernel
theorem dJ7_fill_53178_5 : decode cJ7_fill_53178 5 = .ok (.iload_n 2, 1) := by decide +kernel
theorem dJ7_fill_53178_6 : decode cJ7_fill_53178 6 = .ok (.iload_n 3, 1) := by decide +kernel
theorem dJ7_fill_53178_7 : decode cJ7_fill_53178 7 = .ok (.if_icmp .ge 13, 3) := by decide +kernel
theorem dJ7_fill_53178_10 : decode cJ7_fill_53178 10 = .ok (.aload_n 0, 1) := by decide +kernel
theorem dJ7_fill_53178_11 : decode cJ7_fill_53178 11 = .ok (.iload_n 2, 1) := by decide +kernel
theorem dJ7_fill_53178_12 : decode cJ7_fill_53178 12 = .ok (.iload_n 1, 1) := by decide +kernel
theorem dJ7_fill_53178_13 : decode cJ7_fill_53178 13 = .ok (.iastore, 1) := by decide +kernel
theorem dJ7_fill_53178_14 : decode cJ7_fill_53178 14 = .ok (.iinc 2 1, 3) := by decide +kernel
theorem dJ7_fill_53178_17 : decode cJ7_fill_53178 17 = .ok (.goto (-12), 3) := by decide +kernel
theorem dJ7_fill_53178_20 : decode cJ7_fill_53178 20 = .ok (.return_, 1) := by decide +kernel
