theorem dX0_init_0 : decode cX0_init 0 = .ok (.aload_n 0, 1) := by decide +kernel
theorem dX0_init_1 : decode cX0_init 1 = .ok (.invokespecial 3, 3) := by decide +kernel
theorem dX0_init_4 : decode cX0_init 4 = .ok (.aload_n 0, 1) := by decide +kernel
theorem dX0_init_5 : decode cX0_init 5 = .ok (.new 9, 3) := by decide +kernel
theorem dX0_init_8 : decode cX0_init 8 = .ok (.dup, 1) := by decide +kernel
theorem dX0_init_9 : decode cX0_init 9 = .ok (.invokespecial 11, 3) := by decide +kernel
theorem dX0_init_12 : decode cX0_init 12 = .ok (.putfield 12, 3) := by decide +kernel
theorem dX0_init_15 : decode cX0_init 15 = .ok (.aload_n 0, 1) := by decide +kernel
theorem dX0_init_16 : decode cX0_init 16 = .ok (.new 18, 3) := by decide +kernel
theorem dX0_init_19 : decode cX0_init 19 = .ok (.dup, 1) := by decide +kernel
theorem dX0_init_20 : decode cX0_init 20 = .ok (.iconst 0, 1) := by decide +kernel
theorem dX0_init_21 : decode cX0_init 21 = .ok (.bipush (-6), 2) := by decide +kernel
theorem dX0_init_23 : decode cX0_init 23 = .ok (.iconst 0, 1) := by decide +kernel
theorem dX0_init_24 : decode cX0_init 24 = .ok (.invokespecial 20, 3) := by decide +kernel
theorem dX0_init_27 : decode cX0_init 27 = .ok (.putfield 23, 3) := by decide +kernel
theorem dX0_init_30 : decode cX0_init 30 = .ok (.aload_n 0, 1) := by decide +kernel
theorem dX0_init_31 : decode cX0_init 31 = .ok (.aload_n 0, 1) := by decide +kernel
theorem dX0_init_32 : decode cX0_init 32 = .ok (.getfield 23, 3) := by decide +kernel
theorem dX0_init_35 : decode cX0_init 35 = .ok (.putfield 27, 3) := by decide +kernel
theorem dX0_init_38 : decode cX0_init 38 = .ok (.aload_n 0, 1) := by decide +kernel
theorem dX0_init_39 : decode cX0_init 39 = .ok (.iconst 0, 1) := by decide +kernel
theorem dX0_init_40 : decode cX0_init 40 = .ok (.putfield 30, 3) := by decide +kernel
theorem dX0_init_43 : decode cX0_init 43 = .ok (.return_, 1) := by decide +kernel
theorem dX0_restart_0 : decode cX0_restart 0 = .ok (.aload_n 0, 1) := by decide +kernel
theorem dX0_restart_1 : decode cX0_restart 1 = .ok (.getfield 12, 3) := by decide +kernel
theorem dX0_restart_4 : decode cX0_restart 4 = .ok (.invokevirtual 34, 3) := by decide +kernel
theorem dX0_restart_7 : decode cX0_restart 7 = .ok (.aload_n 0, 1) := by decide +kernel
theorem dX0_restart_8 : decode cX0_restart 8 = .ok (.aload_n 0, 1) := by decide +kernel
theorem dX0_restart_9 : decode cX0_restart 9 = .ok (.getfield 23, 3) := by decide +kernel
theorem dX0_restart_12 : decode cX0_restart 12 = .ok (.putfield 27, 3) := by decide +kernel
theorem dX0_restart_15 : decode cX0_restart 15 = .ok (.aload_n 0, 1) := by decide +kernel
theorem dX0_restart_16 : decode cX0_restart 16 = .ok (.iconst 0, 1) := by decide +kernel
theorem dX0_restart_17 : decode cX0_restart 17 = .ok (.putfield 30, 3) := by decide +kernel
theorem dX0_restart_20 : decode cX0_restart 20 = .ok (.return_, 1) := by decide +kernel
theorem dX0_turn_0 : decode cX0_turn 0 = .ok (.aload_n 0, 1) := by decide +kernel
theorem dX0_turn_1 : decode cX0_turn 1 = .ok (.getfield 12, 3) := by decide +kernel
theorem dX0_turn_4 : decode cX0_turn 4 = .ok (.invokevirtual 37, 3) := by decide +kernel
theorem dX0_turn_7 : decode cX0_turn 7 = .ok (.iconst 2, 1) := by decide +kernel
theorem dX0_turn_8 : decode cX0_turn 8 = .ok (.irem, 1) := by decide +kernel
theorem dX0_turn_9 : decode cX0_turn 9 = .ok (.ireturn, 1) := by decide +kernel
theorem dX0_isOver_0 : decode cX0_isOver 0 = .ok (.aload_n 0, 1) := by decide +kernel
theorem dX0_isOver_1 : decode cX0_isOver 1 = .ok (.getfield 30, 3) := by decide +kernel
theorem dX0_isOver_4 : decode cX0_isOver 4 = .ok (.ifCond .ne 22, 3) := by decide +kernel
theorem dX0_isOver_7 : decode cX0_isOver 7 = .ok (.aload_n 0, 1) := by decide +kernel
theorem dX0_isOver_8 : decode cX0_isOver 8 = .ok (.invokevirtual 41, 3) := by decide +kernel
theorem dX0_isOver_11 : decode cX0_isOver 11 = .ok (.ifCond .ne 15, 3) := by decide +kernel
theorem dX0_isOver_14 : decode cX0_isOver 14 = .ok (.aload_n 0, 1) := by decide +kernel
theorem dX0_isOver_15 : decode cX0_isOver 15 = .ok (.getfield 12, 3) := by decide +kernel
theorem dX0_isOver_18 : decode cX0_isOver 18 = .ok (.invokevirtual 37, 3) := by decide +kernel
theorem dX0_isOver_21 : decode cX0_isOver 21 = .ok (.bipush 12, 2) := by decide +kernel
theorem dX0_isOver_23 : decode cX0_isOver 23 = .ok (.if_icmp .lt 7, 3) := by decide +kernel
theorem dX0_isOver_26 : decode cX0_isOver 26 = .ok (.iconst 1, 1) := by decide +kernel
theorem dX0_isOver_27 : decode cX0_isOver 27 = .ok (.goto 4, 3) := by decide +kernel
theorem dX0_isOver_30 : decode cX0_isOver 30 = .ok (.iconst 0, 1) := by decide +kernel
theorem dX0_isOver_31 : decode cX0_isOver 31 = .ok (.ireturn, 1) := by decide +kernel
theorem dX0_hasPass_0 : decode cX0_hasPass 0 = .ok (.aload_n 0, 1) := by decide +kernel
theorem dX0_hasPass_1 : decode cX0_hasPass 1 = .ok (.getfield 12, 3) := by decide +kernel
theorem dX0_hasPass_4 : decode cX0_hasPass 4 = .ok (.invokevirtual 37, 3) := by decide +kernel
theorem dX0_hasPass_7 : decode cX0_hasPass 7 = .ok (.istore_n 1, 1) := by decide +kernel
theorem dX0_hasPass_8 : decode cX0_hasPass 8 = .ok (.iload_n 1, 1) := by decide +kernel
theorem dX0_hasPass_9 : decode cX0_hasPass 9 = .ok (.ifCond .le 28, 3) := by decide +kernel
theorem dX0_hasPass_12 : decode cX0_hasPass 12 = .ok (.aload_n 0, 1) := by decide +kernel
theorem dX0_hasPass_13 : decode cX0_hasPass 13 = .ok (.getfield 12, 3) := by decide +kernel
theorem dX0_hasPass_16 : decode cX0_hasPass 16 = .ok (.iload_n 1, 1) := by decide +kernel
theorem dX0_hasPass_17 : decode cX0_hasPass 17 = .ok (.iconst 1, 1) := by decide +kernel
theorem dX0_hasPass_18 : decode cX0_hasPass 18 = .ok (.isub, 1) := by decide +kernel
theorem dX0_hasPass_19 : decode cX0_hasPass 19 = .ok (.invokevirtual 45, 3) := by decide +kernel
theorem dX0_hasPass_22 : decode cX0_hasPass 22 = .ok (.checkcast 49, 3) := by decide +kernel
theorem dX0_hasPass_25 : decode cX0_hasPass 25 = .ok (.getfield 51, 3) := by decide +kernel
theorem dX0_hasPass_28 : decode cX0_hasPass 28 = .ok (.bipush 25, 2) := by decide +kernel
theorem dX0_hasPass_30 : decode cX0_hasPass 30 = .ok (.if_icmp .ne 7, 3) := by decide +kernel
theorem dX0_hasPass_33 : decode cX0_hasPass 33 = .ok (.iconst 1, 1) := by decide +kernel
theorem dX0_hasPass_34 : decode cX0_hasPass 34 = .ok (.goto 4, 3) := by decide +kernel
theorem dX0_hasPass_37 : decode cX0_hasPass 37 = .ok (.iconst 0, 1) := by decide +kernel
theorem dX0_hasPass_38 : decode cX0_hasPass 38 = .ok (.ireturn, 1) := by decide +kernel
theorem dX0_ending_0 : decode cX0_ending 0 = .ok (.aload_n 0, 1) := by decide +kernel
theorem dX0_ending_1 : decode cX0_ending 1 = .ok (.getfield 30, 3) := by decide +kernel
theorem dX0_ending_4 : decode cX0_ending 4 = .ok (.ifCond .eq 5, 3) := by decide +kernel
theorem dX0_ending_7 : decode cX0_ending 7 = .ok (.iconst 2, 1) := by decide +kernel
theorem dX0_ending_8 : decode cX0_ending 8 = .ok (.ireturn, 1) := by decide +kernel
theorem dX0_ending_9 : decode cX0_ending 9 = .ok (.aload_n 0, 1) := by decide +kernel
theorem dX0_ending_10 : decode cX0_ending 10 = .ok (.invokevirtual 55, 3) := by decide +kernel
theorem dX0_ending_13 : decode cX0_ending 13 = .ok (.ifCond .eq 7, 3) := by decide +kernel
theorem dX0_ending_16 : decode cX0_ending 16 = .ok (.iconst 1, 1) := by decide +kernel
theorem dX0_ending_17 : decode cX0_ending 17 = .ok (.goto 4, 3) := by decide +kernel
theorem dX0_ending_20 : decode cX0_ending 20 = .ok (.iconst 0, 1) := by decide +kernel
theorem dX0_ending_21 : decode cX0_ending 21 = .ok (.ireturn, 1) := by decide +kernel
theorem dX0_add_0 : decode cX0_add 0 = .ok (.aload_n 0, 1) := by decide +kernel
theorem dX0_add_1 : decode cX0_add 1 = .ok (.getfield 12, 3) := by decide +kernel
theorem dX0_add_4 : decode cX0_add 4 = .ok (.new 49, 3) := by decide +kernel
theorem dX0_add_7 : decode cX0_add 7 = .ok (.dup, 1) := by decide +kernel
theorem dX0_add_8 : decode cX0_add 8 = .ok (.aload_n 1, 1) := by decide +kernel
theorem dX0_add_9 : decode cX0_add 9 = .ok (.getfield 58, 3) := by decide +kernel
theorem dX0_add_12 : decode cX0_add 12 = .ok (.iload_n 2, 1) := by decide +kernel
theorem dX0_add_13 : decode cX0_add 13 = .ok (.aload_n 0, 1) := by decide +kernel
theorem dX0_add_14 : decode cX0_add 14 = .ok (.getfield 27, 3) := by decide +kernel
theorem dX0_add_17 : decode cX0_add 17 = .ok (.invokespecial 61, 3) := by decide +kernel
theorem dX0_add_20 : decode cX0_add 20 = .ok (.invokevirtual 64, 3) := by decide +kernel
theorem dX0_add_23 : decode cX0_add 23 = .ok (.pop, 1) := by decide +kernel
theorem dX0_add_24 : decode cX0_add 24 = .ok (.aload_n 1, 1) := by decide +kernel
theorem dX0_add_25 : decode cX0_add 25 = .ok (.getfield 58, 3) := by decide +kernel
theorem dX0_add_28 : decode cX0_add 28 = .ok (.bipush 25, 2) := by decide +kernel
theorem dX0_add_30 : decode cX0_add 30 = .ok (.if_icmp .eq 26, 3) := by decide +kernel
theorem dX0_add_33 : decode cX0_add 33 = .ok (.aload_n 0, 1) := by decide +kernel
theorem dX0_add_34 : decode cX0_add 34 = .ok (.new 18, 3) := by decide +kernel
theorem dX0_add_37 : decode cX0_add 37 = .ok (.dup, 1) := by decide +kernel
theorem dX0_add_38 : decode cX0_add 38 = .ok (.aload_n 1, 1) := by decide +kernel
theorem dX0_add_39 : decode cX0_add 39 = .ok (.getfield 68, 3) := by decide +kernel
theorem dX0_add_42 : decode cX0_add 42 = .ok (.aload_n 1, 1) := by decide +kernel
theorem dX0_add_43 : decode cX0_add 43 = .ok (.getfield 58, 3) := by decide +kernel
theorem dX0_add_46 : decode cX0_add 46 = .ok (.aload_n 1, 1) := by decide +kernel
theorem dX0_add_47 : decode cX0_add 47 = .ok (.getfield 71, 3) := by decide +kernel
theorem dX0_add_50 : decode cX0_add 50 = .ok (.invokespecial 20, 3) := by decide +kernel
theorem dX0_add_53 : decode cX0_add 53 = .ok (.putfield 27, 3) := by decide +kernel
theorem dX0_add_56 : decode cX0_add 56 = .ok (.return_, 1) := by decide +kernel
theorem dX0_takeBack_0 : decode cX0_takeBack 0 = .ok (.aload_n 0, 1) := by decide +kernel
theorem dX0_takeBack_1 : decode cX0_takeBack 1 = .ok (.getfield 30, 3) := by decide +kernel
theorem dX0_takeBack_4 : decode cX0_takeBack 4 = .ok (.ifCond .eq 10, 3) := by decide +kernel
theorem dX0_takeBack_7 : decode cX0_takeBack 7 = .ok (.aload_n 0, 1) := by decide +kernel
theorem dX0_takeBack_8 : decode cX0_takeBack 8 = .ok (.iconst 0, 1) := by decide +kernel
theorem dX0_takeBack_9 : decode cX0_takeBack 9 = .ok (.putfield 30, 3) := by decide +kernel
theorem dX0_takeBack_12 : decode cX0_takeBack 12 = .ok (.iconst 1, 1) := by decide +kernel
theorem dX0_takeBack_13 : decode cX0_takeBack 13 = .ok (.ireturn, 1) := by decide +kernel
theorem dX0_takeBack_14 : decode cX0_takeBack 14 = .ok (.aload_n 0, 1) := by decide +kernel
theorem dX0_takeBack_15 : decode cX0_takeBack 15 = .ok (.getfield 12, 3) := by decide +kernel
theorem dX0_takeBack_18 : decode cX0_takeBack 18 = .ok (.invokevirtual 37, 3) := by decide +kernel
theorem dX0_takeBack_21 : decode cX0_takeBack 21 = .ok (.istore_n 1, 1) := by decide +kernel
theorem dX0_takeBack_22 : decode cX0_takeBack 22 = .ok (.iload_n 1, 1) := by decide +kernel
theorem dX0_takeBack_23 : decode cX0_takeBack 23 = .ok (.ifCond .ne 5, 3) := by decide +kernel
theorem dX0_takeBack_26 : decode cX0_takeBack 26 = .ok (.iconst 0, 1) := by decide +kernel
theorem dX0_takeBack_27 : decode cX0_takeBack 27 = .ok (.ireturn, 1) := by decide +kernel
theorem dX0_takeBack_28 : decode cX0_takeBack 28 = .ok (.aload_n 0, 1) := by decide +kernel
theorem dX0_takeBack_29 : decode cX0_takeBack 29 = .ok (.aload_n 0, 1) := by decide +kernel
theorem dX0_takeBack_30 : decode cX0_takeBack 30 = .ok (.getfield 12, 3) := by decide +kernel
theorem dX0_takeBack_33 : decode cX0_takeBack 33 = .ok (.iload_n 1, 1) := by decide +kernel
theorem dX0_takeBack_34 : decode cX0_takeBack 34 = .ok (.iconst 1, 1) := by decide +kernel
theorem dX0_takeBack_35 : decode cX0_takeBack 35 = .ok (.isub, 1) := by decide +kernel
theorem dX0_takeBack_36 : decode cX0_takeBack 36 = .ok (.invokevirtual 45, 3) := by decide +kernel
theorem dX0_takeBack_39 : decode cX0_takeBack 39 = .ok (.checkcast 49, 3) := by decide +kernel
theorem dX0_takeBack_42 : decode cX0_takeBack 42 = .ok (.getfield 74, 3) := by decide +kernel
theorem dX0_takeBack_45 : decode cX0_takeBack 45 = .ok (.putfield 27, 3) := by decide +kernel
theorem dX0_takeBack_48 : decode cX0_takeBack 48 = .ok (.aload_n 0, 1) := by decide +kernel
theorem dX0_takeBack_49 : decode cX0_takeBack 49 = .ok (.getfield 12, 3) := by decide +kernel
theorem dX0_takeBack_52 : decode cX0_takeBack 52 = .ok (.iload_n 1, 1) := by decide +kernel
theorem dX0_takeBack_53 : decode cX0_takeBack 53 = .ok (.iconst 1, 1) := by decide +kernel
theorem dX0_takeBack_54 : decode cX0_takeBack 54 = .ok (.isub, 1) := by decide +kernel
theorem dX0_takeBack_55 : decode cX0_takeBack 55 = .ok (.invokevirtual 77, 3) := by decide +kernel
theorem dX0_takeBack_58 : decode cX0_takeBack 58 = .ok (.pop, 1) := by decide +kernel
theorem dX0_takeBack_59 : decode cX0_takeBack 59 = .ok (.iconst 1, 1) := by decide +kernel
theorem dX0_takeBack_60 : decode cX0_takeBack 60 = .ok (.ireturn, 1) := by decide +kernel
theorem dX1_isSet_0 : decode cX1_isSet 0 = .ok (.iload_n 0, 1) := by decide +kernel
theorem dX1_isSet_1 : decode cX1_isSet 1 = .ok (.ifCond .lt 13, 3) := by decide +kernel
theorem dX1_isSet_4 : decode cX1_isSet 4 = .ok (.iload_n 0, 1) := by decide +kernel
theorem dX1_isSet_5 : decode cX1_isSet 5 = .ok (.ldc 9, 2) := by decide +kernel
theorem dX1_isSet_7 : decode cX1_isSet 7 = .ok (.if_icmp .gt 7, 3) := by decide +kernel
theorem dX1_isSet_10 : decode cX1_isSet 10 = .ok (.iconst 1, 1) := by decide +kernel
theorem dX1_isSet_11 : decode cX1_isSet 11 = .ok (.goto 4, 3) := by decide +kernel
theorem dX1_isSet_14 : decode cX1_isSet 14 = .ok (.iconst 0, 1) := by decide +kernel
theorem dX1_isSet_15 : decode cX1_isSet 15 = .ok (.ireturn, 1) := by decide +kernel
theorem dX1_isHand_0 : decode cX1_isHand 0 = .ok (.iload_n 0, 1) := by decide +kernel
theorem dX1_isHand_1 : decode cX1_isHand 1 = .ok (.invokestatic 10, 3) := by decide +kernel
theorem dX1_isHand_4 : decode cX1_isHand 4 = .ok (.ifCond .eq 15, 3) := by decide +kernel
theorem dX1_isHand_7 : decode cX1_isHand 7 = .ok (.iload_n 0, 1) := by decide +kernel
theorem dX1_isHand_8 : decode cX1_isHand 8 = .ok (.invokestatic 16, 3) := by decide +kernel
theorem dX1_isHand_11 : decode cX1_isHand 11 = .ok (.iconst 5, 1) := by decide +kernel
theorem dX1_isHand_12 : decode cX1_isHand 12 = .ok (.if_icmp .ne 7, 3) := by decide +kernel
theorem dX1_isHand_15 : decode cX1_isHand 15 = .ok (.iconst 1, 1) := by decide +kernel
theorem dX1_isHand_16 : decode cX1_isHand 16 = .ok (.goto 4, 3) := by decide +kernel
theorem dX1_isHand_19 : decode cX1_isHand 19 = .ok (.iconst 0, 1) := by decide +kernel
theorem dX1_isHand_20 : decode cX1_isHand 20 = .ok (.ireturn, 1) := by decide +kernel
theorem dX1_handAfter_0 : decode cX1_handAfter 0 = .ok (.iload_n 0, 1) := by decide +kernel
theorem dX1_handAfter_1 : decode cX1_handAfter 1 = .ok (.iload_n 0, 1) := by decide +kernel
theorem dX1_handAfter_2 : decode cX1_handAfter 2 = .ok (.iload_n 0, 1) := by decide +kernel
theorem dX1_handAfter_3 : decode cX1_handAfter 3 = .ok (.ineg, 1) := by decide +kernel
theorem dX1_handAfter_4 : decode cX1_handAfter 4 = .ok (.iand, 1) := by decide +kernel
theorem dX1_handAfter_5 : decode cX1_handAfter 5 = .ok (.iadd, 1) := by decide +kernel
theorem dX1_handAfter_6 : decode cX1_handAfter 6 = .ok (.istore_n 1, 1) := by decide +kernel
theorem dX1_handAfter_7 : decode cX1_handAfter 7 = .ok (.iload_n 1, 1) := by decide +kernel
theorem dX1_handAfter_8 : decode cX1_handAfter 8 = .ok (.iload_n 0, 1) := by decide +kernel
theorem dX1_handAfter_9 : decode cX1_handAfter 9 = .ok (.iload_n 1, 1) := by decide +kernel
theorem dX1_handAfter_10 : decode cX1_handAfter 10 = .ok (.ixor, 1) := by decide +kernel
theorem dX1_handAfter_11 : decode cX1_handAfter 11 = .ok (.iconst 2, 1) := by decide +kernel
theorem dX1_handAfter_12 : decode cX1_handAfter 12 = .ok (.iload_n 0, 1) := by decide +kernel
theorem dX1_handAfter_13 : decode cX1_handAfter 13 = .ok (.invokestatic 22, 3) := by decide +kernel
theorem dX1_handAfter_16 : decode cX1_handAfter 16 = .ok (.iadd, 1) := by decide +kernel
theorem dX1_handAfter_17 : decode cX1_handAfter 17 = .ok (.iushr, 1) := by decide +kernel
theorem dX1_handAfter_18 : decode cX1_handAfter 18 = .ok (.ior, 1) := by decide +kernel
theorem dX1_handAfter_19 : decode cX1_handAfter 19 = .ok (.ireturn, 1) := by decide +kernel
theorem dX1_cardAt_0 : decode cX1_cardAt 0 = .ok (.iload_n 0, 1) := by decide +kernel
theorem dX1_cardAt_1 : decode cX1_cardAt 1 = .ok (.istore_n 2, 1) := by decide +kernel
theorem dX1_cardAt_2 : decode cX1_cardAt 2 = .ok (.iconst 0, 1) := by decide +kernel
theorem dX1_cardAt_3 : decode cX1_cardAt 3 = .ok (.istore_n 3, 1) := by decide +kernel
theorem dX1_cardAt_4 : decode cX1_cardAt 4 = .ok (.iload_n 3, 1) := by decide +kernel
theorem dX1_cardAt_5 : decode cX1_cardAt 5 = .ok (.iload_n 1, 1) := by decide +kernel
theorem dX1_cardAt_6 : decode cX1_cardAt 6 = .ok (.if_icmp .ge 15, 3) := by decide +kernel
theorem dX1_cardAt_9 : decode cX1_cardAt 9 = .ok (.iload_n 2, 1) := by decide +kernel
theorem dX1_cardAt_10 : decode cX1_cardAt 10 = .ok (.iload_n 2, 1) := by decide +kernel
theorem dX1_cardAt_11 : decode cX1_cardAt 11 = .ok (.iconst 1, 1) := by decide +kernel
theorem dX1_cardAt_12 : decode cX1_cardAt 12 = .ok (.isub, 1) := by decide +kernel
theorem dX1_cardAt_13 : decode cX1_cardAt 13 = .ok (.iand, 1) := by decide +kernel
theorem dX1_cardAt_14 : decode cX1_cardAt 14 = .ok (.istore_n 2, 1) := by decide +kernel
theorem dX1_cardAt_15 : decode cX1_cardAt 15 = .ok (.iinc 3 1, 3) := by decide +kernel
theorem dX1_cardAt_18 : decode cX1_cardAt 18 = .ok (.goto (-14), 3) := by decide +kernel
theorem dX1_cardAt_21 : decode cX1_cardAt 21 = .ok (.iload_n 2, 1) := by decide +kernel
theorem dX1_cardAt_22 : decode cX1_cardAt 22 = .ok (.iload_n 2, 1) := by decide +kernel
theorem dX1_cardAt_23 : decode cX1_cardAt 23 = .ok (.ineg, 1) := by decide +kernel
theorem dX1_cardAt_24 : decode cX1_cardAt 24 = .ok (.iand, 1) := by decide +kernel
theorem dX1_cardAt_25 : decode cX1_cardAt 25 = .ok (.ireturn, 1) := by decide +kernel
theorem dX1_ofSuit_0 : decode cX1_ofSuit 0 = .ok (.iload_n 0, 1) := by decide +kernel
theorem dX1_ofSuit_1 : decode cX1_ofSuit 1 = .ok (.iconst 5, 1) := by decide +kernel
theorem dX1_ofSuit_2 : decode cX1_ofSuit 2 = .ok (.iload_n 1, 1) := by decide +kernel
theorem dX1_ofSuit_3 : decode cX1_ofSuit 3 = .ok (.imul, 1) := by decide +kernel
theorem dX1_ofSuit_4 : decode cX1_ofSuit 4 = .ok (.ishr, 1) := by decide +kernel
theorem dX1_ofSuit_5 : decode cX1_ofSuit 5 = .ok (.bipush 31, 2) := by decide +kernel
theorem dX1_ofSuit_7 : decode cX1_ofSuit 7 = .ok (.iand, 1) := by decide +kernel
theorem dX1_ofSuit_8 : decode cX1_ofSuit 8 = .ok (.ireturn, 1) := by decide +kernel
theorem dX1_measure_0 : decode cX1_measure 0 = .ok (.iload_n 1, 1) := by decide +kernel
theorem dX1_measure_1 : decode cX1_measure 1 = .ok (.iconst 4, 1) := by decide +kernel
theorem dX1_measure_2 : decode cX1_measure 2 = .ok (.if_icmp .ne 10, 3) := by decide +kernel
theorem dX1_measure_5 : decode cX1_measure 5 = .ok (.iload_n 0, 1) := by decide +kernel
theorem dX1_measure_6 : decode cX1_measure 6 = .ok (.invokestatic 25, 3) := by decide +kernel
theorem dX1_measure_9 : decode cX1_measure 9 = .ok (.goto 11, 3) := by decide +kernel
theorem dX1_measure_12 : decode cX1_measure 12 = .ok (.iload_n 0, 1) := by decide +kernel
theorem dX1_measure_13 : decode cX1_measure 13 = .ok (.iload_n 1, 1) := by decide +kernel
theorem dX1_measure_14 : decode cX1_measure 14 = .ok (.invokestatic 28, 3) := by decide +kernel
theorem dX1_measure_17 : decode cX1_measure 17 = .ok (.invokestatic 16, 3) := by decide +kernel
theorem dX1_measure_20 : decode cX1_measure 20 = .ok (.ireturn, 1) := by decide +kernel
theorem dX1_greatestMeasure_0 : decode cX1_greatestMeasure 0 = .ok (.iload_n 0, 1) := by decide +kernel
theorem dX1_greatestMeasure_1 : decode cX1_greatestMeasure 1 = .ok (.iconst 4, 1) := by decide +kernel
theorem dX1_greatestMeasure_2 : decode cX1_greatestMeasure 2 = .ok (.if_icmp .ne 8, 3) := by decide +kernel
theorem dX1_greatestMeasure_5 : decode cX1_greatestMeasure 5 = .ok (.bipush 20, 2) := by decide +kernel
theorem dX1_greatestMeasure_7 : decode cX1_greatestMeasure 7 = .ok (.goto 4, 3) := by decide +kernel
theorem dX1_greatestMeasure_10 : decode cX1_greatestMeasure 10 = .ok (.iconst 5, 1) := by decide +kernel
theorem dX1_greatestMeasure_11 : decode cX1_greatestMeasure 11 = .ok (.ireturn, 1) := by decide +kernel
theorem dX1_strength_0 : decode cX1_strength 0 = .ok (.iconst 0, 1) := by decide +kernel
theorem dX1_strength_1 : decode cX1_strength 1 = .ok (.istore_n 1, 1) := by decide +kernel
theorem dX1_strength_2 : decode cX1_strength 2 = .ok (.iconst 1, 1) := by decide +kernel
theorem dX1_strength_3 : decode cX1_strength 3 = .ok (.istore_n 2, 1) := by decide +kernel
theorem dX1_strength_4 : decode cX1_strength 4 = .ok (.iload_n 2, 1) := by decide +kernel
theorem dX1_strength_5 : decode cX1_strength 5 = .ok (.iconst 5, 1) := by decide +kernel
theorem dX1_strength_6 : decode cX1_strength 6 = .ok (.if_icmp .ge 23, 3) := by decide +kernel
theorem dX1_strength_9 : decode cX1_strength 9 = .ok (.iload_n 1, 1) := by decide +kernel
theorem dX1_strength_10 : decode cX1_strength 10 = .ok (.iload_n 2, 1) := by decide +kernel
theorem dX1_strength_11 : decode cX1_strength 11 = .ok (.iload_n 0, 1) := by decide +kernel
theorem dX1_strength_12 : decode cX1_strength 12 = .ok (.ldc 32, 2) := by decide +kernel
theorem dX1_strength_14 : decode cX1_strength 14 = .ok (.iload_n 2, 1) := by decide +kernel
theorem dX1_strength_15 : decode cX1_strength 15 = .ok (.ishl, 1) := by decide +kernel
theorem dX1_strength_16 : decode cX1_strength 16 = .ok (.iand, 1) := by decide +kernel
theorem dX1_strength_17 : decode cX1_strength 17 = .ok (.invokestatic 16, 3) := by decide +kernel
theorem dX1_strength_20 : decode cX1_strength 20 = .ok (.imul, 1) := by decide +kernel
theorem dX1_strength_21 : decode cX1_strength 21 = .ok (.iadd, 1) := by decide +kernel
theorem dX1_strength_22 : decode cX1_strength 22 = .ok (.istore_n 1, 1) := by decide +kernel
theorem dX1_strength_23 : decode cX1_strength 23 = .ok (.iinc 2 1, 3) := by decide +kernel
theorem dX1_strength_26 : decode cX1_strength 26 = .ok (.goto (-22), 3) := by decide +kernel
theorem dX1_strength_29 : decode cX1_strength 29 = .ok (.iload_n 1, 1) := by decide +kernel
theorem dX1_strength_30 : decode cX1_strength 30 = .ok (.ireturn, 1) := by decide +kernel
theorem dX1_profile_0 : decode cX1_profile 0 = .ok (.iload_n 0, 1) := by decide +kernel
theorem dX1_profile_1 : decode cX1_profile 1 = .ok (.invokestatic 25, 3) := by decide +kernel
theorem dX1_profile_4 : decode cX1_profile 4 = .ok (.bipush 24, 2) := by decide +kernel
theorem dX1_profile_6 : decode cX1_profile 6 = .ok (.ishl, 1) := by decide +kernel
theorem dX1_profile_7 : decode cX1_profile 7 = .ok (.istore_n 1, 1) := by decide +kernel
theorem dX1_profile_8 : decode cX1_profile 8 = .ok (.iconst 0, 1) := by decide +kernel
theorem dX1_profile_9 : decode cX1_profile 9 = .ok (.istore_n 2, 1) := by decide +kernel
theorem dX1_profile_10 : decode cX1_profile 10 = .ok (.iload_n 2, 1) := by decide +kernel
theorem dX1_profile_11 : decode cX1_profile 11 = .ok (.iconst 4, 1) := by decide +kernel
theorem dX1_profile_12 : decode cX1_profile 12 = .ok (.if_icmp .ge 25, 3) := by decide +kernel
theorem dX1_profile_15 : decode cX1_profile 15 = .ok (.iload_n 1, 1) := by decide +kernel
theorem dX1_profile_16 : decode cX1_profile 16 = .ok (.iload_n 0, 1) := by decide +kernel
theorem dX1_profile_17 : decode cX1_profile 17 = .ok (.iload_n 2, 1) := by decide +kernel
theorem dX1_profile_18 : decode cX1_profile 18 = .ok (.invokestatic 28, 3) := by decide +kernel
theorem dX1_profile_21 : decode cX1_profile 21 = .ok (.invokestatic 16, 3) := by decide +kernel
theorem dX1_profile_24 : decode cX1_profile 24 = .ok (.bipush 6, 2) := by decide +kernel
theorem dX1_profile_26 : decode cX1_profile 26 = .ok (.iload_n 2, 1) := by decide +kernel
theorem dX1_profile_27 : decode cX1_profile 27 = .ok (.imul, 1) := by decide +kernel
theorem dX1_profile_28 : decode cX1_profile 28 = .ok (.ishl, 1) := by decide +kernel
theorem dX1_profile_29 : decode cX1_profile 29 = .ok (.ior, 1) := by decide +kernel
theorem dX1_profile_30 : decode cX1_profile 30 = .ok (.istore_n 1, 1) := by decide +kernel
theorem dX1_profile_31 : decode cX1_profile 31 = .ok (.iinc 2 1, 3) := by decide +kernel
theorem dX1_profile_34 : decode cX1_profile 34 = .ok (.goto (-24), 3) := by decide +kernel
theorem dX1_profile_37 : decode cX1_profile 37 = .ok (.iload_n 1, 1) := by decide +kernel
theorem dX1_profile_38 : decode cX1_profile 38 = .ok (.ireturn, 1) := by decide +kernel
theorem dX1_shownNumber_0 : decode cX1_shownNumber 0 = .ok (.iload_n 1, 1) := by decide +kernel
theorem dX1_shownNumber_1 : decode cX1_shownNumber 1 = .ok (.bipush 10, 2) := by decide +kernel
theorem dX1_shownNumber_3 : decode cX1_shownNumber 3 = .ok (.if_icmp .lt 7, 3) := by decide +kernel
theorem dX1_shownNumber_6 : decode cX1_shownNumber 6 = .ok (.iload_n 0, 1) := by decide +kernel
theorem dX1_shownNumber_7 : decode cX1_shownNumber 7 = .ok (.goto 10, 3) := by decide +kernel
theorem dX1_shownNumber_10 : decode cX1_shownNumber 10 = .ok (.iload_n 0, 1) := by decide +kernel
theorem dX1_shownNumber_11 : decode cX1_shownNumber 11 = .ok (.iload_n 1, 1) := by decide +kernel
theorem dX1_shownNumber_12 : decode cX1_shownNumber 12 = .ok (.iconst 2, 1) := by decide +kernel
theorem dX1_shownNumber_13 : decode cX1_shownNumber 13 = .ok (.idiv, 1) := by decide +kernel
theorem dX1_shownNumber_14 : decode cX1_shownNumber 14 = .ok (.invokestatic 35, 3) := by decide +kernel
theorem dX1_shownNumber_17 : decode cX1_shownNumber 17 = .ok (.ireturn, 1) := by decide +kernel
theorem dX1_joinShown_0 : decode cX1_joinShown 0 = .ok (.iload_n 2, 1) := by decide +kernel
theorem dX1_joinShown_1 : decode cX1_joinShown 1 = .ok (.bipush 10, 2) := by decide +kernel
theorem dX1_joinShown_3 : decode cX1_joinShown 3 = .ok (.if_icmp .ne 7, 3) := by decide +kernel
theorem dX1_joinShown_6 : decode cX1_joinShown 6 = .ok (.iload_n 0, 1) := by decide +kernel
theorem dX1_joinShown_7 : decode cX1_joinShown 7 = .ok (.iload_n 1, 1) := by decide +kernel
theorem dX1_joinShown_8 : decode cX1_joinShown 8 = .ok (.iand, 1) := by decide +kernel
theorem dX1_joinShown_9 : decode cX1_joinShown 9 = .ok (.ireturn, 1) := by decide +kernel
theorem dX1_joinShown_10 : decode cX1_joinShown 10 = .ok (.iload_n 2, 1) := by decide +kernel
theorem dX1_joinShown_11 : decode cX1_joinShown 11 = .ok (.bipush 10, 2) := by decide +kernel
theorem dX1_joinShown_13 : decode cX1_joinShown 13 = .ok (.if_icmp .le 7, 3) := by decide +kernel
theorem dX1_joinShown_16 : decode cX1_joinShown 16 = .ok (.iload_n 0, 1) := by decide +kernel
theorem dX1_joinShown_17 : decode cX1_joinShown 17 = .ok (.iload_n 1, 1) := by decide +kernel
theorem dX1_joinShown_18 : decode cX1_joinShown 18 = .ok (.ior, 1) := by decide +kernel
theorem dX1_joinShown_19 : decode cX1_joinShown 19 = .ok (.ireturn, 1) := by decide +kernel
theorem dX1_joinShown_20 : decode cX1_joinShown 20 = .ok (.iload_n 2, 1) := by decide +kernel
theorem dX1_joinShown_21 : decode cX1_joinShown 21 = .ok (.iconst 2, 1) := by decide +kernel
theorem dX1_joinShown_22 : decode cX1_joinShown 22 = .ok (.irem, 1) := by decide +kernel
theorem dX1_joinShown_23 : decode cX1_joinShown 23 = .ok (.ifCond .ne 11, 3) := by decide +kernel
theorem dX1_joinShown_26 : decode cX1_joinShown 26 = .ok (.iload_n 0, 1) := by decide +kernel
theorem dX1_joinShown_27 : decode cX1_joinShown 27 = .ok (.iload_n 1, 1) := by decide +kernel
theorem dX1_joinShown_28 : decode cX1_joinShown 28 = .ok (.invokestatic 38, 3) := by decide +kernel
theorem dX1_joinShown_31 : decode cX1_joinShown 31 = .ok (.goto 8, 3) := by decide +kernel
theorem dX1_joinShown_34 : decode cX1_joinShown 34 = .ok (.iload_n 0, 1) := by decide +kernel
theorem dX1_joinShown_35 : decode cX1_joinShown 35 = .ok (.iload_n 1, 1) := by decide +kernel
theorem dX1_joinShown_36 : decode cX1_joinShown 36 = .ok (.invokestatic 43, 3) := by decide +kernel
theorem dX1_joinShown_39 : decode cX1_joinShown 39 = .ok (.ireturn, 1) := by decide +kernel
theorem dX1_tricksOf_0 : decode cX1_tricksOf 0 = .ok (.iconst 0, 1) := by decide +kernel
theorem dX1_tricksOf_1 : decode cX1_tricksOf 1 = .ok (.istore_n 3, 1) := by decide +kernel
theorem dX1_tricksOf_2 : decode cX1_tricksOf 2 = .ok (.iconst 0, 1) := by decide +kernel
theorem dX1_tricksOf_3 : decode cX1_tricksOf 3 = .ok (.istore 4, 2) := by decide +kernel
theorem dX1_tricksOf_5 : decode cX1_tricksOf 5 = .ok (.iload 4, 2) := by decide +kernel
theorem dX1_tricksOf_7 : decode cX1_tricksOf 7 = .ok (.iconst 4, 1) := by decide +kernel
theorem dX1_tricksOf_8 : decode cX1_tricksOf 8 = .ok (.if_icmp .ge 58, 3) := by decide +kernel
theorem dX1_tricksOf_11 : decode cX1_tricksOf 11 = .ok (.iload_n 3, 1) := by decide +kernel
theorem dX1_tricksOf_12 : decode cX1_tricksOf 12 = .ok (.iload_n 1, 1) := by decide +kernel
theorem dX1_tricksOf_13 : decode cX1_tricksOf 13 = .ok (.iload 4, 2) := by decide +kernel
theorem dX1_tricksOf_15 : decode cX1_tricksOf 15 = .ok (.invokestatic 28, 3) := by decide +kernel
theorem dX1_tricksOf_18 : decode cX1_tricksOf 18 = .ok (.iload_n 2, 1) := by decide +kernel
theorem dX1_tricksOf_19 : decode cX1_tricksOf 19 = .ok (.iload 4, 2) := by decide +kernel
theorem dX1_tricksOf_21 : decode cX1_tricksOf 21 = .ok (.invokestatic 28, 3) := by decide +kernel
theorem dX1_tricksOf_24 : decode cX1_tricksOf 24 = .ok (.invokestatic 46, 3) := by decide +kernel
theorem dX1_tricksOf_27 : decode cX1_tricksOf 27 = .ok (.iadd, 1) := by decide +kernel
theorem dX1_tricksOf_28 : decode cX1_tricksOf 28 = .ok (.istore_n 3, 1) := by decide +kernel
theorem dX1_tricksOf_29 : decode cX1_tricksOf 29 = .ok (.iload_n 0, 1) := by decide +kernel
theorem dX1_tricksOf_30 : decode cX1_tricksOf 30 = .ok (.iconst 4, 1) := by decide +kernel
theorem dX1_tricksOf_31 : decode cX1_tricksOf 31 = .ok (.if_icmp .eq 29, 3) := by decide +kernel
theorem dX1_tricksOf_34 : decode cX1_tricksOf 34 = .ok (.iload 4, 2) := by decide +kernel
theorem dX1_tricksOf_36 : decode cX1_tricksOf 36 = .ok (.iload_n 0, 1) := by decide +kernel
theorem dX1_tricksOf_37 : decode cX1_tricksOf 37 = .ok (.if_icmp .eq 23, 3) := by decide +kernel
theorem dX1_tricksOf_40 : decode cX1_tricksOf 40 = .ok (.iload_n 3, 1) := by decide +kernel
theorem dX1_tricksOf_41 : decode cX1_tricksOf 41 = .ok (.iload_n 1, 1) := by decide +kernel
theorem dX1_tricksOf_42 : decode cX1_tricksOf 42 = .ok (.iload_n 2, 1) := by decide +kernel
theorem dX1_tricksOf_43 : decode cX1_tricksOf 43 = .ok (.iload 4, 2) := by decide +kernel
theorem dX1_tricksOf_45 : decode cX1_tricksOf 45 = .ok (.iload_n 0, 1) := by decide +kernel
theorem dX1_tricksOf_46 : decode cX1_tricksOf 46 = .ok (.invokestatic 49, 3) := by decide +kernel
theorem dX1_tricksOf_49 : decode cX1_tricksOf 49 = .ok (.iload_n 2, 1) := by decide +kernel
theorem dX1_tricksOf_50 : decode cX1_tricksOf 50 = .ok (.iload_n 1, 1) := by decide +kernel
theorem dX1_tricksOf_51 : decode cX1_tricksOf 51 = .ok (.iload 4, 2) := by decide +kernel
theorem dX1_tricksOf_53 : decode cX1_tricksOf 53 = .ok (.iload_n 0, 1) := by decide +kernel
theorem dX1_tricksOf_54 : decode cX1_tricksOf 54 = .ok (.invokestatic 49, 3) := by decide +kernel
theorem dX1_tricksOf_57 : decode cX1_tricksOf 57 = .ok (.iadd, 1) := by decide +kernel
theorem dX1_tricksOf_58 : decode cX1_tricksOf 58 = .ok (.iadd, 1) := by decide +kernel
theorem dX1_tricksOf_59 : decode cX1_tricksOf 59 = .ok (.istore_n 3, 1) := by decide +kernel
theorem dX1_tricksOf_60 : decode cX1_tricksOf 60 = .ok (.iinc 4 1, 3) := by decide +kernel
theorem dX1_tricksOf_63 : decode cX1_tricksOf 63 = .ok (.goto (-58), 3) := by decide +kernel
theorem dX1_tricksOf_66 : decode cX1_tricksOf 66 = .ok (.iload_n 3, 1) := by decide +kernel
theorem dX1_tricksOf_67 : decode cX1_tricksOf 67 = .ok (.iconst 5, 1) := by decide +kernel
theorem dX1_tricksOf_68 : decode cX1_tricksOf 68 = .ok (.invokestatic 38, 3) := by decide +kernel
theorem dX1_tricksOf_71 : decode cX1_tricksOf 71 = .ok (.ireturn, 1) := by decide +kernel
theorem dX1_winners_0 : decode cX1_winners 0 = .ok (.iload_n 0, 1) := by decide +kernel
theorem dX1_winners_1 : decode cX1_winners 1 = .ok (.iload_n 1, 1) := by decide +kernel
theorem dX1_winners_2 : decode cX1_winners 2 = .ok (.ior, 1) := by decide +kernel
theorem dX1_winners_3 : decode cX1_winners 3 = .ok (.istore_n 2, 1) := by decide +kernel
theorem dX1_winners_4 : decode cX1_winners 4 = .ok (.iconst 0, 1) := by decide +kernel
theorem dX1_winners_5 : decode cX1_winners 5 = .ok (.istore_n 3, 1) := by decide +kernel
theorem dX1_winners_6 : decode cX1_winners 6 = .ok (.iconst 4, 1) := by decide +kernel
theorem dX1_winners_7 : decode cX1_winners 7 = .ok (.istore 4, 2) := by decide +kernel
theorem dX1_winners_9 : decode cX1_winners 9 = .ok (.iload 4, 2) := by decide +kernel
theorem dX1_winners_11 : decode cX1_winners 11 = .ok (.ifCond .lt 22, 3) := by decide +kernel
theorem dX1_winners_14 : decode cX1_winners 14 = .ok (.iload_n 2, 1) := by decide +kernel
theorem dX1_winners_15 : decode cX1_winners 15 = .ok (.iload 4, 2) := by decide +kernel
theorem dX1_winners_17 : decode cX1_winners 17 = .ok (.ishr, 1) := by decide +kernel
theorem dX1_winners_18 : decode cX1_winners 18 = .ok (.iconst 1, 1) := by decide +kernel
theorem dX1_winners_19 : decode cX1_winners 19 = .ok (.iand, 1) := by decide +kernel
theorem dX1_winners_20 : decode cX1_winners 20 = .ok (.iconst 1, 1) := by decide +kernel
theorem dX1_winners_21 : decode cX1_winners 21 = .ok (.if_icmp .ne 12, 3) := by decide +kernel
theorem dX1_winners_24 : decode cX1_winners 24 = .ok (.iinc 3 1, 3) := by decide +kernel
theorem dX1_winners_27 : decode cX1_winners 27 = .ok (.iinc 4 (-1), 3) := by decide +kernel
theorem dX1_winners_30 : decode cX1_winners 30 = .ok (.goto (-21), 3) := by decide +kernel
theorem dX1_winners_33 : decode cX1_winners 33 = .ok (.iload_n 3, 1) := by decide +kernel
theorem dX1_winners_34 : decode cX1_winners 34 = .ok (.iload_n 0, 1) := by decide +kernel
theorem dX1_winners_35 : decode cX1_winners 35 = .ok (.invokestatic 16, 3) := by decide +kernel
theorem dX1_winners_38 : decode cX1_winners 38 = .ok (.iload_n 1, 1) := by decide +kernel
theorem dX1_winners_39 : decode cX1_winners 39 = .ok (.invokestatic 16, 3) := by decide +kernel
theorem dX1_winners_42 : decode cX1_winners 42 = .ok (.invokestatic 43, 3) := by decide +kernel
theorem dX1_winners_45 : decode cX1_winners 45 = .ok (.invokestatic 38, 3) := by decide +kernel
theorem dX1_winners_48 : decode cX1_winners 48 = .ok (.ireturn, 1) := by decide +kernel
theorem dX1_ruffs_0 : decode cX1_ruffs 0 = .ok (.iload_n 0, 1) := by decide +kernel
theorem dX1_ruffs_1 : decode cX1_ruffs 1 = .ok (.iload_n 2, 1) := by decide +kernel
theorem dX1_ruffs_2 : decode cX1_ruffs 2 = .ok (.invokestatic 28, 3) := by decide +kernel
theorem dX1_ruffs_5 : decode cX1_ruffs 5 = .ok (.ifCond .ne 15, 3) := by decide +kernel
theorem dX1_ruffs_8 : decode cX1_ruffs 8 = .ok (.iload_n 0, 1) := by decide +kernel
theorem dX1_ruffs_9 : decode cX1_ruffs 9 = .ok (.iload_n 3, 1) := by decide +kernel
theorem dX1_ruffs_10 : decode cX1_ruffs 10 = .ok (.invokestatic 28, 3) := by decide +kernel
theorem dX1_ruffs_13 : decode cX1_ruffs 13 = .ok (.ifCond .eq 7, 3) := by decide +kernel
theorem dX1_ruffs_16 : decode cX1_ruffs 16 = .ok (.iconst 1, 1) := by decide +kernel
theorem dX1_ruffs_17 : decode cX1_ruffs 17 = .ok (.goto 4, 3) := by decide +kernel
theorem dX1_ruffs_20 : decode cX1_ruffs 20 = .ok (.iconst 0, 1) := by decide +kernel
theorem dX1_ruffs_21 : decode cX1_ruffs 21 = .ok (.istore 4, 2) := by decide +kernel
theorem dX1_ruffs_23 : decode cX1_ruffs 23 = .ok (.iload 4, 2) := by decide +kernel
theorem dX1_ruffs_25 : decode cX1_ruffs 25 = .ok (.ifCond .eq 15, 3) := by decide +kernel
theorem dX1_ruffs_28 : decode cX1_ruffs 28 = .ok (.iload_n 1, 1) := by decide +kernel
theorem dX1_ruffs_29 : decode cX1_ruffs 29 = .ok (.iload_n 2, 1) := by decide +kernel
theorem dX1_ruffs_30 : decode cX1_ruffs 30 = .ok (.invokestatic 28, 3) := by decide +kernel
theorem dX1_ruffs_33 : decode cX1_ruffs 33 = .ok (.ifCond .eq 7, 3) := by decide +kernel
theorem dX1_ruffs_36 : decode cX1_ruffs 36 = .ok (.iconst 1, 1) := by decide +kernel
theorem dX1_ruffs_37 : decode cX1_ruffs 37 = .ok (.goto 4, 3) := by decide +kernel
theorem dX1_ruffs_40 : decode cX1_ruffs 40 = .ok (.iconst 0, 1) := by decide +kernel
theorem dX1_ruffs_41 : decode cX1_ruffs 41 = .ok (.ireturn, 1) := by decide +kernel
theorem dX2_init_0 : decode cX2_init 0 = .ok (.aload_n 0, 1) := by decide +kernel
theorem dX2_init_1 : decode cX2_init 1 = .ok (.invokespecial 1, 3) := by decide +kernel
theorem dX2_init_4 : decode cX2_init 4 = .ok (.aload_n 0, 1) := by decide +kernel
theorem dX2_init_5 : decode cX2_init 5 = .ok (.iload_n 1, 1) := by decide +kernel
theorem dX2_init_6 : decode cX2_init 6 = .ok (.putfield 7, 3) := by decide +kernel
theorem dX2_init_9 : decode cX2_init 9 = .ok (.aload_n 0, 1) := by decide +kernel
theorem dX2_init_10 : decode cX2_init 10 = .ok (.iload_n 2, 1) := by decide +kernel
theorem dX2_init_11 : decode cX2_init 11 = .ok (.putfield 13, 3) := by decide +kernel
theorem dX2_init_14 : decode cX2_init 14 = .ok (.aload_n 0, 1) := by decide +kernel
theorem dX2_init_15 : decode cX2_init 15 = .ok (.aload_n 3, 1) := by decide +kernel
theorem dX2_init_16 : decode cX2_init 16 = .ok (.putfield 16, 3) := by decide +kernel
theorem dX2_init_19 : decode cX2_init 19 = .ok (.return_, 1) := by decide +kernel
theorem dX2_number_0 : decode cX2_number 0 = .ok (.iload_n 1, 1) := by decide +kernel
theorem dX2_number_1 : decode cX2_number 1 = .ok (.tableswitch 45 0 2 #[27, 32, 37], 27) := by decide +kernel
theorem dX2_number_28 : decode cX2_number 28 = .ok (.aload_n 0, 1) := by decide +kernel
theorem dX2_number_29 : decode cX2_number 29 = .ok (.getfield 7, 3) := by decide +kernel
theorem dX2_number_32 : decode cX2_number 32 = .ok (.ireturn, 1) := by decide +kernel
theorem dX2_number_33 : decode cX2_number 33 = .ok (.aload_n 0, 1) := by decide +kernel
theorem dX2_number_34 : decode cX2_number 34 = .ok (.getfield 13, 3) := by decide +kernel
theorem dX2_number_37 : decode cX2_number 37 = .ok (.ireturn, 1) := by decide +kernel
theorem dX2_number_38 : decode cX2_number 38 = .ok (.aload_n 0, 1) := by decide +kernel
theorem dX2_number_39 : decode cX2_number 39 = .ok (.getfield 16, 3) := by decide +kernel
theorem dX2_number_42 : decode cX2_number 42 = .ok (.getfield 20, 3) := by decide +kernel
theorem dX2_number_45 : decode cX2_number 45 = .ok (.ireturn, 1) := by decide +kernel
theorem dX2_number_46 : decode cX2_number 46 = .ok (.aload_n 0, 1) := by decide +kernel
theorem dX2_number_47 : decode cX2_number 47 = .ok (.getfield 16, 3) := by decide +kernel
theorem dX2_number_50 : decode cX2_number 50 = .ok (.getfield 25, 3) := by decide +kernel
theorem dX2_number_53 : decode cX2_number 53 = .ok (.ireturn, 1) := by decide +kernel
theorem dX3_init_0 : decode cX3_init 0 = .ok (.aload_n 0, 1) := by decide +kernel
theorem dX3_init_1 : decode cX3_init 1 = .ok (.invokespecial 1, 3) := by decide +kernel
theorem dX3_init_4 : decode cX3_init 4 = .ok (.aload_n 0, 1) := by decide +kernel
theorem dX3_init_5 : decode cX3_init 5 = .ok (.iload_n 1, 1) := by decide +kernel
theorem dX3_init_6 : decode cX3_init 6 = .ok (.putfield 7, 3) := by decide +kernel
theorem dX3_init_9 : decode cX3_init 9 = .ok (.aload_n 0, 1) := by decide +kernel
theorem dX3_init_10 : decode cX3_init 10 = .ok (.iload_n 2, 1) := by decide +kernel
theorem dX3_init_11 : decode cX3_init 11 = .ok (.putfield 13, 3) := by decide +kernel
theorem dX3_init_14 : decode cX3_init 14 = .ok (.aload_n 0, 1) := by decide +kernel
theorem dX3_init_15 : decode cX3_init 15 = .ok (.iload_n 3, 1) := by decide +kernel
theorem dX3_init_16 : decode cX3_init 16 = .ok (.putfield 16, 3) := by decide +kernel
theorem dX3_init_19 : decode cX3_init 19 = .ok (.return_, 1) := by decide +kernel
theorem dX4_init_0 : decode cX4_init 0 = .ok (.aload_n 0, 1) := by decide +kernel
theorem dX4_init_1 : decode cX4_init 1 = .ok (.invokespecial 3, 3) := by decide +kernel
theorem dX4_init_4 : decode cX4_init 4 = .ok (.aload_n 0, 1) := by decide +kernel
theorem dX4_init_5 : decode cX4_init 5 = .ok (.iconst 0, 1) := by decide +kernel
theorem dX4_init_6 : decode cX4_init 6 = .ok (.putfield 9, 3) := by decide +kernel
theorem dX4_init_9 : decode cX4_init 9 = .ok (.aload_n 0, 1) := by decide +kernel
theorem dX4_init_10 : decode cX4_init 10 = .ok (.ldc 15, 2) := by decide +kernel
theorem dX4_init_12 : decode cX4_init 12 = .ok (.putfield 16, 3) := by decide +kernel
theorem dX4_init_15 : decode cX4_init 15 = .ok (.aload_n 0, 1) := by decide +kernel
theorem dX4_init_16 : decode cX4_init 16 = .ok (.iload_n 1, 1) := by decide +kernel
theorem dX4_init_17 : decode cX4_init 17 = .ok (.putfield 19, 3) := by decide +kernel
theorem dX4_init_20 : decode cX4_init 20 = .ok (.aload_n 0, 1) := by decide +kernel
theorem dX4_init_21 : decode cX4_init 21 = .ok (.iload_n 2, 1) := by decide +kernel
theorem dX4_init_22 : decode cX4_init 22 = .ok (.putfield 22, 3) := by decide +kernel
theorem dX4_init_25 : decode cX4_init 25 = .ok (.aload_n 0, 1) := by decide +kernel
theorem dX4_init_26 : decode cX4_init 26 = .ok (.iload_n 3, 1) := by decide +kernel
theorem dX4_init_27 : decode cX4_init 27 = .ok (.putfield 25, 3) := by decide +kernel
theorem dX4_init_30 : decode cX4_init 30 = .ok (.aload_n 0, 1) := by decide +kernel
theorem dX4_init_31 : decode cX4_init 31 = .ok (.iload 4, 2) := by decide +kernel
theorem dX4_init_33 : decode cX4_init 33 = .ok (.putfield 28, 3) := by decide +kernel
theorem dX4_init_36 : decode cX4_init 36 = .ok (.return_, 1) := by decide +kernel
theorem dX4_setRange_0 : decode cX4_setRange 0 = .ok (.bipush 6, 2) := by decide +kernel
theorem dX4_setRange_2 : decode cX4_setRange 2 = .ok (.iload_n 1, 1) := by decide +kernel
theorem dX4_setRange_3 : decode cX4_setRange 3 = .ok (.imul, 1) := by decide +kernel
theorem dX4_setRange_4 : decode cX4_setRange 4 = .ok (.istore 4, 2) := by decide +kernel
theorem dX4_setRange_6 : decode cX4_setRange 6 = .ok (.aload_n 0, 1) := by decide +kernel
theorem dX4_setRange_7 : decode cX4_setRange 7 = .ok (.aload_n 0, 1) := by decide +kernel
theorem dX4_setRange_8 : decode cX4_setRange 8 = .ok (.getfield 9, 3) := by decide +kernel
theorem dX4_setRange_11 : decode cX4_setRange 11 = .ok (.bipush 31, 2) := by decide +kernel
theorem dX4_setRange_13 : decode cX4_setRange 13 = .ok (.iload 4, 2) := by decide +kernel
theorem dX4_setRange_15 : decode cX4_setRange 15 = .ok (.ishl, 1) := by decide +kernel
theorem dX4_setRange_16 : decode cX4_setRange 16 = .ok (.iconst (-1), 1) := by decide +kernel
theorem dX4_setRange_17 : decode cX4_setRange 17 = .ok (.ixor, 1) := by decide +kernel
theorem dX4_setRange_18 : decode cX4_setRange 18 = .ok (.iand, 1) := by decide +kernel
theorem dX4_setRange_19 : decode cX4_setRange 19 = .ok (.iload_n 2, 1) := by decide +kernel
theorem dX4_setRange_20 : decode cX4_setRange 20 = .ok (.iload 4, 2) := by decide +kernel
theorem dX4_setRange_22 : decode cX4_setRange 22 = .ok (.ishl, 1) := by decide +kernel
theorem dX4_setRange_23 : decode cX4_setRange 23 = .ok (.ior, 1) := by decide +kernel
theorem dX4_setRange_24 : decode cX4_setRange 24 = .ok (.putfield 9, 3) := by decide +kernel
theorem dX4_setRange_27 : decode cX4_setRange 27 = .ok (.aload_n 0, 1) := by decide +kernel
theorem dX4_setRange_28 : decode cX4_setRange 28 = .ok (.aload_n 0, 1) := by decide +kernel
theorem dX4_setRange_29 : decode cX4_setRange 29 = .ok (.getfield 16, 3) := by decide +kernel
theorem dX4_setRange_32 : decode cX4_setRange 32 = .ok (.bipush 31, 2) := by decide +kernel
theorem dX4_setRange_34 : decode cX4_setRange 34 = .ok (.iload 4, 2) := by decide +kernel
theorem dX4_setRange_36 : decode cX4_setRange 36 = .ok (.ishl, 1) := by decide +kernel
theorem dX4_setRange_37 : decode cX4_setRange 37 = .ok (.iconst (-1), 1) := by decide +kernel
theorem dX4_setRange_38 : decode cX4_setRange 38 = .ok (.ixor, 1) := by decide +kernel
theorem dX4_setRange_39 : decode cX4_setRange 39 = .ok (.iand, 1) := by decide +kernel
theorem dX4_setRange_40 : decode cX4_setRange 40 = .ok (.iload_n 3, 1) := by decide +kernel
theorem dX4_setRange_41 : decode cX4_setRange 41 = .ok (.iload 4, 2) := by decide +kernel
theorem dX4_setRange_43 : decode cX4_setRange 43 = .ok (.ishl, 1) := by decide +kernel
theorem dX4_setRange_44 : decode cX4_setRange 44 = .ok (.ior, 1) := by decide +kernel
theorem dX4_setRange_45 : decode cX4_setRange 45 = .ok (.putfield 16, 3) := by decide +kernel
theorem dX4_setRange_48 : decode cX4_setRange 48 = .ok (.return_, 1) := by decide +kernel
theorem dX4_admits_0 : decode cX4_admits 0 = .ok (.iload_n 1, 1) := by decide +kernel
theorem dX4_admits_1 : decode cX4_admits 1 = .ok (.ldc 31, 2) := by decide +kernel
theorem dX4_admits_3 : decode cX4_admits 3 = .ok (.ior, 1) := by decide +kernel
theorem dX4_admits_4 : decode cX4_admits 4 = .ok (.aload_n 0, 1) := by decide +kernel
theorem dX4_admits_5 : decode cX4_admits 5 = .ok (.getfield 9, 3) := by decide +kernel
theorem dX4_admits_8 : decode cX4_admits 8 = .ok (.isub, 1) := by decide +kernel
theorem dX4_admits_9 : decode cX4_admits 9 = .ok (.istore_n 2, 1) := by decide +kernel
theorem dX4_admits_10 : decode cX4_admits 10 = .ok (.aload_n 0, 1) := by decide +kernel
theorem dX4_admits_11 : decode cX4_admits 11 = .ok (.getfield 16, 3) := by decide +kernel
theorem dX4_admits_14 : decode cX4_admits 14 = .ok (.ldc 31, 2) := by decide +kernel
theorem dX4_admits_16 : decode cX4_admits 16 = .ok (.ior, 1) := by decide +kernel
theorem dX4_admits_17 : decode cX4_admits 17 = .ok (.iload_n 1, 1) := by decide +kernel
theorem dX4_admits_18 : decode cX4_admits 18 = .ok (.isub, 1) := by decide +kernel
theorem dX4_admits_19 : decode cX4_admits 19 = .ok (.istore_n 3, 1) := by decide +kernel
theorem dX4_admits_20 : decode cX4_admits 20 = .ok (.iload_n 2, 1) := by decide +kernel
theorem dX4_admits_21 : decode cX4_admits 21 = .ok (.iload_n 3, 1) := by decide +kernel
theorem dX4_admits_22 : decode cX4_admits 22 = .ok (.iand, 1) := by decide +kernel
theorem dX4_admits_23 : decode cX4_admits 23 = .ok (.ldc 31, 2) := by decide +kernel
theorem dX4_admits_25 : decode cX4_admits 25 = .ok (.iand, 1) := by decide +kernel
theorem dX4_admits_26 : decode cX4_admits 26 = .ok (.ldc 31, 2) := by decide +kernel
theorem dX4_admits_28 : decode cX4_admits 28 = .ok (.if_icmp .ne 7, 3) := by decide +kernel
theorem dX4_admits_31 : decode cX4_admits 31 = .ok (.iconst 1, 1) := by decide +kernel
theorem dX4_admits_32 : decode cX4_admits 32 = .ok (.goto 4, 3) := by decide +kernel
theorem dX4_admits_35 : decode cX4_admits 35 = .ok (.iconst 0, 1) := by decide +kernel
theorem dX4_admits_36 : decode cX4_admits 36 = .ok (.ireturn, 1) := by decide +kernel
theorem dX4_isOpen_0 : decode cX4_isOpen 0 = .ok (.aload_n 0, 1) := by decide +kernel
theorem dX4_isOpen_1 : decode cX4_isOpen 1 = .ok (.getfield 19, 3) := by decide +kernel
theorem dX4_isOpen_4 : decode cX4_isOpen 4 = .ok (.aload_n 1, 1) := by decide +kernel
theorem dX4_isOpen_5 : decode cX4_isOpen 5 = .ok (.getfield 32, 3) := by decide +kernel
theorem dX4_isOpen_8 : decode cX4_isOpen 8 = .ok (.if_icmp .eq 5, 3) := by decide +kernel
theorem dX4_isOpen_11 : decode cX4_isOpen 11 = .ok (.iconst 0, 1) := by decide +kernel
theorem dX4_isOpen_12 : decode cX4_isOpen 12 = .ok (.ireturn, 1) := by decide +kernel
theorem dX4_isOpen_13 : decode cX4_isOpen 13 = .ok (.aload_n 0, 1) := by decide +kernel
theorem dX4_isOpen_14 : decode cX4_isOpen 14 = .ok (.getfield 22, 3) := by decide +kernel
theorem dX4_isOpen_17 : decode cX4_isOpen 17 = .ok (.bipush 25, 2) := by decide +kernel
theorem dX4_isOpen_19 : decode cX4_isOpen 19 = .ok (.if_icmp .ne 18, 3) := by decide +kernel
theorem dX4_isOpen_22 : decode cX4_isOpen 22 = .ok (.aload_n 1, 1) := by decide +kernel
theorem dX4_isOpen_23 : decode cX4_isOpen 23 = .ok (.getfield 35, 3) := by decide +kernel
theorem dX4_isOpen_26 : decode cX4_isOpen 26 = .ok (.ifCond .ne 7, 3) := by decide +kernel
theorem dX4_isOpen_29 : decode cX4_isOpen 29 = .ok (.iconst 1, 1) := by decide +kernel
theorem dX4_isOpen_30 : decode cX4_isOpen 30 = .ok (.goto 23, 3) := by decide +kernel
theorem dX4_isOpen_33 : decode cX4_isOpen 33 = .ok (.iconst 0, 1) := by decide +kernel
theorem dX4_isOpen_34 : decode cX4_isOpen 34 = .ok (.goto 19, 3) := by decide +kernel
theorem dX4_isOpen_37 : decode cX4_isOpen 37 = .ok (.aload_n 0, 1) := by decide +kernel
theorem dX4_isOpen_38 : decode cX4_isOpen 38 = .ok (.getfield 22, 3) := by decide +kernel
theorem dX4_isOpen_41 : decode cX4_isOpen 41 = .ok (.aload_n 1, 1) := by decide +kernel
theorem dX4_isOpen_42 : decode cX4_isOpen 42 = .ok (.getfield 36, 3) := by decide +kernel
theorem dX4_isOpen_45 : decode cX4_isOpen 45 = .ok (.if_icmp .le 7, 3) := by decide +kernel
theorem dX4_isOpen_48 : decode cX4_isOpen 48 = .ok (.iconst 1, 1) := by decide +kernel
theorem dX4_isOpen_49 : decode cX4_isOpen 49 = .ok (.goto 4, 3) := by decide +kernel
theorem dX4_isOpen_52 : decode cX4_isOpen 52 = .ok (.iconst 0, 1) := by decide +kernel
theorem dX4_isOpen_53 : decode cX4_isOpen 53 = .ok (.ireturn, 1) := by decide +kernel
theorem dX6_init_0 : decode cX6_init 0 = .ok (.aload_n 0, 1) := by decide +kernel
theorem dX6_init_1 : decode cX6_init 1 = .ok (.invokespecial 3, 3) := by decide +kernel
theorem dX6_init_4 : decode cX6_init 4 = .ok (.aload_n 0, 1) := by decide +kernel
theorem dX6_init_5 : decode cX6_init 5 = .ok (.new 9, 3) := by decide +kernel
theorem dX6_init_8 : decode cX6_init 8 = .ok (.dup, 1) := by decide +kernel
theorem dX6_init_9 : decode cX6_init 9 = .ok (.invokespecial 11, 3) := by decide +kernel
theorem dX6_init_12 : decode cX6_init 12 = .ok (.putfield 12, 3) := by decide +kernel
theorem dX6_init_15 : decode cX6_init 15 = .ok (.aload_n 0, 1) := by decide +kernel
theorem dX6_init_16 : decode cX6_init 16 = .ok (.new 16, 3) := by decide +kernel
theorem dX6_init_19 : decode cX6_init 19 = .ok (.dup, 1) := by decide +kernel
theorem dX6_init_20 : decode cX6_init 20 = .ok (.invokespecial 18, 3) := by decide +kernel
theorem dX6_init_23 : decode cX6_init 23 = .ok (.putfield 19, 3) := by decide +kernel
theorem dX6_init_26 : decode cX6_init 26 = .ok (.aload_n 0, 1) := by decide +kernel
theorem dX6_init_27 : decode cX6_init 27 = .ok (.new 23, 3) := by decide +kernel
theorem dX6_init_30 : decode cX6_init 30 = .ok (.dup, 1) := by decide +kernel
theorem dX6_init_31 : decode cX6_init 31 = .ok (.invokespecial 25, 3) := by decide +kernel
theorem dX6_init_34 : decode cX6_init 34 = .ok (.putfield 26, 3) := by decide +kernel
theorem dX6_init_37 : decode cX6_init 37 = .ok (.aload_n 0, 1) := by decide +kernel
theorem dX6_init_38 : decode cX6_init 38 = .ok (.bipush 31, 2) := by decide +kernel
theorem dX6_init_40 : decode cX6_init 40 = .ok (.putfield 30, 3) := by decide +kernel
theorem dX6_init_43 : decode cX6_init 43 = .ok (.aload_n 0, 1) := by decide +kernel
theorem dX6_init_44 : decode cX6_init 44 = .ok (.sipush 992, 3) := by decide +kernel
theorem dX6_init_47 : decode cX6_init 47 = .ok (.putfield 34, 3) := by decide +kernel
theorem dX6_init_50 : decode cX6_init 50 = .ok (.return_, 1) := by decide +kernel
theorem dX6_rule_0 : decode cX6_rule 0 = .ok (.iload_n 1, 1) := by decide +kernel
theorem dX6_rule_1 : decode cX6_rule 1 = .ok (.invokestatic 37, 3) := by decide +kernel
theorem dX6_rule_4 : decode cX6_rule 4 = .ok (.ifCond .eq 25, 3) := by decide +kernel
theorem dX6_rule_7 : decode cX6_rule 7 = .ok (.iload_n 2, 1) := by decide +kernel
theorem dX6_rule_8 : decode cX6_rule 8 = .ok (.invokestatic 41, 3) := by decide +kernel
theorem dX6_rule_11 : decode cX6_rule 11 = .ok (.ifCond .eq 18, 3) := by decide +kernel
theorem dX6_rule_14 : decode cX6_rule 14 = .ok (.iload_n 3, 1) := by decide +kernel
theorem dX6_rule_15 : decode cX6_rule 15 = .ok (.invokestatic 37, 3) := by decide +kernel
theorem dX6_rule_18 : decode cX6_rule 18 = .ok (.ifCond .eq 11, 3) := by decide +kernel
theorem dX6_rule_21 : decode cX6_rule 21 = .ok (.iload 4, 2) := by decide +kernel
theorem dX6_rule_23 : decode cX6_rule 23 = .ok (.invokestatic 44, 3) := by decide +kernel
theorem dX6_rule_26 : decode cX6_rule 26 = .ok (.ifCond .ne 6, 3) := by decide +kernel
theorem dX6_rule_29 : decode cX6_rule 29 = .ok (.bipush (-2), 2) := by decide +kernel
theorem dX6_rule_31 : decode cX6_rule 31 = .ok (.ireturn, 1) := by decide +kernel
theorem dX6_rule_32 : decode cX6_rule 32 = .ok (.aload_n 0, 1) := by decide +kernel
theorem dX6_rule_33 : decode cX6_rule 33 = .ok (.new 47, 3) := by decide +kernel
theorem dX6_rule_36 : decode cX6_rule 36 = .ok (.dup, 1) := by decide +kernel
theorem dX6_rule_37 : decode cX6_rule 37 = .ok (.iload_n 1, 1) := by decide +kernel
theorem dX6_rule_38 : decode cX6_rule 38 = .ok (.iload_n 2, 1) := by decide +kernel
theorem dX6_rule_39 : decode cX6_rule 39 = .ok (.iload_n 3, 1) := by decide +kernel
theorem dX6_rule_40 : decode cX6_rule 40 = .ok (.iload 4, 2) := by decide +kernel
theorem dX6_rule_42 : decode cX6_rule 42 = .ok (.invokespecial 49, 3) := by decide +kernel
theorem dX6_rule_45 : decode cX6_rule 45 = .ok (.invokevirtual 52, 3) := by decide +kernel
theorem dX6_rule_48 : decode cX6_rule 48 = .ok (.ireturn, 1) := by decide +kernel
theorem dX6_limit_0 : decode cX6_limit 0 = .ok (.aload_n 0, 1) := by decide +kernel
theorem dX6_limit_1 : decode cX6_limit 1 = .ok (.iload_n 1, 1) := by decide +kernel
theorem dX6_limit_2 : decode cX6_limit 2 = .ok (.invokevirtual 56, 3) := by decide +kernel
theorem dX6_limit_5 : decode cX6_limit 5 = .ok (.ifCond .ne 5, 3) := by decide +kernel
theorem dX6_limit_8 : decode cX6_limit 8 = .ok (.iconst (-1), 1) := by decide +kernel
theorem dX6_limit_9 : decode cX6_limit 9 = .ok (.ireturn, 1) := by decide +kernel
theorem dX6_limit_10 : decode cX6_limit 10 = .ok (.iload_n 2, 1) := by decide +kernel
theorem dX6_limit_11 : decode cX6_limit 11 = .ok (.ifCond .lt 8, 3) := by decide +kernel
theorem dX6_limit_14 : decode cX6_limit 14 = .ok (.iload_n 2, 1) := by decide +kernel
theorem dX6_limit_15 : decode cX6_limit 15 = .ok (.iconst 5, 1) := by decide +kernel
theorem dX6_limit_16 : decode cX6_limit 16 = .ok (.if_icmp .lt 6, 3) := by decide +kernel
theorem dX6_limit_19 : decode cX6_limit 19 = .ok (.bipush (-2), 2) := by decide +kernel
theorem dX6_limit_21 : decode cX6_limit 21 = .ok (.ireturn, 1) := by decide +kernel
theorem dX6_limit_22 : decode cX6_limit 22 = .ok (.iload_n 3, 1) := by decide +kernel
theorem dX6_limit_23 : decode cX6_limit 23 = .ok (.ifCond .lt 18, 3) := by decide +kernel
theorem dX6_limit_26 : decode cX6_limit 26 = .ok (.iload 4, 2) := by decide +kernel
theorem dX6_limit_28 : decode cX6_limit 28 = .ok (.iload_n 3, 1) := by decide +kernel
theorem dX6_limit_29 : decode cX6_limit 29 = .ok (.if_icmp .lt 12, 3) := by decide +kernel
theorem dX6_limit_32 : decode cX6_limit 32 = .ok (.iload 4, 2) := by decide +kernel
theorem dX6_limit_34 : decode cX6_limit 34 = .ok (.iload_n 2, 1) := by decide +kernel
theorem dX6_limit_35 : decode cX6_limit 35 = .ok (.invokestatic 59, 3) := by decide +kernel
theorem dX6_limit_38 : decode cX6_limit 38 = .ok (.if_icmp .le 6, 3) := by decide +kernel
theorem dX6_limit_41 : decode cX6_limit 41 = .ok (.bipush (-2), 2) := by decide +kernel
theorem dX6_limit_43 : decode cX6_limit 43 = .ok (.ireturn, 1) := by decide +kernel
theorem dX6_limit_44 : decode cX6_limit 44 = .ok (.aload_n 0, 1) := by decide +kernel
theorem dX6_limit_45 : decode cX6_limit 45 = .ok (.getfield 12, 3) := by decide +kernel
theorem dX6_limit_48 : decode cX6_limit 48 = .ok (.iload_n 1, 1) := by decide +kernel
theorem dX6_limit_49 : decode cX6_limit 49 = .ok (.invokevirtual 65, 3) := by decide +kernel
theorem dX6_limit_52 : decode cX6_limit 52 = .ok (.checkcast 47, 3) := by decide +kernel
theorem dX6_limit_55 : decode cX6_limit 55 = .ok (.astore 5, 2) := by decide +kernel
theorem dX6_limit_57 : decode cX6_limit 57 = .ok (.aload 5, 2) := by decide +kernel
theorem dX6_limit_59 : decode cX6_limit 59 = .ok (.iload_n 2, 1) := by decide +kernel
theorem dX6_limit_60 : decode cX6_limit 60 = .ok (.iload_n 3, 1) := by decide +kernel
theorem dX6_limit_61 : decode cX6_limit 61 = .ok (.iload 4, 2) := by decide +kernel
theorem dX6_limit_63 : decode cX6_limit 63 = .ok (.invokevirtual 69, 3) := by decide +kernel
theorem dX6_limit_66 : decode cX6_limit 66 = .ok (.aload_n 0, 1) := by decide +kernel
theorem dX6_limit_67 : decode cX6_limit 67 = .ok (.getfield 19, 3) := by decide +kernel
theorem dX6_limit_70 : decode cX6_limit 70 = .ok (.invokevirtual 73, 3) := by decide +kernel
theorem dX6_limit_73 : decode cX6_limit 73 = .ok (.aload_n 0, 1) := by decide +kernel
theorem dX6_limit_74 : decode cX6_limit 74 = .ok (.aload 5, 2) := by decide +kernel
theorem dX6_limit_76 : decode cX6_limit 76 = .ok (.invokevirtual 76, 3) := by decide +kernel
theorem dX6_limit_79 : decode cX6_limit 79 = .ok (.ireturn, 1) := by decide +kernel
theorem dX6_draw_0 : decode cX6_draw 0 = .ok (.iload_n 1, 1) := by decide +kernel
theorem dX6_draw_1 : decode cX6_draw 1 = .ok (.ifCond .lt 9, 3) := by decide +kernel
theorem dX6_draw_4 : decode cX6_draw 4 = .ok (.iload_n 1, 1) := by decide +kernel
theorem dX6_draw_5 : decode cX6_draw 5 = .ok (.ldc 105, 2) := by decide +kernel
theorem dX6_draw_7 : decode cX6_draw 7 = .ok (.if_icmp .le 6, 3) := by decide +kernel
theorem dX6_draw_10 : decode cX6_draw 10 = .ok (.bipush (-2), 2) := by decide +kernel
theorem dX6_draw_12 : decode cX6_draw 12 = .ok (.ireturn, 1) := by decide +kernel
theorem dX6_draw_13 : decode cX6_draw 13 = .ok (.iload_n 1, 1) := by decide +kernel
theorem dX6_draw_14 : decode cX6_draw 14 = .ok (.istore_n 2, 1) := by decide +kernel
theorem dX6_draw_15 : decode cX6_draw 15 = .ok (.ldc 106, 2) := by decide +kernel
theorem dX6_draw_17 : decode cX6_draw 17 = .ok (.istore_n 3, 1) := by decide +kernel
theorem dX6_draw_18 : decode cX6_draw 18 = .ok (.iconst 0, 1) := by decide +kernel
theorem dX6_draw_19 : decode cX6_draw 19 = .ok (.istore 4, 2) := by decide +kernel
theorem dX6_draw_21 : decode cX6_draw 21 = .ok (.iconst 0, 1) := by decide +kernel
theorem dX6_draw_22 : decode cX6_draw 22 = .ok (.istore 5, 2) := by decide +kernel
theorem dX6_draw_24 : decode cX6_draw 24 = .ok (.iload 5, 2) := by decide +kernel
theorem dX6_draw_26 : decode cX6_draw 26 = .ok (.bipush 10, 2) := by decide +kernel
theorem dX6_draw_28 : decode cX6_draw 28 = .ok (.if_icmp .ge 48, 3) := by decide +kernel
theorem dX6_draw_31 : decode cX6_draw 31 = .ok (.iload_n 2, 1) := by decide +kernel
theorem dX6_draw_32 : decode cX6_draw 32 = .ok (.sipush 1103, 3) := by decide +kernel
theorem dX6_draw_35 : decode cX6_draw 35 = .ok (.imul, 1) := by decide +kernel
theorem dX6_draw_36 : decode cX6_draw 36 = .ok (.sipush 12345, 3) := by decide +kernel
theorem dX6_draw_39 : decode cX6_draw 39 = .ok (.iadd, 1) := by decide +kernel
theorem dX6_draw_40 : decode cX6_draw 40 = .ok (.ldc 107, 2) := by decide +kernel
theorem dX6_draw_42 : decode cX6_draw 42 = .ok (.irem, 1) := by decide +kernel
theorem dX6_draw_43 : decode cX6_draw 43 = .ok (.istore_n 2, 1) := by decide +kernel
theorem dX6_draw_44 : decode cX6_draw 44 = .ok (.iload_n 3, 1) := by decide +kernel
theorem dX6_draw_45 : decode cX6_draw 45 = .ok (.iload_n 3, 1) := by decide +kernel
theorem dX6_draw_46 : decode cX6_draw 46 = .ok (.iload_n 2, 1) := by decide +kernel
theorem dX6_draw_47 : decode cX6_draw 47 = .ok (.bipush 20, 2) := by decide +kernel
theorem dX6_draw_49 : decode cX6_draw 49 = .ok (.iload 5, 2) := by decide +kernel
theorem dX6_draw_51 : decode cX6_draw 51 = .ok (.isub, 1) := by decide +kernel
theorem dX6_draw_52 : decode cX6_draw 52 = .ok (.irem, 1) := by decide +kernel
theorem dX6_draw_53 : decode cX6_draw 53 = .ok (.invokestatic 108, 3) := by decide +kernel
theorem dX6_draw_56 : decode cX6_draw 56 = .ok (.isub, 1) := by decide +kernel
theorem dX6_draw_57 : decode cX6_draw 57 = .ok (.istore_n 3, 1) := by decide +kernel
theorem dX6_draw_58 : decode cX6_draw 58 = .ok (.iload 5, 2) := by decide +kernel
theorem dX6_draw_60 : decode cX6_draw 60 = .ok (.iconst 4, 1) := by decide +kernel
theorem dX6_draw_61 : decode cX6_draw 61 = .ok (.if_icmp .ne 9, 3) := by decide +kernel
theorem dX6_draw_64 : decode cX6_draw 64 = .ok (.ldc 106, 2) := by decide +kernel
theorem dX6_draw_66 : decode cX6_draw 66 = .ok (.iload_n 3, 1) := by decide +kernel
theorem dX6_draw_67 : decode cX6_draw 67 = .ok (.isub, 1) := by decide +kernel
theorem dX6_draw_68 : decode cX6_draw 68 = .ok (.istore 4, 2) := by decide +kernel
theorem dX6_draw_70 : decode cX6_draw 70 = .ok (.iinc 5 1, 3) := by decide +kernel
theorem dX6_draw_73 : decode cX6_draw 73 = .ok (.goto (-49), 3) := by decide +kernel
theorem dX6_draw_76 : decode cX6_draw 76 = .ok (.aload_n 0, 1) := by decide +kernel
theorem dX6_draw_77 : decode cX6_draw 77 = .ok (.iload 4, 2) := by decide +kernel
theorem dX6_draw_79 : decode cX6_draw 79 = .ok (.putfield 30, 3) := by decide +kernel
theorem dX6_draw_82 : decode cX6_draw 82 = .ok (.aload_n 0, 1) := by decide +kernel
theorem dX6_draw_83 : decode cX6_draw 83 = .ok (.ldc 106, 2) := by decide +kernel
theorem dX6_draw_85 : decode cX6_draw 85 = .ok (.iload_n 3, 1) := by decide +kernel
theorem dX6_draw_86 : decode cX6_draw 86 = .ok (.isub, 1) := by decide +kernel
theorem dX6_draw_87 : decode cX6_draw 87 = .ok (.iload 4, 2) := by decide +kernel
theorem dX6_draw_89 : decode cX6_draw 89 = .ok (.isub, 1) := by decide +kernel
theorem dX6_draw_90 : decode cX6_draw 90 = .ok (.putfield 34, 3) := by decide +kernel
theorem dX6_draw_93 : decode cX6_draw 93 = .ok (.aload_n 0, 1) := by decide +kernel
theorem dX6_draw_94 : decode cX6_draw 94 = .ok (.getfield 19, 3) := by decide +kernel
theorem dX6_draw_97 : decode cX6_draw 97 = .ok (.invokevirtual 73, 3) := by decide +kernel
theorem dX6_draw_100 : decode cX6_draw 100 = .ok (.iload 4, 2) := by decide +kernel
theorem dX6_draw_102 : decode cX6_draw 102 = .ok (.ireturn, 1) := by decide +kernel
theorem dX6_hand_0 : decode cX6_hand 0 = .ok (.iload_n 1, 1) := by decide +kernel
theorem dX6_hand_1 : decode cX6_hand 1 = .ok (.invokestatic 96, 3) := by decide +kernel
theorem dX6_hand_4 : decode cX6_hand 4 = .ok (.ifCond .ne 5, 3) := by decide +kernel
theorem dX6_hand_7 : decode cX6_hand 7 = .ok (.iconst (-1), 1) := by decide +kernel
theorem dX6_hand_8 : decode cX6_hand 8 = .ok (.ireturn, 1) := by decide +kernel
theorem dX6_hand_9 : decode cX6_hand 9 = .ok (.iload_n 2, 1) := by decide +kernel
theorem dX6_hand_10 : decode cX6_hand 10 = .ok (.ifCond .lt 8, 3) := by decide +kernel
theorem dX6_hand_13 : decode cX6_hand 13 = .ok (.iload_n 2, 1) := by decide +kernel
theorem dX6_hand_14 : decode cX6_hand 14 = .ok (.iconst 5, 1) := by decide +kernel
theorem dX6_hand_15 : decode cX6_hand 15 = .ok (.if_icmp .le 6, 3) := by decide +kernel
theorem dX6_hand_18 : decode cX6_hand 18 = .ok (.bipush (-2), 2) := by decide +kernel
theorem dX6_hand_20 : decode cX6_hand 20 = .ok (.ireturn, 1) := by decide +kernel
theorem dX6_hand_21 : decode cX6_hand 21 = .ok (.iload_n 2, 1) := by decide +kernel
theorem dX6_hand_22 : decode cX6_hand 22 = .ok (.ifCond .ne 11, 3) := by decide +kernel
theorem dX6_hand_25 : decode cX6_hand 25 = .ok (.aload_n 0, 1) := by decide +kernel
theorem dX6_hand_26 : decode cX6_hand 26 = .ok (.iload_n 1, 1) := by decide +kernel
theorem dX6_hand_27 : decode cX6_hand 27 = .ok (.invokevirtual 102, 3) := by decide +kernel
theorem dX6_hand_30 : decode cX6_hand 30 = .ok (.goto 14, 3) := by decide +kernel
theorem dX6_hand_33 : decode cX6_hand 33 = .ok (.aload_n 0, 1) := by decide +kernel
theorem dX6_hand_34 : decode cX6_hand 34 = .ok (.iload_n 1, 1) := by decide +kernel
theorem dX6_hand_35 : decode cX6_hand 35 = .ok (.invokevirtual 102, 3) := by decide +kernel
theorem dX6_hand_38 : decode cX6_hand 38 = .ok (.iload_n 2, 1) := by decide +kernel
theorem dX6_hand_39 : decode cX6_hand 39 = .ok (.iconst 1, 1) := by decide +kernel
theorem dX6_hand_40 : decode cX6_hand 40 = .ok (.isub, 1) := by decide +kernel
theorem dX6_hand_41 : decode cX6_hand 41 = .ok (.invokestatic 112, 3) := by decide +kernel
theorem dX6_hand_44 : decode cX6_hand 44 = .ok (.ireturn, 1) := by decide +kernel
theorem dX6_call_0 : decode cX6_call 0 = .ok (.aload_n 0, 1) := by decide +kernel
theorem dX6_call_1 : decode cX6_call 1 = .ok (.getfield 19, 3) := by decide +kernel
theorem dX6_call_4 : decode cX6_call 4 = .ok (.invokevirtual 118, 3) := by decide +kernel
theorem dX6_call_7 : decode cX6_call 7 = .ok (.ifCond .eq 6, 3) := by decide +kernel
theorem dX6_call_10 : decode cX6_call 10 = .ok (.bipush (-5), 2) := by decide +kernel
theorem dX6_call_12 : decode cX6_call 12 = .ok (.ireturn, 1) := by decide +kernel
theorem dX6_call_13 : decode cX6_call 13 = .ok (.aload_n 0, 1) := by decide +kernel
theorem dX6_call_14 : decode cX6_call 14 = .ok (.aload_n 0, 1) := by decide +kernel
theorem dX6_call_15 : decode cX6_call 15 = .ok (.getfield 19, 3) := by decide +kernel
theorem dX6_call_18 : decode cX6_call 18 = .ok (.getfield 122, 3) := by decide +kernel
theorem dX6_call_21 : decode cX6_call 21 = .ok (.aload_n 0, 1) := by decide +kernel
theorem dX6_call_22 : decode cX6_call 22 = .ok (.aload_n 0, 1) := by decide +kernel
theorem dX6_call_23 : decode cX6_call 23 = .ok (.getfield 19, 3) := by decide +kernel
theorem dX6_call_26 : decode cX6_call 26 = .ok (.invokevirtual 126, 3) := by decide +kernel
theorem dX6_call_29 : decode cX6_call 29 = .ok (.invokevirtual 102, 3) := by decide +kernel
theorem dX6_call_32 : decode cX6_call 32 = .ok (.invokestatic 129, 3) := by decide +kernel
theorem dX6_call_35 : decode cX6_call 35 = .ok (.invokevirtual 132, 3) := by decide +kernel
theorem dX6_call_38 : decode cX6_call 38 = .ok (.istore_n 1, 1) := by decide +kernel
theorem dX6_call_39 : decode cX6_call 39 = .ok (.aload_n 0, 1) := by decide +kernel
theorem dX6_call_40 : decode cX6_call 40 = .ok (.iload_n 1, 1) := by decide +kernel
theorem dX6_call_41 : decode cX6_call 41 = .ok (.invokevirtual 56, 3) := by decide +kernel
theorem dX6_call_44 : decode cX6_call 44 = .ok (.ifCond .ne 14, 3) := by decide +kernel
theorem dX6_call_47 : decode cX6_call 47 = .ok (.aload_n 0, 1) := by decide +kernel
theorem dX6_call_48 : decode cX6_call 48 = .ok (.getfield 19, 3) := by decide +kernel
theorem dX6_call_51 : decode cX6_call 51 = .ok (.iconst 1, 1) := by decide +kernel
theorem dX6_call_52 : decode cX6_call 52 = .ok (.putfield 136, 3) := by decide +kernel
theorem dX6_call_55 : decode cX6_call 55 = .ok (.bipush (-6), 2) := by decide +kernel
theorem dX6_call_57 : decode cX6_call 57 = .ok (.ireturn, 1) := by decide +kernel
theorem dX6_call_58 : decode cX6_call 58 = .ok (.aload_n 0, 1) := by decide +kernel
theorem dX6_call_59 : decode cX6_call 59 = .ok (.getfield 12, 3) := by decide +kernel
theorem dX6_call_62 : decode cX6_call 62 = .ok (.iload_n 1, 1) := by decide +kernel
theorem dX6_call_63 : decode cX6_call 63 = .ok (.invokevirtual 65, 3) := by decide +kernel
theorem dX6_call_66 : decode cX6_call 66 = .ok (.checkcast 47, 3) := by decide +kernel
theorem dX6_call_69 : decode cX6_call 69 = .ok (.astore_n 2, 1) := by decide +kernel
theorem dX6_call_70 : decode cX6_call 70 = .ok (.aload_n 0, 1) := by decide +kernel
theorem dX6_call_71 : decode cX6_call 71 = .ok (.getfield 19, 3) := by decide +kernel
theorem dX6_call_74 : decode cX6_call 74 = .ok (.aload_n 2, 1) := by decide +kernel
theorem dX6_call_75 : decode cX6_call 75 = .ok (.iload_n 1, 1) := by decide +kernel
theorem dX6_call_76 : decode cX6_call 76 = .ok (.invokevirtual 140, 3) := by decide +kernel
theorem dX6_call_79 : decode cX6_call 79 = .ok (.aload_n 2, 1) := by decide +kernel
theorem dX6_call_80 : decode cX6_call 80 = .ok (.getfield 90, 3) := by decide +kernel
theorem dX6_call_83 : decode cX6_call 83 = .ok (.ireturn, 1) := by decide +kernel
theorem dX6_back_0 : decode cX6_back 0 = .ok (.aload_n 0, 1) := by decide +kernel
theorem dX6_back_1 : decode cX6_back 1 = .ok (.getfield 19, 3) := by decide +kernel
theorem dX6_back_4 : decode cX6_back 4 = .ok (.invokevirtual 146, 3) := by decide +kernel
theorem dX6_back_7 : decode cX6_back 7 = .ok (.ifCond .ne 6, 3) := by decide +kernel
theorem dX6_back_10 : decode cX6_back 10 = .ok (.bipush (-5), 2) := by decide +kernel
theorem dX6_back_12 : decode cX6_back 12 = .ok (.ireturn, 1) := by decide +kernel
theorem dX6_back_13 : decode cX6_back 13 = .ok (.aload_n 0, 1) := by decide +kernel
theorem dX6_back_14 : decode cX6_back 14 = .ok (.getfield 19, 3) := by decide +kernel
theorem dX6_back_17 : decode cX6_back 17 = .ok (.getfield 115, 3) := by decide +kernel
theorem dX6_back_20 : decode cX6_back 20 = .ok (.invokevirtual 82, 3) := by decide +kernel
theorem dX6_back_23 : decode cX6_back 23 = .ok (.ireturn, 1) := by decide +kernel
theorem dX6_made_0 : decode cX6_made 0 = .ok (.iload_n 2, 1) := by decide +kernel
theorem dX6_made_1 : decode cX6_made 1 = .ok (.ifCond .lt 8, 3) := by decide +kernel
theorem dX6_made_4 : decode cX6_made 4 = .ok (.iload_n 2, 1) := by decide +kernel
theorem dX6_made_5 : decode cX6_made 5 = .ok (.iconst 3, 1) := by decide +kernel
theorem dX6_made_6 : decode cX6_made 6 = .ok (.if_icmp .le 6, 3) := by decide +kernel
theorem dX6_made_9 : decode cX6_made 9 = .ok (.bipush (-2), 2) := by decide +kernel
theorem dX6_made_11 : decode cX6_made 11 = .ok (.ireturn, 1) := by decide +kernel
theorem dX6_made_12 : decode cX6_made 12 = .ok (.iload_n 1, 1) := by decide +kernel
theorem dX6_made_13 : decode cX6_made 13 = .ok (.ifCond .lt 17, 3) := by decide +kernel
theorem dX6_made_16 : decode cX6_made 16 = .ok (.iload_n 1, 1) := by decide +kernel
theorem dX6_made_17 : decode cX6_made 17 = .ok (.aload_n 0, 1) := by decide +kernel
theorem dX6_made_18 : decode cX6_made 18 = .ok (.getfield 19, 3) := by decide +kernel
theorem dX6_made_21 : decode cX6_made 21 = .ok (.getfield 115, 3) := by decide +kernel
theorem dX6_made_24 : decode cX6_made 24 = .ok (.invokevirtual 82, 3) := by decide +kernel
theorem dX6_made_27 : decode cX6_made 27 = .ok (.if_icmp .lt 6, 3) := by decide +kernel
theorem dX6_made_30 : decode cX6_made 30 = .ok (.bipush (-6), 2) := by decide +kernel
theorem dX6_made_32 : decode cX6_made 32 = .ok (.ireturn, 1) := by decide +kernel
theorem dX6_made_33 : decode cX6_made 33 = .ok (.aload_n 0, 1) := by decide +kernel
theorem dX6_made_34 : decode cX6_made 34 = .ok (.getfield 19, 3) := by decide +kernel
theorem dX6_made_37 : decode cX6_made 37 = .ok (.getfield 115, 3) := by decide +kernel
theorem dX6_made_40 : decode cX6_made 40 = .ok (.iload_n 1, 1) := by decide +kernel
theorem dX6_made_41 : decode cX6_made 41 = .ok (.invokevirtual 65, 3) := by decide +kernel
theorem dX6_made_44 : decode cX6_made 44 = .ok (.checkcast 149, 3) := by decide +kernel
theorem dX6_made_47 : decode cX6_made 47 = .ok (.iload_n 2, 1) := by decide +kernel
theorem dX6_made_48 : decode cX6_made 48 = .ok (.invokevirtual 151, 3) := by decide +kernel
theorem dX6_made_51 : decode cX6_made 51 = .ok (.ireturn, 1) := by decide +kernel
theorem dX6_state_0 : decode cX6_state 0 = .ok (.iload_n 1, 1) := by decide +kernel
theorem dX6_state_1 : decode cX6_state 1 = .ok (.tableswitch 123 0 7 #[47, 58, 69, 80, 91, 99, 107, 115], 47) := by decide +kernel
theorem dX6_state_48 : decode cX6_state 48 = .ok (.aload_n 0, 1) := by decide +kernel
theorem dX6_state_49 : decode cX6_state 49 = .ok (.getfield 19, 3) := by decide +kernel
theorem dX6_state_52 : decode cX6_state 52 = .ok (.getfield 115, 3) := by decide +kernel
theorem dX6_state_55 : decode cX6_state 55 = .ok (.invokevirtual 82, 3) := by decide +kernel
theorem dX6_state_58 : decode cX6_state 58 = .ok (.ireturn, 1) := by decide +kernel
theorem dX6_state_59 : decode cX6_state 59 = .ok (.aload_n 0, 1) := by decide +kernel
theorem dX6_state_60 : decode cX6_state 60 = .ok (.getfield 19, 3) := by decide +kernel
theorem dX6_state_63 : decode cX6_state 63 = .ok (.getfield 122, 3) := by decide +kernel
theorem dX6_state_66 : decode cX6_state 66 = .ok (.getfield 152, 3) := by decide +kernel
theorem dX6_state_69 : decode cX6_state 69 = .ok (.ireturn, 1) := by decide +kernel
theorem dX6_state_70 : decode cX6_state 70 = .ok (.aload_n 0, 1) := by decide +kernel
theorem dX6_state_71 : decode cX6_state 71 = .ok (.getfield 19, 3) := by decide +kernel
theorem dX6_state_74 : decode cX6_state 74 = .ok (.getfield 122, 3) := by decide +kernel
theorem dX6_state_77 : decode cX6_state 77 = .ok (.getfield 157, 3) := by decide +kernel
theorem dX6_state_80 : decode cX6_state 80 = .ok (.ireturn, 1) := by decide +kernel
theorem dX6_state_81 : decode cX6_state 81 = .ok (.aload_n 0, 1) := by decide +kernel
theorem dX6_state_82 : decode cX6_state 82 = .ok (.getfield 19, 3) := by decide +kernel
theorem dX6_state_85 : decode cX6_state 85 = .ok (.getfield 122, 3) := by decide +kernel
theorem dX6_state_88 : decode cX6_state 88 = .ok (.getfield 160, 3) := by decide +kernel
theorem dX6_state_91 : decode cX6_state 91 = .ok (.ireturn, 1) := by decide +kernel
theorem dX6_state_92 : decode cX6_state 92 = .ok (.aload_n 0, 1) := by decide +kernel
theorem dX6_state_93 : decode cX6_state 93 = .ok (.getfield 19, 3) := by decide +kernel
theorem dX6_state_96 : decode cX6_state 96 = .ok (.invokevirtual 126, 3) := by decide +kernel
theorem dX6_state_99 : decode cX6_state 99 = .ok (.ireturn, 1) := by decide +kernel
theorem dX6_state_100 : decode cX6_state 100 = .ok (.aload_n 0, 1) := by decide +kernel
theorem dX6_state_101 : decode cX6_state 101 = .ok (.getfield 19, 3) := by decide +kernel
theorem dX6_state_104 : decode cX6_state 104 = .ok (.invokevirtual 163, 3) := by decide +kernel
theorem dX6_state_107 : decode cX6_state 107 = .ok (.ireturn, 1) := by decide +kernel
theorem dX6_state_108 : decode cX6_state 108 = .ok (.aload_n 0, 1) := by decide +kernel
theorem dX6_state_109 : decode cX6_state 109 = .ok (.getfield 12, 3) := by decide +kernel
theorem dX6_state_112 : decode cX6_state 112 = .ok (.invokevirtual 82, 3) := by decide +kernel
theorem dX6_state_115 : decode cX6_state 115 = .ok (.ireturn, 1) := by decide +kernel
theorem dX6_state_116 : decode cX6_state 116 = .ok (.aload_n 0, 1) := by decide +kernel
theorem dX6_state_117 : decode cX6_state 117 = .ok (.getfield 26, 3) := by decide +kernel
theorem dX6_state_120 : decode cX6_state 120 = .ok (.invokevirtual 166, 3) := by decide +kernel
theorem dX6_state_123 : decode cX6_state 123 = .ok (.ireturn, 1) := by decide +kernel
theorem dX6_state_124 : decode cX6_state 124 = .ok (.bipush (-2), 2) := by decide +kernel
theorem dX6_state_126 : decode cX6_state 126 = .ok (.ireturn, 1) := by decide +kernel
theorem dX6_hands_0 : decode cX6_hands 0 = .ok (.iload_n 1, 1) := by decide +kernel
theorem dX6_hands_1 : decode cX6_hands 1 = .ok (.invokestatic 96, 3) := by decide +kernel
theorem dX6_hands_4 : decode cX6_hands 4 = .ok (.ifCond .ne 5, 3) := by decide +kernel
theorem dX6_hands_7 : decode cX6_hands 7 = .ok (.iconst (-1), 1) := by decide +kernel
theorem dX6_hands_8 : decode cX6_hands 8 = .ok (.ireturn, 1) := by decide +kernel
theorem dX6_hands_9 : decode cX6_hands 9 = .ok (.iload_n 2, 1) := by decide +kernel
theorem dX6_hands_10 : decode cX6_hands 10 = .ok (.invokestatic 169, 3) := by decide +kernel
theorem dX6_hands_13 : decode cX6_hands 13 = .ok (.ifCond .ne 6, 3) := by decide +kernel
theorem dX6_hands_16 : decode cX6_hands 16 = .ok (.bipush (-2), 2) := by decide +kernel
theorem dX6_hands_18 : decode cX6_hands 18 = .ok (.ireturn, 1) := by decide +kernel
theorem dX6_hands_19 : decode cX6_hands 19 = .ok (.aload_n 0, 1) := by decide +kernel
theorem dX6_hands_20 : decode cX6_hands 20 = .ok (.iload_n 1, 1) := by decide +kernel
theorem dX6_hands_21 : decode cX6_hands 21 = .ok (.iload_n 2, 1) := by decide +kernel
theorem dX6_hands_22 : decode cX6_hands 22 = .ok (.invokevirtual 172, 3) := by decide +kernel
theorem dX6_hands_25 : decode cX6_hands 25 = .ok (.ireturn, 1) := by decide +kernel
theorem dX6_shown_0 : decode cX6_shown 0 = .ok (.iload_n 1, 1) := by decide +kernel
theorem dX6_shown_1 : decode cX6_shown 1 = .ok (.invokestatic 96, 3) := by decide +kernel
theorem dX6_shown_4 : decode cX6_shown 4 = .ok (.ifCond .ne 5, 3) := by decide +kernel
theorem dX6_shown_7 : decode cX6_shown 7 = .ok (.iconst (-1), 1) := by decide +kernel
theorem dX6_shown_8 : decode cX6_shown 8 = .ok (.ireturn, 1) := by decide +kernel
theorem dX6_shown_9 : decode cX6_shown 9 = .ok (.iload_n 2, 1) := by decide +kernel
theorem dX6_shown_10 : decode cX6_shown 10 = .ok (.invokestatic 169, 3) := by decide +kernel
theorem dX6_shown_13 : decode cX6_shown 13 = .ok (.ifCond .eq 13, 3) := by decide +kernel
theorem dX6_shown_16 : decode cX6_shown 16 = .ok (.iload_n 3, 1) := by decide +kernel
theorem dX6_shown_17 : decode cX6_shown 17 = .ok (.ifCond .lt 9, 3) := by decide +kernel
theorem dX6_shown_20 : decode cX6_shown 20 = .ok (.iload_n 3, 1) := by decide +kernel
theorem dX6_shown_21 : decode cX6_shown 21 = .ok (.bipush 11, 2) := by decide +kernel
theorem dX6_shown_23 : decode cX6_shown 23 = .ok (.if_icmp .le 6, 3) := by decide +kernel
theorem dX6_shown_26 : decode cX6_shown 26 = .ok (.bipush (-2), 2) := by decide +kernel
theorem dX6_shown_28 : decode cX6_shown 28 = .ok (.ireturn, 1) := by decide +kernel
theorem dX6_shown_29 : decode cX6_shown 29 = .ok (.bipush (-6), 2) := by decide +kernel
theorem dX6_shown_31 : decode cX6_shown 31 = .ok (.istore 4, 2) := by decide +kernel
theorem dX6_shown_33 : decode cX6_shown 33 = .ok (.iconst 0, 1) := by decide +kernel
theorem dX6_shown_34 : decode cX6_shown 34 = .ok (.istore 5, 2) := by decide +kernel
theorem dX6_shown_36 : decode cX6_shown 36 = .ok (.bipush 31, 2) := by decide +kernel
theorem dX6_shown_38 : decode cX6_shown 38 = .ok (.istore 6, 2) := by decide +kernel
theorem dX6_shown_40 : decode cX6_shown 40 = .ok (.iload 5, 2) := by decide +kernel
theorem dX6_shown_42 : decode cX6_shown 42 = .ok (.sipush 15504, 3) := by decide +kernel
theorem dX6_shown_45 : decode cX6_shown 45 = .ok (.if_icmp .ge 57, 3) := by decide +kernel
theorem dX6_shown_48 : decode cX6_shown 48 = .ok (.aload_n 0, 1) := by decide +kernel
theorem dX6_shown_49 : decode cX6_shown 49 = .ok (.iload_n 1, 1) := by decide +kernel
theorem dX6_shown_50 : decode cX6_shown 50 = .ok (.iload_n 2, 1) := by decide +kernel
theorem dX6_shown_51 : decode cX6_shown 51 = .ok (.iload 6, 2) := by decide +kernel
theorem dX6_shown_53 : decode cX6_shown 53 = .ok (.invokevirtual 175, 3) := by decide +kernel
theorem dX6_shown_56 : decode cX6_shown 56 = .ok (.ifCond .eq 33, 3) := by decide +kernel
theorem dX6_shown_59 : decode cX6_shown 59 = .ok (.iload 6, 2) := by decide +kernel
theorem dX6_shown_61 : decode cX6_shown 61 = .ok (.iload_n 3, 1) := by decide +kernel
theorem dX6_shown_62 : decode cX6_shown 62 = .ok (.invokestatic 179, 3) := by decide +kernel
theorem dX6_shown_65 : decode cX6_shown 65 = .ok (.istore 7, 2) := by decide +kernel
theorem dX6_shown_67 : decode cX6_shown 67 = .ok (.iload 4, 2) := by decide +kernel
theorem dX6_shown_69 : decode cX6_shown 69 = .ok (.bipush (-6), 2) := by decide +kernel
theorem dX6_shown_71 : decode cX6_shown 71 = .ok (.if_icmp .ne 8, 3) := by decide +kernel
theorem dX6_shown_74 : decode cX6_shown 74 = .ok (.iload 7, 2) := by decide +kernel
theorem dX6_shown_76 : decode cX6_shown 76 = .ok (.goto 11, 3) := by decide +kernel
theorem dX6_shown_79 : decode cX6_shown 79 = .ok (.iload 4, 2) := by decide +kernel
theorem dX6_shown_81 : decode cX6_shown 81 = .ok (.iload 7, 2) := by decide +kernel
theorem dX6_shown_83 : decode cX6_shown 83 = .ok (.iload_n 3, 1) := by decide +kernel
theorem dX6_shown_84 : decode cX6_shown 84 = .ok (.invokestatic 182, 3) := by decide +kernel
theorem dX6_shown_87 : decode cX6_shown 87 = .ok (.istore 4, 2) := by decide +kernel
theorem dX6_shown_89 : decode cX6_shown 89 = .ok (.iinc 5 1, 3) := by decide +kernel
theorem dX6_shown_92 : decode cX6_shown 92 = .ok (.iload 6, 2) := by decide +kernel
theorem dX6_shown_94 : decode cX6_shown 94 = .ok (.invokestatic 186, 3) := by decide +kernel
theorem dX6_shown_97 : decode cX6_shown 97 = .ok (.istore 6, 2) := by decide +kernel
theorem dX6_shown_99 : decode cX6_shown 99 = .ok (.goto (-59), 3) := by decide +kernel
theorem dX6_shown_102 : decode cX6_shown 102 = .ok (.iload 4, 2) := by decide +kernel
theorem dX6_shown_104 : decode cX6_shown 104 = .ok (.ireturn, 1) := by decide +kernel
theorem dX6_fits_0 : decode cX6_fits 0 = .ok (.iload_n 1, 1) := by decide +kernel
theorem dX6_fits_1 : decode cX6_fits 1 = .ok (.invokestatic 96, 3) := by decide +kernel
theorem dX6_fits_4 : decode cX6_fits 4 = .ok (.ifCond .ne 5, 3) := by decide +kernel
theorem dX6_fits_7 : decode cX6_fits 7 = .ok (.iconst (-1), 1) := by decide +kernel
theorem dX6_fits_8 : decode cX6_fits 8 = .ok (.ireturn, 1) := by decide +kernel
theorem dX6_fits_9 : decode cX6_fits 9 = .ok (.iload_n 2, 1) := by decide +kernel
theorem dX6_fits_10 : decode cX6_fits 10 = .ok (.invokestatic 99, 3) := by decide +kernel
theorem dX6_fits_13 : decode cX6_fits 13 = .ok (.ifCond .ne 6, 3) := by decide +kernel
theorem dX6_fits_16 : decode cX6_fits 16 = .ok (.bipush (-2), 2) := by decide +kernel
theorem dX6_fits_18 : decode cX6_fits 18 = .ok (.ireturn, 1) := by decide +kernel
theorem dX6_fits_19 : decode cX6_fits 19 = .ok (.aload_n 0, 1) := by decide +kernel
theorem dX6_fits_20 : decode cX6_fits 20 = .ok (.iload_n 1, 1) := by decide +kernel
theorem dX6_fits_21 : decode cX6_fits 21 = .ok (.iload_n 2, 1) := by decide +kernel
theorem dX6_fits_22 : decode cX6_fits 22 = .ok (.invokevirtual 189, 3) := by decide +kernel
theorem dX6_fits_25 : decode cX6_fits 25 = .ok (.ifCond .eq 7, 3) := by decide +kernel
theorem dX6_fits_28 : decode cX6_fits 28 = .ok (.iconst 1, 1) := by decide +kernel
theorem dX6_fits_29 : decode cX6_fits 29 = .ok (.goto 4, 3) := by decide +kernel
theorem dX6_fits_32 : decode cX6_fits 32 = .ok (.iconst 0, 1) := by decide +kernel
theorem dX6_fits_33 : decode cX6_fits 33 = .ok (.ireturn, 1) := by decide +kernel
theorem dX6_ruleOf_0 : decode cX6_ruleOf 0 = .ok (.iload_n 1, 1) := by decide +kernel
theorem dX6_ruleOf_1 : decode cX6_ruleOf 1 = .ok (.invokestatic 99, 3) := by decide +kernel
theorem dX6_ruleOf_4 : decode cX6_ruleOf 4 = .ok (.ifCond .ne 6, 3) := by decide +kernel
theorem dX6_ruleOf_7 : decode cX6_ruleOf 7 = .ok (.bipush (-2), 2) := by decide +kernel
theorem dX6_ruleOf_9 : decode cX6_ruleOf 9 = .ok (.ireturn, 1) := by decide +kernel
theorem dX6_ruleOf_10 : decode cX6_ruleOf 10 = .ok (.aload_n 0, 1) := by decide +kernel
theorem dX6_ruleOf_11 : decode cX6_ruleOf 11 = .ok (.getfield 19, 3) := by decide +kernel
theorem dX6_ruleOf_14 : decode cX6_ruleOf 14 = .ok (.invokevirtual 118, 3) := by decide +kernel
theorem dX6_ruleOf_17 : decode cX6_ruleOf 17 = .ok (.ifCond .eq 6, 3) := by decide +kernel
theorem dX6_ruleOf_20 : decode cX6_ruleOf 20 = .ok (.bipush (-5), 2) := by decide +kernel
theorem dX6_ruleOf_22 : decode cX6_ruleOf 22 = .ok (.ireturn, 1) := by decide +kernel
theorem dX6_ruleOf_23 : decode cX6_ruleOf 23 = .ok (.aload_n 0, 1) := by decide +kernel
theorem dX6_ruleOf_24 : decode cX6_ruleOf 24 = .ok (.aload_n 0, 1) := by decide +kernel
theorem dX6_ruleOf_25 : decode cX6_ruleOf 25 = .ok (.getfield 19, 3) := by decide +kernel
theorem dX6_ruleOf_28 : decode cX6_ruleOf 28 = .ok (.getfield 122, 3) := by decide +kernel
theorem dX6_ruleOf_31 : decode cX6_ruleOf 31 = .ok (.iload_n 1, 1) := by decide +kernel
theorem dX6_ruleOf_32 : decode cX6_ruleOf 32 = .ok (.invokestatic 129, 3) := by decide +kernel
theorem dX6_ruleOf_35 : decode cX6_ruleOf 35 = .ok (.invokevirtual 132, 3) := by decide +kernel
theorem dX6_ruleOf_38 : decode cX6_ruleOf 38 = .ok (.ireturn, 1) := by decide +kernel
theorem dX6_tricks_0 : decode cX6_tricks 0 = .ok (.iload_n 1, 1) := by decide +kernel
theorem dX6_tricks_1 : decode cX6_tricks 1 = .ok (.invokestatic 199, 3) := by decide +kernel
theorem dX6_tricks_4 : decode cX6_tricks 4 = .ok (.ifCond .eq 23, 3) := by decide +kernel
theorem dX6_tricks_7 : decode cX6_tricks 7 = .ok (.iload_n 2, 1) := by decide +kernel
theorem dX6_tricks_8 : decode cX6_tricks 8 = .ok (.invokestatic 99, 3) := by decide +kernel
theorem dX6_tricks_11 : decode cX6_tricks 11 = .ok (.ifCond .eq 16, 3) := by decide +kernel
theorem dX6_tricks_14 : decode cX6_tricks 14 = .ok (.iload_n 3, 1) := by decide +kernel
theorem dX6_tricks_15 : decode cX6_tricks 15 = .ok (.invokestatic 99, 3) := by decide +kernel
theorem dX6_tricks_18 : decode cX6_tricks 18 = .ok (.ifCond .eq 9, 3) := by decide +kernel
theorem dX6_tricks_21 : decode cX6_tricks 21 = .ok (.iload_n 2, 1) := by decide +kernel
theorem dX6_tricks_22 : decode cX6_tricks 22 = .ok (.iload_n 3, 1) := by decide +kernel
theorem dX6_tricks_23 : decode cX6_tricks 23 = .ok (.iand, 1) := by decide +kernel
theorem dX6_tricks_24 : decode cX6_tricks 24 = .ok (.ifCond .eq 6, 3) := by decide +kernel
theorem dX6_tricks_27 : decode cX6_tricks 27 = .ok (.bipush (-2), 2) := by decide +kernel
theorem dX6_tricks_29 : decode cX6_tricks 29 = .ok (.ireturn, 1) := by decide +kernel
theorem dX6_tricks_30 : decode cX6_tricks 30 = .ok (.iload_n 1, 1) := by decide +kernel
theorem dX6_tricks_31 : decode cX6_tricks 31 = .ok (.iload_n 2, 1) := by decide +kernel
theorem dX6_tricks_32 : decode cX6_tricks 32 = .ok (.iload_n 3, 1) := by decide +kernel
theorem dX6_tricks_33 : decode cX6_tricks 33 = .ok (.invokestatic 202, 3) := by decide +kernel
theorem dX6_tricks_36 : decode cX6_tricks 36 = .ok (.ireturn, 1) := by decide +kernel
theorem dX6_expected_0 : decode cX6_expected 0 = .ok (.iload_n 1, 1) := by decide +kernel
theorem dX6_expected_1 : decode cX6_expected 1 = .ok (.invokestatic 96, 3) := by decide +kernel
theorem dX6_expected_4 : decode cX6_expected 4 = .ok (.ifCond .ne 7, 3) := by decide +kernel
theorem dX6_expected_7 : decode cX6_expected 7 = .ok (.ldc2_w 205, 3) := by decide +kernel
theorem dX6_expected_10 : decode cX6_expected 10 = .ok (.lreturn, 1) := by decide +kernel
theorem dX6_expected_11 : decode cX6_expected 11 = .ok (.iload_n 2, 1) := by decide +kernel
theorem dX6_expected_12 : decode cX6_expected 12 = .ok (.invokestatic 199, 3) := by decide +kernel
theorem dX6_expected_15 : decode cX6_expected 15 = .ok (.ifCond .ne 7, 3) := by decide +kernel
theorem dX6_expected_18 : decode cX6_expected 18 = .ok (.ldc2_w 207, 3) := by decide +kernel
theorem dX6_expected_21 : decode cX6_expected 21 = .ok (.lreturn, 1) := by decide +kernel
theorem dX6_expected_22 : decode cX6_expected 22 = .ok (.aload_n 0, 1) := by decide +kernel
theorem dX6_expected_23 : decode cX6_expected 23 = .ok (.iload_n 1, 1) := by decide +kernel
theorem dX6_expected_24 : decode cX6_expected 24 = .ok (.iload_n 2, 1) := by decide +kernel
theorem dX6_expected_25 : decode cX6_expected 25 = .ok (.invokevirtual 209, 3) := by decide +kernel
theorem dX6_expected_28 : decode cX6_expected 28 = .ok (.lreturn, 1) := by decide +kernel
theorem dX6_contract_0 : decode cX6_contract 0 = .ok (.iload_n 1, 1) := by decide +kernel
theorem dX6_contract_1 : decode cX6_contract 1 = .ok (.invokestatic 96, 3) := by decide +kernel
theorem dX6_contract_4 : decode cX6_contract 4 = .ok (.ifCond .ne 5, 3) := by decide +kernel
theorem dX6_contract_7 : decode cX6_contract 7 = .ok (.iconst (-1), 1) := by decide +kernel
theorem dX6_contract_8 : decode cX6_contract 8 = .ok (.ireturn, 1) := by decide +kernel
theorem dX6_contract_9 : decode cX6_contract 9 = .ok (.aload_n 0, 1) := by decide +kernel
theorem dX6_contract_10 : decode cX6_contract 10 = .ok (.iconst 1, 1) := by decide +kernel
theorem dX6_contract_11 : decode cX6_contract 11 = .ok (.iload_n 1, 1) := by decide +kernel
theorem dX6_contract_12 : decode cX6_contract 12 = .ok (.isub, 1) := by decide +kernel
theorem dX6_contract_13 : decode cX6_contract 13 = .ok (.aload_n 0, 1) := by decide +kernel
theorem dX6_contract_14 : decode cX6_contract 14 = .ok (.iload_n 1, 1) := by decide +kernel
theorem dX6_contract_15 : decode cX6_contract 15 = .ok (.invokevirtual 102, 3) := by decide +kernel
theorem dX6_contract_18 : decode cX6_contract 18 = .ok (.invokevirtual 172, 3) := by decide +kernel
theorem dX6_contract_21 : decode cX6_contract 21 = .ok (.istore_n 2, 1) := by decide +kernel
theorem dX6_contract_22 : decode cX6_contract 22 = .ok (.iload_n 2, 1) := by decide +kernel
theorem dX6_contract_23 : decode cX6_contract 23 = .ok (.ifCond .ne 6, 3) := by decide +kernel
theorem dX6_contract_26 : decode cX6_contract 26 = .ok (.bipush (-6), 2) := by decide +kernel
theorem dX6_contract_28 : decode cX6_contract 28 = .ok (.ireturn, 1) := by decide +kernel
theorem dX6_contract_29 : decode cX6_contract 29 = .ok (.lconst 0, 1) := by decide +kernel
theorem dX6_contract_30 : decode cX6_contract 30 = .ok (.lstore_n 3, 1) := by decide +kernel
theorem dX6_contract_31 : decode cX6_contract 31 = .ok (.iconst 0, 1) := by decide +kernel
theorem dX6_contract_32 : decode cX6_contract 32 = .ok (.istore 5, 2) := by decide +kernel
theorem dX6_contract_34 : decode cX6_contract 34 = .ok (.iconst 0, 1) := by decide +kernel
theorem dX6_contract_35 : decode cX6_contract 35 = .ok (.istore 6, 2) := by decide +kernel
theorem dX6_contract_37 : decode cX6_contract 37 = .ok (.iload 6, 2) := by decide +kernel
theorem dX6_contract_39 : decode cX6_contract 39 = .ok (.iconst 4, 1) := by decide +kernel
theorem dX6_contract_40 : decode cX6_contract 40 = .ok (.if_icmp .gt 32, 3) := by decide +kernel
theorem dX6_contract_43 : decode cX6_contract 43 = .ok (.aload_n 0, 1) := by decide +kernel
theorem dX6_contract_44 : decode cX6_contract 44 = .ok (.iload_n 1, 1) := by decide +kernel
theorem dX6_contract_45 : decode cX6_contract 45 = .ok (.iload 6, 2) := by decide +kernel
theorem dX6_contract_47 : decode cX6_contract 47 = .ok (.invokevirtual 209, 3) := by decide +kernel
theorem dX6_contract_50 : decode cX6_contract 50 = .ok (.lstore 7, 2) := by decide +kernel
theorem dX6_contract_52 : decode cX6_contract 52 = .ok (.lload 7, 2) := by decide +kernel
theorem dX6_contract_54 : decode cX6_contract 54 = .ok (.lload_n 3, 1) := by decide +kernel
theorem dX6_contract_55 : decode cX6_contract 55 = .ok (.lcmp, 1) := by decide +kernel
theorem dX6_contract_56 : decode cX6_contract 56 = .ok (.ifCond .lt 10, 3) := by decide +kernel
theorem dX6_contract_59 : decode cX6_contract 59 = .ok (.lload 7, 2) := by decide +kernel
theorem dX6_contract_61 : decode cX6_contract 61 = .ok (.lstore_n 3, 1) := by decide +kernel
theorem dX6_contract_62 : decode cX6_contract 62 = .ok (.iload 6, 2) := by decide +kernel
theorem dX6_contract_64 : decode cX6_contract 64 = .ok (.istore 5, 2) := by decide +kernel
theorem dX6_contract_66 : decode cX6_contract 66 = .ok (.iinc 6 1, 3) := by decide +kernel
theorem dX6_contract_69 : decode cX6_contract 69 = .ok (.goto (-32), 3) := by decide +kernel
theorem dX6_contract_72 : decode cX6_contract 72 = .ok (.lload_n 3, 1) := by decide +kernel
theorem dX6_contract_73 : decode cX6_contract 73 = .ok (.iload_n 2, 1) := by decide +kernel
theorem dX6_contract_74 : decode cX6_contract 74 = .ok (.i2l, 1) := by decide +kernel
theorem dX6_contract_75 : decode cX6_contract 75 = .ok (.ldiv, 1) := by decide +kernel
theorem dX6_contract_76 : decode cX6_contract 76 = .ok (.l2i, 1) := by decide +kernel
theorem dX6_contract_77 : decode cX6_contract 77 = .ok (.istore 6, 2) := by decide +kernel
theorem dX6_contract_79 : decode cX6_contract 79 = .ok (.iload 6, 2) := by decide +kernel
theorem dX6_contract_81 : decode cX6_contract 81 = .ok (.ifCond .ne 8, 3) := by decide +kernel
theorem dX6_contract_84 : decode cX6_contract 84 = .ok (.bipush (-6), 2) := by decide +kernel
theorem dX6_contract_86 : decode cX6_contract 86 = .ok (.goto 12, 3) := by decide +kernel
theorem dX6_contract_89 : decode cX6_contract 89 = .ok (.iload 6, 2) := by decide +kernel
theorem dX6_contract_91 : decode cX6_contract 91 = .ok (.iconst 1, 1) := by decide +kernel
theorem dX6_contract_92 : decode cX6_contract 92 = .ok (.isub, 1) := by decide +kernel
theorem dX6_contract_93 : decode cX6_contract 93 = .ok (.iconst 5, 1) := by decide +kernel
theorem dX6_contract_94 : decode cX6_contract 94 = .ok (.imul, 1) := by decide +kernel
theorem dX6_contract_95 : decode cX6_contract 95 = .ok (.iload 5, 2) := by decide +kernel
theorem dX6_contract_97 : decode cX6_contract 97 = .ok (.iadd, 1) := by decide +kernel
theorem dX6_contract_98 : decode cX6_contract 98 = .ok (.ireturn, 1) := by decide +kernel
theorem dX6_isState_0 : decode cX6_isState 0 = .ok (.iload_n 0, 1) := by decide +kernel
theorem dX6_isState_1 : decode cX6_isState 1 = .ok (.ifCond .lt 13, 3) := by decide +kernel
theorem dX6_isState_4 : decode cX6_isState 4 = .ok (.iload_n 0, 1) := by decide +kernel
theorem dX6_isState_5 : decode cX6_isState 5 = .ok (.bipush 7, 2) := by decide +kernel
theorem dX6_isState_7 : decode cX6_isState 7 = .ok (.if_icmp .gt 7, 3) := by decide +kernel
theorem dX6_isState_10 : decode cX6_isState 10 = .ok (.iconst 1, 1) := by decide +kernel
theorem dX6_isState_11 : decode cX6_isState 11 = .ok (.goto 4, 3) := by decide +kernel
theorem dX6_isState_14 : decode cX6_isState 14 = .ok (.iconst 0, 1) := by decide +kernel
theorem dX6_isState_15 : decode cX6_isState 15 = .ok (.ireturn, 1) := by decide +kernel
theorem dX6_isCall_0 : decode cX6_isCall 0 = .ok (.iload_n 0, 1) := by decide +kernel
theorem dX6_isCall_1 : decode cX6_isCall 1 = .ok (.ifCond .lt 13, 3) := by decide +kernel
theorem dX6_isCall_4 : decode cX6_isCall 4 = .ok (.iload_n 0, 1) := by decide +kernel
theorem dX6_isCall_5 : decode cX6_isCall 5 = .ok (.bipush 25, 2) := by decide +kernel
theorem dX6_isCall_7 : decode cX6_isCall 7 = .ok (.if_icmp .gt 7, 3) := by decide +kernel
theorem dX6_isCall_10 : decode cX6_isCall 10 = .ok (.iconst 1, 1) := by decide +kernel
theorem dX6_isCall_11 : decode cX6_isCall 11 = .ok (.goto 4, 3) := by decide +kernel
theorem dX6_isCall_14 : decode cX6_isCall 14 = .ok (.iconst 0, 1) := by decide +kernel
theorem dX6_isCall_15 : decode cX6_isCall 15 = .ok (.ireturn, 1) := by decide +kernel
theorem dX6_isFlag_0 : decode cX6_isFlag 0 = .ok (.iload_n 0, 1) := by decide +kernel
theorem dX6_isFlag_1 : decode cX6_isFlag 1 = .ok (.ifCond .eq 8, 3) := by decide +kernel
theorem dX6_isFlag_4 : decode cX6_isFlag 4 = .ok (.iload_n 0, 1) := by decide +kernel
theorem dX6_isFlag_5 : decode cX6_isFlag 5 = .ok (.iconst 1, 1) := by decide +kernel
theorem dX6_isFlag_6 : decode cX6_isFlag 6 = .ok (.if_icmp .ne 7, 3) := by decide +kernel
theorem dX6_isFlag_9 : decode cX6_isFlag 9 = .ok (.iconst 1, 1) := by decide +kernel
theorem dX6_isFlag_10 : decode cX6_isFlag 10 = .ok (.goto 4, 3) := by decide +kernel
theorem dX6_isFlag_13 : decode cX6_isFlag 13 = .ok (.iconst 0, 1) := by decide +kernel
theorem dX6_isFlag_14 : decode cX6_isFlag 14 = .ok (.ireturn, 1) := by decide +kernel
theorem dX6_isPartner_0 : decode cX6_isPartner 0 = .ok (.iload_n 0, 1) := by decide +kernel
theorem dX6_isPartner_1 : decode cX6_isPartner 1 = .ok (.ifCond .eq 8, 3) := by decide +kernel
theorem dX6_isPartner_4 : decode cX6_isPartner 4 = .ok (.iload_n 0, 1) := by decide +kernel
theorem dX6_isPartner_5 : decode cX6_isPartner 5 = .ok (.iconst 1, 1) := by decide +kernel
theorem dX6_isPartner_6 : decode cX6_isPartner 6 = .ok (.if_icmp .ne 7, 3) := by decide +kernel
theorem dX6_isPartner_9 : decode cX6_isPartner 9 = .ok (.iconst 1, 1) := by decide +kernel
theorem dX6_isPartner_10 : decode cX6_isPartner 10 = .ok (.goto 4, 3) := by decide +kernel
theorem dX6_isPartner_13 : decode cX6_isPartner 13 = .ok (.iconst 0, 1) := by decide +kernel
theorem dX6_isPartner_14 : decode cX6_isPartner 14 = .ok (.ireturn, 1) := by decide +kernel
theorem dX6_isStrain_0 : decode cX6_isStrain 0 = .ok (.iload_n 0, 1) := by decide +kernel
theorem dX6_isStrain_1 : decode cX6_isStrain 1 = .ok (.ifCond .lt 12, 3) := by decide +kernel
theorem dX6_isStrain_4 : decode cX6_isStrain 4 = .ok (.iload_n 0, 1) := by decide +kernel
theorem dX6_isStrain_5 : decode cX6_isStrain 5 = .ok (.iconst 4, 1) := by decide +kernel
theorem dX6_isStrain_6 : decode cX6_isStrain 6 = .ok (.if_icmp .gt 7, 3) := by decide +kernel
theorem dX6_isStrain_9 : decode cX6_isStrain 9 = .ok (.iconst 1, 1) := by decide +kernel
theorem dX6_isStrain_10 : decode cX6_isStrain 10 = .ok (.goto 4, 3) := by decide +kernel
theorem dX6_isStrain_13 : decode cX6_isStrain 13 = .ok (.iconst 0, 1) := by decide +kernel
theorem dX6_isStrain_14 : decode cX6_isStrain 14 = .ok (.ireturn, 1) := by decide +kernel
theorem dX6_isRule_0 : decode cX6_isRule 0 = .ok (.iload_n 1, 1) := by decide +kernel
theorem dX6_isRule_1 : decode cX6_isRule 1 = .ok (.ifCond .lt 18, 3) := by decide +kernel
theorem dX6_isRule_4 : decode cX6_isRule 4 = .ok (.iload_n 1, 1) := by decide +kernel
theorem dX6_isRule_5 : decode cX6_isRule 5 = .ok (.aload_n 0, 1) := by decide +kernel
theorem dX6_isRule_6 : decode cX6_isRule 6 = .ok (.getfield 12, 3) := by decide +kernel
theorem dX6_isRule_9 : decode cX6_isRule 9 = .ok (.invokevirtual 82, 3) := by decide +kernel
theorem dX6_isRule_12 : decode cX6_isRule 12 = .ok (.if_icmp .ge 7, 3) := by decide +kernel
theorem dX6_isRule_15 : decode cX6_isRule 15 = .ok (.iconst 1, 1) := by decide +kernel
theorem dX6_isRule_16 : decode cX6_isRule 16 = .ok (.goto 4, 3) := by decide +kernel
theorem dX6_isRule_19 : decode cX6_isRule 19 = .ok (.iconst 0, 1) := by decide +kernel
theorem dX6_isRule_20 : decode cX6_isRule 20 = .ok (.ireturn, 1) := by decide +kernel
theorem dX6_handOf_0 : decode cX6_handOf 0 = .ok (.iload_n 1, 1) := by decide +kernel
theorem dX6_handOf_1 : decode cX6_handOf 1 = .ok (.ifCond .ne 10, 3) := by decide +kernel
theorem dX6_handOf_4 : decode cX6_handOf 4 = .ok (.aload_n 0, 1) := by decide +kernel
theorem dX6_handOf_5 : decode cX6_handOf 5 = .ok (.getfield 30, 3) := by decide +kernel
theorem dX6_handOf_8 : decode cX6_handOf 8 = .ok (.goto 7, 3) := by decide +kernel
theorem dX6_handOf_11 : decode cX6_handOf 11 = .ok (.aload_n 0, 1) := by decide +kernel
theorem dX6_handOf_12 : decode cX6_handOf 12 = .ok (.getfield 34, 3) := by decide +kernel
theorem dX6_handOf_15 : decode cX6_handOf 15 = .ok (.ireturn, 1) := by decide +kernel
theorem dX6_addRule_0 : decode cX6_addRule 0 = .ok (.aload_n 0, 1) := by decide +kernel
theorem dX6_addRule_1 : decode cX6_addRule 1 = .ok (.getfield 12, 3) := by decide +kernel
theorem dX6_addRule_4 : decode cX6_addRule 4 = .ok (.invokevirtual 82, 3) := by decide +kernel
theorem dX6_addRule_7 : decode cX6_addRule 7 = .ok (.bipush 24, 2) := by decide +kernel
theorem dX6_addRule_9 : decode cX6_addRule 9 = .ok (.if_icmp .lt 6, 3) := by decide +kernel
theorem dX6_addRule_12 : decode cX6_addRule 12 = .ok (.bipush (-4), 2) := by decide +kernel
theorem dX6_addRule_14 : decode cX6_addRule 14 = .ok (.ireturn, 1) := by decide +kernel
theorem dX6_addRule_15 : decode cX6_addRule 15 = .ok (.iconst 0, 1) := by decide +kernel
theorem dX6_addRule_16 : decode cX6_addRule 16 = .ok (.istore_n 2, 1) := by decide +kernel
theorem dX6_addRule_17 : decode cX6_addRule 17 = .ok (.iload_n 2, 1) := by decide +kernel
theorem dX6_addRule_18 : decode cX6_addRule 18 = .ok (.aload_n 0, 1) := by decide +kernel
theorem dX6_addRule_19 : decode cX6_addRule 19 = .ok (.getfield 12, 3) := by decide +kernel
theorem dX6_addRule_22 : decode cX6_addRule 22 = .ok (.invokevirtual 82, 3) := by decide +kernel
theorem dX6_addRule_25 : decode cX6_addRule 25 = .ok (.if_icmp .ge 46, 3) := by decide +kernel
theorem dX6_addRule_28 : decode cX6_addRule 28 = .ok (.aload_n 0, 1) := by decide +kernel
theorem dX6_addRule_29 : decode cX6_addRule 29 = .ok (.getfield 12, 3) := by decide +kernel
theorem dX6_addRule_32 : decode cX6_addRule 32 = .ok (.iload_n 2, 1) := by decide +kernel
theorem dX6_addRule_33 : decode cX6_addRule 33 = .ok (.invokevirtual 65, 3) := by decide +kernel
theorem dX6_addRule_36 : decode cX6_addRule 36 = .ok (.checkcast 47, 3) := by decide +kernel
theorem dX6_addRule_39 : decode cX6_addRule 39 = .ok (.astore_n 3, 1) := by decide +kernel
theorem dX6_addRule_40 : decode cX6_addRule 40 = .ok (.aload_n 3, 1) := by decide +kernel
theorem dX6_addRule_41 : decode cX6_addRule 41 = .ok (.getfield 193, 3) := by decide +kernel
theorem dX6_addRule_44 : decode cX6_addRule 44 = .ok (.aload_n 1, 1) := by decide +kernel
theorem dX6_addRule_45 : decode cX6_addRule 45 = .ok (.getfield 193, 3) := by decide +kernel
theorem dX6_addRule_48 : decode cX6_addRule 48 = .ok (.if_icmp .ne 17, 3) := by decide +kernel
theorem dX6_addRule_51 : decode cX6_addRule 51 = .ok (.aload_n 3, 1) := by decide +kernel
theorem dX6_addRule_52 : decode cX6_addRule 52 = .ok (.getfield 90, 3) := by decide +kernel
theorem dX6_addRule_55 : decode cX6_addRule 55 = .ok (.aload_n 1, 1) := by decide +kernel
theorem dX6_addRule_56 : decode cX6_addRule 56 = .ok (.getfield 90, 3) := by decide +kernel
theorem dX6_addRule_59 : decode cX6_addRule 59 = .ok (.if_icmp .ne 6, 3) := by decide +kernel
theorem dX6_addRule_62 : decode cX6_addRule 62 = .ok (.bipush (-5), 2) := by decide +kernel
theorem dX6_addRule_64 : decode cX6_addRule 64 = .ok (.ireturn, 1) := by decide +kernel
theorem dX6_addRule_65 : decode cX6_addRule 65 = .ok (.iinc 2 1, 3) := by decide +kernel
theorem dX6_addRule_68 : decode cX6_addRule 68 = .ok (.goto (-51), 3) := by decide +kernel
theorem dX6_addRule_71 : decode cX6_addRule 71 = .ok (.aload_n 0, 1) := by decide +kernel
theorem dX6_addRule_72 : decode cX6_addRule 72 = .ok (.getfield 12, 3) := by decide +kernel
theorem dX6_addRule_75 : decode cX6_addRule 75 = .ok (.aload_n 1, 1) := by decide +kernel
theorem dX6_addRule_76 : decode cX6_addRule 76 = .ok (.invokevirtual 241, 3) := by decide +kernel
theorem dX6_addRule_79 : decode cX6_addRule 79 = .ok (.pop, 1) := by decide +kernel
theorem dX6_addRule_80 : decode cX6_addRule 80 = .ok (.aload_n 0, 1) := by decide +kernel
theorem dX6_addRule_81 : decode cX6_addRule 81 = .ok (.getfield 19, 3) := by decide +kernel
theorem dX6_addRule_84 : decode cX6_addRule 84 = .ok (.invokevirtual 73, 3) := by decide +kernel
theorem dX6_addRule_87 : decode cX6_addRule 87 = .ok (.aload_n 0, 1) := by decide +kernel
theorem dX6_addRule_88 : decode cX6_addRule 88 = .ok (.getfield 12, 3) := by decide +kernel
theorem dX6_addRule_91 : decode cX6_addRule 91 = .ok (.invokevirtual 82, 3) := by decide +kernel
theorem dX6_addRule_94 : decode cX6_addRule 94 = .ok (.iconst 1, 1) := by decide +kernel
theorem dX6_addRule_95 : decode cX6_addRule 95 = .ok (.isub, 1) := by decide +kernel
theorem dX6_addRule_96 : decode cX6_addRule 96 = .ok (.ireturn, 1) := by decide +kernel
theorem dX6_firstRule_0 : decode cX6_firstRule 0 = .ok (.iconst 0, 1) := by decide +kernel
theorem dX6_firstRule_1 : decode cX6_firstRule 1 = .ok (.istore_n 3, 1) := by decide +kernel
theorem dX6_firstRule_2 : decode cX6_firstRule 2 = .ok (.iload_n 3, 1) := by decide +kernel
theorem dX6_firstRule_3 : decode cX6_firstRule 3 = .ok (.aload_n 0, 1) := by decide +kernel
theorem dX6_firstRule_4 : decode cX6_firstRule 4 = .ok (.getfield 12, 3) := by decide +kernel
theorem dX6_firstRule_7 : decode cX6_firstRule 7 = .ok (.invokevirtual 82, 3) := by decide +kernel
theorem dX6_firstRule_10 : decode cX6_firstRule 10 = .ok (.if_icmp .ge 42, 3) := by decide +kernel
theorem dX6_firstRule_13 : decode cX6_firstRule 13 = .ok (.aload_n 0, 1) := by decide +kernel
theorem dX6_firstRule_14 : decode cX6_firstRule 14 = .ok (.getfield 12, 3) := by decide +kernel
theorem dX6_firstRule_17 : decode cX6_firstRule 17 = .ok (.iload_n 3, 1) := by decide +kernel
theorem dX6_firstRule_18 : decode cX6_firstRule 18 = .ok (.invokevirtual 65, 3) := by decide +kernel
theorem dX6_firstRule_21 : decode cX6_firstRule 21 = .ok (.checkcast 47, 3) := by decide +kernel
theorem dX6_firstRule_24 : decode cX6_firstRule 24 = .ok (.astore 4, 2) := by decide +kernel
theorem dX6_firstRule_26 : decode cX6_firstRule 26 = .ok (.aload 4, 2) := by decide +kernel
theorem dX6_firstRule_28 : decode cX6_firstRule 28 = .ok (.aload_n 1, 1) := by decide +kernel
theorem dX6_firstRule_29 : decode cX6_firstRule 29 = .ok (.invokevirtual 244, 3) := by decide +kernel
theorem dX6_firstRule_32 : decode cX6_firstRule 32 = .ok (.ifCond .eq 14, 3) := by decide +kernel
theorem dX6_firstRule_35 : decode cX6_firstRule 35 = .ok (.aload 4, 2) := by decide +kernel
theorem dX6_firstRule_37 : decode cX6_firstRule 37 = .ok (.iload_n 2, 1) := by decide +kernel
theorem dX6_firstRule_38 : decode cX6_firstRule 38 = .ok (.invokevirtual 248, 3) := by decide +kernel
theorem dX6_firstRule_41 : decode cX6_firstRule 41 = .ok (.ifCond .eq 5, 3) := by decide +kernel
theorem dX6_firstRule_44 : decode cX6_firstRule 44 = .ok (.iload_n 3, 1) := by decide +kernel
theorem dX6_firstRule_45 : decode cX6_firstRule 45 = .ok (.ireturn, 1) := by decide +kernel
theorem dX6_firstRule_46 : decode cX6_firstRule 46 = .ok (.iinc 3 1, 3) := by decide +kernel
theorem dX6_firstRule_49 : decode cX6_firstRule 49 = .ok (.goto (-47), 3) := by decide +kernel
theorem dX6_firstRule_52 : decode cX6_firstRule 52 = .ok (.bipush (-6), 2) := by decide +kernel
theorem dX6_firstRule_54 : decode cX6_firstRule 54 = .ok (.ireturn, 1) := by decide +kernel
theorem dX6_countAdmitted_0 : decode cX6_countAdmitted 0 = .ok (.iconst 0, 1) := by decide +kernel
theorem dX6_countAdmitted_1 : decode cX6_countAdmitted 1 = .ok (.istore_n 2, 1) := by decide +kernel
theorem dX6_countAdmitted_2 : decode cX6_countAdmitted 2 = .ok (.iconst 0, 1) := by decide +kernel
theorem dX6_countAdmitted_3 : decode cX6_countAdmitted 3 = .ok (.istore_n 3, 1) := by decide +kernel
theorem dX6_countAdmitted_4 : decode cX6_countAdmitted 4 = .ok (.bipush 31, 2) := by decide +kernel
theorem dX6_countAdmitted_6 : decode cX6_countAdmitted 6 = .ok (.istore 4, 2) := by decide +kernel
theorem dX6_countAdmitted_8 : decode cX6_countAdmitted 8 = .ok (.iload_n 3, 1) := by decide +kernel
theorem dX6_countAdmitted_9 : decode cX6_countAdmitted 9 = .ok (.sipush 15504, 3) := by decide +kernel
theorem dX6_countAdmitted_12 : decode cX6_countAdmitted 12 = .ok (.if_icmp .ge 31, 3) := by decide +kernel
theorem dX6_countAdmitted_15 : decode cX6_countAdmitted 15 = .ok (.aload_n 1, 1) := by decide +kernel
theorem dX6_countAdmitted_16 : decode cX6_countAdmitted 16 = .ok (.iload 4, 2) := by decide +kernel
theorem dX6_countAdmitted_18 : decode cX6_countAdmitted 18 = .ok (.invokestatic 129, 3) := by decide +kernel
theorem dX6_countAdmitted_21 : decode cX6_countAdmitted 21 = .ok (.invokevirtual 248, 3) := by decide +kernel
theorem dX6_countAdmitted_24 : decode cX6_countAdmitted 24 = .ok (.ifCond .eq 6, 3) := by decide +kernel
theorem dX6_countAdmitted_27 : decode cX6_countAdmitted 27 = .ok (.iinc 2 1, 3) := by decide +kernel
theorem dX6_countAdmitted_30 : decode cX6_countAdmitted 30 = .ok (.iinc 3 1, 3) := by decide +kernel
theorem dX6_countAdmitted_33 : decode cX6_countAdmitted 33 = .ok (.iload 4, 2) := by decide +kernel
theorem dX6_countAdmitted_35 : decode cX6_countAdmitted 35 = .ok (.invokestatic 186, 3) := by decide +kernel
theorem dX6_countAdmitted_38 : decode cX6_countAdmitted 38 = .ok (.istore 4, 2) := by decide +kernel
theorem dX6_countAdmitted_40 : decode cX6_countAdmitted 40 = .ok (.goto (-32), 3) := by decide +kernel
theorem dX6_countAdmitted_43 : decode cX6_countAdmitted 43 = .ok (.iload_n 2, 1) := by decide +kernel
theorem dX6_countAdmitted_44 : decode cX6_countAdmitted 44 = .ok (.ireturn, 1) := by decide +kernel
theorem dX6_fitsAuction_0 : decode cX6_fitsAuction 0 = .ok (.iload_n 2, 1) := by decide +kernel
theorem dX6_fitsAuction_1 : decode cX6_fitsAuction 1 = .ok (.invokestatic 129, 3) := by decide +kernel
theorem dX6_fitsAuction_4 : decode cX6_fitsAuction 4 = .ok (.istore_n 3, 1) := by decide +kernel
theorem dX6_fitsAuction_5 : decode cX6_fitsAuction 5 = .ok (.iload_n 1, 1) := by decide +kernel
theorem dX6_fitsAuction_6 : decode cX6_fitsAuction 6 = .ok (.istore 4, 2) := by decide +kernel
theorem dX6_fitsAuction_8 : decode cX6_fitsAuction 8 = .ok (.iload 4, 2) := by decide +kernel
theorem dX6_fitsAuction_10 : decode cX6_fitsAuction 10 = .ok (.aload_n 0, 1) := by decide +kernel
theorem dX6_fitsAuction_11 : decode cX6_fitsAuction 11 = .ok (.getfield 19, 3) := by decide +kernel
theorem dX6_fitsAuction_14 : decode cX6_fitsAuction 14 = .ok (.getfield 115, 3) := by decide +kernel
theorem dX6_fitsAuction_17 : decode cX6_fitsAuction 17 = .ok (.invokevirtual 82, 3) := by decide +kernel
theorem dX6_fitsAuction_20 : decode cX6_fitsAuction 20 = .ok (.if_icmp .ge 46, 3) := by decide +kernel
theorem dX6_fitsAuction_23 : decode cX6_fitsAuction 23 = .ok (.aload_n 0, 1) := by decide +kernel
theorem dX6_fitsAuction_24 : decode cX6_fitsAuction 24 = .ok (.getfield 19, 3) := by decide +kernel
theorem dX6_fitsAuction_27 : decode cX6_fitsAuction 27 = .ok (.getfield 115, 3) := by decide +kernel
theorem dX6_fitsAuction_30 : decode cX6_fitsAuction 30 = .ok (.iload 4, 2) := by decide +kernel
theorem dX6_fitsAuction_32 : decode cX6_fitsAuction 32 = .ok (.invokevirtual 65, 3) := by decide +kernel
theorem dX6_fitsAuction_35 : decode cX6_fitsAuction 35 = .ok (.checkcast 149, 3) := by decide +kernel
theorem dX6_fitsAuction_38 : decode cX6_fitsAuction 38 = .ok (.astore 5, 2) := by decide +kernel
theorem dX6_fitsAuction_40 : decode cX6_fitsAuction 40 = .ok (.aload_n 0, 1) := by decide +kernel
theorem dX6_fitsAuction_41 : decode cX6_fitsAuction 41 = .ok (.aload 5, 2) := by decide +kernel
theorem dX6_fitsAuction_43 : decode cX6_fitsAuction 43 = .ok (.getfield 251, 3) := by decide +kernel
theorem dX6_fitsAuction_46 : decode cX6_fitsAuction 46 = .ok (.iload_n 3, 1) := by decide +kernel
theorem dX6_fitsAuction_47 : decode cX6_fitsAuction 47 = .ok (.invokevirtual 132, 3) := by decide +kernel
theorem dX6_fitsAuction_50 : decode cX6_fitsAuction 50 = .ok (.aload 5, 2) := by decide +kernel
theorem dX6_fitsAuction_52 : decode cX6_fitsAuction 52 = .ok (.getfield 254, 3) := by decide +kernel
theorem dX6_fitsAuction_55 : decode cX6_fitsAuction 55 = .ok (.if_icmp .eq 5, 3) := by decide +kernel
theorem dX6_fitsAuction_58 : decode cX6_fitsAuction 58 = .ok (.iconst 0, 1) := by decide +kernel
theorem dX6_fitsAuction_59 : decode cX6_fitsAuction 59 = .ok (.ireturn, 1) := by decide +kernel
theorem dX6_fitsAuction_60 : decode cX6_fitsAuction 60 = .ok (.iinc 4 2, 3) := by decide +kernel
theorem dX6_fitsAuction_63 : decode cX6_fitsAuction 63 = .ok (.goto (-55), 3) := by decide +kernel
theorem dX6_fitsAuction_66 : decode cX6_fitsAuction 66 = .ok (.aload_n 0, 1) := by decide +kernel
theorem dX6_fitsAuction_67 : decode cX6_fitsAuction 67 = .ok (.getfield 19, 3) := by decide +kernel
theorem dX6_fitsAuction_70 : decode cX6_fitsAuction 70 = .ok (.getfield 136, 3) := by decide +kernel
theorem dX6_fitsAuction_73 : decode cX6_fitsAuction 73 = .ok (.ifCond .eq 37, 3) := by decide +kernel
theorem dX6_fitsAuction_76 : decode cX6_fitsAuction 76 = .ok (.aload_n 0, 1) := by decide +kernel
theorem dX6_fitsAuction_77 : decode cX6_fitsAuction 77 = .ok (.getfield 19, 3) := by decide +kernel
theorem dX6_fitsAuction_80 : decode cX6_fitsAuction 80 = .ok (.invokevirtual 126, 3) := by decide +kernel
theorem dX6_fitsAuction_83 : decode cX6_fitsAuction 83 = .ok (.iload_n 1, 1) := by decide +kernel
theorem dX6_fitsAuction_84 : decode cX6_fitsAuction 84 = .ok (.if_icmp .ne 26, 3) := by decide +kernel
theorem dX6_fitsAuction_87 : decode cX6_fitsAuction 87 = .ok (.aload_n 0, 1) := by decide +kernel
theorem dX6_fitsAuction_88 : decode cX6_fitsAuction 88 = .ok (.aload_n 0, 1) := by decide +kernel
theorem dX6_fitsAuction_89 : decode cX6_fitsAuction 89 = .ok (.getfield 19, 3) := by decide +kernel
theorem dX6_fitsAuction_92 : decode cX6_fitsAuction 92 = .ok (.getfield 122, 3) := by decide +kernel
theorem dX6_fitsAuction_95 : decode cX6_fitsAuction 95 = .ok (.iload_n 3, 1) := by decide +kernel
theorem dX6_fitsAuction_96 : decode cX6_fitsAuction 96 = .ok (.invokevirtual 132, 3) := by decide +kernel
theorem dX6_fitsAuction_99 : decode cX6_fitsAuction 99 = .ok (.bipush (-6), 2) := by decide +kernel
theorem dX6_fitsAuction_101 : decode cX6_fitsAuction 101 = .ok (.if_icmp .ne 7, 3) := by decide +kernel
theorem dX6_fitsAuction_104 : decode cX6_fitsAuction 104 = .ok (.iconst 1, 1) := by decide +kernel
theorem dX6_fitsAuction_105 : decode cX6_fitsAuction 105 = .ok (.goto 4, 3) := by decide +kernel
theorem dX6_fitsAuction_108 : decode cX6_fitsAuction 108 = .ok (.iconst 0, 1) := by decide +kernel
theorem dX6_fitsAuction_109 : decode cX6_fitsAuction 109 = .ok (.ireturn, 1) := by decide +kernel
theorem dX6_fitsAuction_110 : decode cX6_fitsAuction 110 = .ok (.iconst 1, 1) := by decide +kernel
theorem dX6_fitsAuction_111 : decode cX6_fitsAuction 111 = .ok (.ireturn, 1) := by decide +kernel
theorem dX6_isHidden_0 : decode cX6_isHidden 0 = .ok (.iload_n 3, 1) := by decide +kernel
theorem dX6_isHidden_1 : decode cX6_isHidden 1 = .ok (.iload_n 2, 1) := by decide +kernel
theorem dX6_isHidden_2 : decode cX6_isHidden 2 = .ok (.iand, 1) := by decide +kernel
theorem dX6_isHidden_3 : decode cX6_isHidden 3 = .ok (.ifCond .ne 16, 3) := by decide +kernel
theorem dX6_isHidden_6 : decode cX6_isHidden 6 = .ok (.aload_n 0, 1) := by decide +kernel
theorem dX6_isHidden_7 : decode cX6_isHidden 7 = .ok (.iload_n 1, 1) := by decide +kernel
theorem dX6_isHidden_8 : decode cX6_isHidden 8 = .ok (.iload_n 3, 1) := by decide +kernel
theorem dX6_isHidden_9 : decode cX6_isHidden 9 = .ok (.invokevirtual 189, 3) := by decide +kernel
theorem dX6_isHidden_12 : decode cX6_isHidden 12 = .ok (.ifCond .eq 7, 3) := by decide +kernel
theorem dX6_isHidden_15 : decode cX6_isHidden 15 = .ok (.iconst 1, 1) := by decide +kernel
theorem dX6_isHidden_16 : decode cX6_isHidden 16 = .ok (.goto 4, 3) := by decide +kernel
theorem dX6_isHidden_19 : decode cX6_isHidden 19 = .ok (.iconst 0, 1) := by decide +kernel
theorem dX6_isHidden_20 : decode cX6_isHidden 20 = .ok (.ireturn, 1) := by decide +kernel
theorem dX6_countHidden_0 : decode cX6_countHidden 0 = .ok (.iconst 0, 1) := by decide +kernel
theorem dX6_countHidden_1 : decode cX6_countHidden 1 = .ok (.istore_n 3, 1) := by decide +kernel
theorem dX6_countHidden_2 : decode cX6_countHidden 2 = .ok (.iconst 0, 1) := by decide +kernel
theorem dX6_countHidden_3 : decode cX6_countHidden 3 = .ok (.istore 4, 2) := by decide +kernel
theorem dX6_countHidden_5 : decode cX6_countHidden 5 = .ok (.bipush 31, 2) := by decide +kernel
theorem dX6_countHidden_7 : decode cX6_countHidden 7 = .ok (.istore 5, 2) := by decide +kernel
theorem dX6_countHidden_9 : decode cX6_countHidden 9 = .ok (.iload 4, 2) := by decide +kernel
theorem dX6_countHidden_11 : decode cX6_countHidden 11 = .ok (.sipush 15504, 3) := by decide +kernel
theorem dX6_countHidden_14 : decode cX6_countHidden 14 = .ok (.if_icmp .ge 30, 3) := by decide +kernel
theorem dX6_countHidden_17 : decode cX6_countHidden 17 = .ok (.aload_n 0, 1) := by decide +kernel
theorem dX6_countHidden_18 : decode cX6_countHidden 18 = .ok (.iload_n 1, 1) := by decide +kernel
theorem dX6_countHidden_19 : decode cX6_countHidden 19 = .ok (.iload_n 2, 1) := by decide +kernel
theorem dX6_countHidden_20 : decode cX6_countHidden 20 = .ok (.iload 5, 2) := by decide +kernel
theorem dX6_countHidden_22 : decode cX6_countHidden 22 = .ok (.invokevirtual 175, 3) := by decide +kernel
theorem dX6_countHidden_25 : decode cX6_countHidden 25 = .ok (.ifCond .eq 6, 3) := by decide +kernel
theorem dX6_countHidden_28 : decode cX6_countHidden 28 = .ok (.iinc 3 1, 3) := by decide +kernel
theorem dX6_countHidden_31 : decode cX6_countHidden 31 = .ok (.iinc 4 1, 3) := by decide +kernel
theorem dX6_countHidden_34 : decode cX6_countHidden 34 = .ok (.iload 5, 2) := by decide +kernel
theorem dX6_countHidden_36 : decode cX6_countHidden 36 = .ok (.invokestatic 186, 3) := by decide +kernel
theorem dX6_countHidden_39 : decode cX6_countHidden 39 = .ok (.istore 5, 2) := by decide +kernel
theorem dX6_countHidden_41 : decode cX6_countHidden 41 = .ok (.goto (-32), 3) := by decide +kernel
theorem dX6_countHidden_44 : decode cX6_countHidden 44 = .ok (.iload_n 3, 1) := by decide +kernel
theorem dX6_countHidden_45 : decode cX6_countHidden 45 = .ok (.ireturn, 1) := by decide +kernel
theorem dX6_sumOfTricks_0 : decode cX6_sumOfTricks 0 = .ok (.aload_n 0, 1) := by decide +kernel
theorem dX6_sumOfTricks_1 : decode cX6_sumOfTricks 1 = .ok (.iload_n 1, 1) := by decide +kernel
theorem dX6_sumOfTricks_2 : decode cX6_sumOfTricks 2 = .ok (.invokevirtual 102, 3) := by decide +kernel
theorem dX6_sumOfTricks_5 : decode cX6_sumOfTricks 5 = .ok (.istore_n 3, 1) := by decide +kernel
theorem dX6_sumOfTricks_6 : decode cX6_sumOfTricks 6 = .ok (.lconst 0, 1) := by decide +kernel
theorem dX6_sumOfTricks_7 : decode cX6_sumOfTricks 7 = .ok (.lstore 4, 2) := by decide +kernel
theorem dX6_sumOfTricks_9 : decode cX6_sumOfTricks 9 = .ok (.iconst 0, 1) := by decide +kernel
theorem dX6_sumOfTricks_10 : decode cX6_sumOfTricks 10 = .ok (.istore 6, 2) := by decide +kernel
theorem dX6_sumOfTricks_12 : decode cX6_sumOfTricks 12 = .ok (.bipush 31, 2) := by decide +kernel
theorem dX6_sumOfTricks_14 : decode cX6_sumOfTricks 14 = .ok (.istore 7, 2) := by decide +kernel
theorem dX6_sumOfTricks_16 : decode cX6_sumOfTricks 16 = .ok (.iload 6, 2) := by decide +kernel
theorem dX6_sumOfTricks_18 : decode cX6_sumOfTricks 18 = .ok (.sipush 15504, 3) := by decide +kernel
theorem dX6_sumOfTricks_21 : decode cX6_sumOfTricks 21 = .ok (.if_icmp .ge 42, 3) := by decide +kernel
theorem dX6_sumOfTricks_24 : decode cX6_sumOfTricks 24 = .ok (.aload_n 0, 1) := by decide +kernel
theorem dX6_sumOfTricks_25 : decode cX6_sumOfTricks 25 = .ok (.iconst 1, 1) := by decide +kernel
theorem dX6_sumOfTricks_26 : decode cX6_sumOfTricks 26 = .ok (.iload_n 1, 1) := by decide +kernel
theorem dX6_sumOfTricks_27 : decode cX6_sumOfTricks 27 = .ok (.isub, 1) := by decide +kernel
theorem dX6_sumOfTricks_28 : decode cX6_sumOfTricks 28 = .ok (.iload_n 3, 1) := by decide +kernel
theorem dX6_sumOfTricks_29 : decode cX6_sumOfTricks 29 = .ok (.iload 7, 2) := by decide +kernel
theorem dX6_sumOfTricks_31 : decode cX6_sumOfTricks 31 = .ok (.invokevirtual 175, 3) := by decide +kernel
theorem dX6_sumOfTricks_34 : decode cX6_sumOfTricks 34 = .ok (.ifCond .eq 16, 3) := by decide +kernel
theorem dX6_sumOfTricks_37 : decode cX6_sumOfTricks 37 = .ok (.lload 4, 2) := by decide +kernel
theorem dX6_sumOfTricks_39 : decode cX6_sumOfTricks 39 = .ok (.iload_n 2, 1) := by decide +kernel
theorem dX6_sumOfTricks_40 : decode cX6_sumOfTricks 40 = .ok (.iload_n 3, 1) := by decide +kernel
theorem dX6_sumOfTricks_41 : decode cX6_sumOfTricks 41 = .ok (.iload 7, 2) := by decide +kernel
theorem dX6_sumOfTricks_43 : decode cX6_sumOfTricks 43 = .ok (.invokestatic 202, 3) := by decide +kernel
theorem dX6_sumOfTricks_46 : decode cX6_sumOfTricks 46 = .ok (.i2l, 1) := by decide +kernel
theorem dX6_sumOfTricks_47 : decode cX6_sumOfTricks 47 = .ok (.ladd, 1) := by decide +kernel
theorem dX6_sumOfTricks_48 : decode cX6_sumOfTricks 48 = .ok (.lstore 4, 2) := by decide +kernel
theorem dX6_sumOfTricks_50 : decode cX6_sumOfTricks 50 = .ok (.iinc 6 1, 3) := by decide +kernel
theorem dX6_sumOfTricks_53 : decode cX6_sumOfTricks 53 = .ok (.iload 7, 2) := by decide +kernel
theorem dX6_sumOfTricks_55 : decode cX6_sumOfTricks 55 = .ok (.invokestatic 186, 3) := by decide +kernel
theorem dX6_sumOfTricks_58 : decode cX6_sumOfTricks 58 = .ok (.istore 7, 2) := by decide +kernel
theorem dX6_sumOfTricks_60 : decode cX6_sumOfTricks 60 = .ok (.goto (-44), 3) := by decide +kernel
theorem dX6_sumOfTricks_63 : decode cX6_sumOfTricks 63 = .ok (.lload 4, 2) := by decide +kernel
theorem dX6_sumOfTricks_65 : decode cX6_sumOfTricks 65 = .ok (.lreturn, 1) := by decide +kernel
theorem dJ5_init_d00df_0 : decode cJ5_init_d00df 0 = .ok (.aload_n 0, 1) := by decide +kernel
theorem dJ5_init_d00df_1 : decode cJ5_init_d00df 1 = .ok (.invokespecial 3, 3) := by decide +kernel
theorem dJ5_init_d00df_4 : decode cJ5_init_d00df 4 = .ok (.getstatic 18, 3) := by decide +kernel
theorem dJ5_init_d00df_7 : decode cJ5_init_d00df 7 = .ok (.ifCond .eq 18, 3) := by decide +kernel
theorem dJ5_init_d00df_10 : decode cJ5_init_d00df 10 = .ok (.aload_n 0, 1) := by decide +kernel
theorem dJ5_init_d00df_11 : decode cJ5_init_d00df 11 = .ok (.iload_n 1, 1) := by decide +kernel
theorem dJ5_init_d00df_12 : decode cJ5_init_d00df 12 = .ok (.newarray .byte, 2) := by decide +kernel
theorem dJ5_init_d00df_14 : decode cJ5_init_d00df 14 = .ok (.putfield 15, 3) := by decide +kernel
theorem dJ5_init_d00df_17 : decode cJ5_init_d00df 17 = .ok (.aload_n 0, 1) := by decide +kernel
theorem dJ5_init_d00df_18 : decode cJ5_init_d00df 18 = .ok (.iconst 0, 1) := by decide +kernel
theorem dJ5_init_d00df_19 : decode cJ5_init_d00df 19 = .ok (.putfield 22, 3) := by decide +kernel
theorem dJ5_init_d00df_22 : decode cJ5_init_d00df 22 = .ok (.goto 16, 3) := by decide +kernel
theorem dJ5_init_d00df_25 : decode cJ5_init_d00df 25 = .ok (.aload_n 0, 1) := by decide +kernel
theorem dJ5_init_d00df_26 : decode cJ5_init_d00df 26 = .ok (.iload_n 1, 1) := by decide +kernel
theorem dJ5_init_d00df_27 : decode cJ5_init_d00df 27 = .ok (.invokestatic 26, 3) := by decide +kernel
theorem dJ5_init_d00df_30 : decode cJ5_init_d00df 30 = .ok (.putfield 15, 3) := by decide +kernel
theorem dJ5_init_d00df_33 : decode cJ5_init_d00df 33 = .ok (.aload_n 0, 1) := by decide +kernel
theorem dJ5_init_d00df_34 : decode cJ5_init_d00df 34 = .ok (.iconst 1, 1) := by decide +kernel
theorem dJ5_init_d00df_35 : decode cJ5_init_d00df 35 = .ok (.putfield 22, 3) := by decide +kernel
theorem dJ5_init_d00df_38 : decode cJ5_init_d00df 38 = .ok (.return_, 1) := by decide +kernel
theorem dJ5_length_8abf5_0 : decode cJ5_length_8abf5 0 = .ok (.aload_n 0, 1) := by decide +kernel
theorem dJ5_length_8abf5_1 : decode cJ5_length_8abf5 1 = .ok (.getfield 79, 3) := by decide +kernel
theorem dJ5_length_8abf5_4 : decode cJ5_length_8abf5 4 = .ok (.ireturn, 1) := by decide +kernel
theorem dJ6_numberOfTrailingZeros_0f7a4_0 : decode cJ6_numberOfTrailingZeros_0f7a4 0 = .ok (.iload_n 0, 1) := by decide +kernel
theorem dJ6_numberOfTrailingZeros_0f7a4_1 : decode cJ6_numberOfTrailingZeros_0f7a4 1 = .ok (.iconst (-1), 1) := by decide +kernel
theorem dJ6_numberOfTrailingZeros_0f7a4_2 : decode cJ6_numberOfTrailingZeros_0f7a4 2 = .ok (.ixor, 1) := by decide +kernel
theorem dJ6_numberOfTrailingZeros_0f7a4_3 : decode cJ6_numberOfTrailingZeros_0f7a4 3 = .ok (.iload_n 0, 1) := by decide +kernel
theorem dJ6_numberOfTrailingZeros_0f7a4_4 : decode cJ6_numberOfTrailingZeros_0f7a4 4 = .ok (.iconst 1, 1) := by decide +kernel
theorem dJ6_numberOfTrailingZeros_0f7a4_5 : decode cJ6_numberOfTrailingZeros_0f7a4 5 = .ok (.isub, 1) := by decide +kernel
theorem dJ6_numberOfTrailingZeros_0f7a4_6 : decode cJ6_numberOfTrailingZeros_0f7a4 6 = .ok (.iand, 1) := by decide +kernel
theorem dJ6_numberOfTrailingZeros_0f7a4_7 : decode cJ6_numberOfTrailingZeros_0f7a4 7 = .ok (.istore_n 0, 1) := by decide +kernel
theorem dJ6_numberOfTrailingZeros_0f7a4_8 : decode cJ6_numberOfTrailingZeros_0f7a4 8 = .ok (.iload_n 0, 1) := by decide +kernel
theorem dJ6_numberOfTrailingZeros_0f7a4_9 : decode cJ6_numberOfTrailingZeros_0f7a4 9 = .ok (.ifCond .gt 8, 3) := by decide +kernel
theorem dJ6_numberOfTrailingZeros_0f7a4_12 : decode cJ6_numberOfTrailingZeros_0f7a4 12 = .ok (.iload_n 0, 1) := by decide +kernel
theorem dJ6_numberOfTrailingZeros_0f7a4_13 : decode cJ6_numberOfTrailingZeros_0f7a4 13 = .ok (.bipush 32, 2) := by decide +kernel
theorem dJ6_numberOfTrailingZeros_0f7a4_15 : decode cJ6_numberOfTrailingZeros_0f7a4 15 = .ok (.iand, 1) := by decide +kernel
theorem dJ6_numberOfTrailingZeros_0f7a4_16 : decode cJ6_numberOfTrailingZeros_0f7a4 16 = .ok (.ireturn, 1) := by decide +kernel
theorem dJ6_numberOfTrailingZeros_0f7a4_17 : decode cJ6_numberOfTrailingZeros_0f7a4 17 = .ok (.iconst 1, 1) := by decide +kernel
theorem dJ6_numberOfTrailingZeros_0f7a4_18 : decode cJ6_numberOfTrailingZeros_0f7a4 18 = .ok (.istore_n 1, 1) := by decide +kernel
theorem dJ6_numberOfTrailingZeros_0f7a4_19 : decode cJ6_numberOfTrailingZeros_0f7a4 19 = .ok (.iload_n 0, 1) := by decide +kernel
theorem dJ6_numberOfTrailingZeros_0f7a4_20 : decode cJ6_numberOfTrailingZeros_0f7a4 20 = .ok (.ldc_w 264, 3) := by decide +kernel
theorem dJ6_numberOfTrailingZeros_0f7a4_23 : decode cJ6_numberOfTrailingZeros_0f7a4 23 = .ok (.if_icmp .le 11, 3) := by decide +kernel
theorem dJ6_numberOfTrailingZeros_0f7a4_26 : decode cJ6_numberOfTrailingZeros_0f7a4 26 = .ok (.iinc 1 16, 3) := by decide +kernel
theorem dJ6_numberOfTrailingZeros_0f7a4_29 : decode cJ6_numberOfTrailingZeros_0f7a4 29 = .ok (.iload_n 0, 1) := by decide +kernel
theorem dJ6_numberOfTrailingZeros_0f7a4_30 : decode cJ6_numberOfTrailingZeros_0f7a4 30 = .ok (.bipush 16, 2) := by decide +kernel
theorem dJ6_numberOfTrailingZeros_0f7a4_32 : decode cJ6_numberOfTrailingZeros_0f7a4 32 = .ok (.iushr, 1) := by decide +kernel
theorem dJ6_numberOfTrailingZeros_0f7a4_33 : decode cJ6_numberOfTrailingZeros_0f7a4 33 = .ok (.istore_n 0, 1) := by decide +kernel
theorem dJ6_numberOfTrailingZeros_0f7a4_34 : decode cJ6_numberOfTrailingZeros_0f7a4 34 = .ok (.iload_n 0, 1) := by decide +kernel
theorem dJ6_numberOfTrailingZeros_0f7a4_35 : decode cJ6_numberOfTrailingZeros_0f7a4 35 = .ok (.sipush 256, 3) := by decide +kernel
theorem dJ6_numberOfTrailingZeros_0f7a4_38 : decode cJ6_numberOfTrailingZeros_0f7a4 38 = .ok (.if_icmp .le 11, 3) := by decide +kernel
theorem dJ6_numberOfTrailingZeros_0f7a4_41 : decode cJ6_numberOfTrailingZeros_0f7a4 41 = .ok (.iinc 1 8, 3) := by decide +kernel
theorem dJ6_numberOfTrailingZeros_0f7a4_44 : decode cJ6_numberOfTrailingZeros_0f7a4 44 = .ok (.iload_n 0, 1) := by decide +kernel
theorem dJ6_numberOfTrailingZeros_0f7a4_45 : decode cJ6_numberOfTrailingZeros_0f7a4 45 = .ok (.bipush 8, 2) := by decide +kernel
theorem dJ6_numberOfTrailingZeros_0f7a4_47 : decode cJ6_numberOfTrailingZeros_0f7a4 47 = .ok (.iushr, 1) := by decide +kernel
theorem dJ6_numberOfTrailingZeros_0f7a4_48 : decode cJ6_numberOfTrailingZeros_0f7a4 48 = .ok (.istore_n 0, 1) := by decide +kernel
theorem dJ6_numberOfTrailingZeros_0f7a4_49 : decode cJ6_numberOfTrailingZeros_0f7a4 49 = .ok (.iload_n 0, 1) := by decide +kernel
theorem dJ6_numberOfTrailingZeros_0f7a4_50 : decode cJ6_numberOfTrailingZeros_0f7a4 50 = .ok (.bipush 16, 2) := by decide +kernel
theorem dJ6_numberOfTrailingZeros_0f7a4_52 : decode cJ6_numberOfTrailingZeros_0f7a4 52 = .ok (.if_icmp .le 10, 3) := by decide +kernel
theorem dJ6_numberOfTrailingZeros_0f7a4_55 : decode cJ6_numberOfTrailingZeros_0f7a4 55 = .ok (.iinc 1 4, 3) := by decide +kernel
theorem dJ6_numberOfTrailingZeros_0f7a4_58 : decode cJ6_numberOfTrailingZeros_0f7a4 58 = .ok (.iload_n 0, 1) := by decide +kernel
theorem dJ6_numberOfTrailingZeros_0f7a4_59 : decode cJ6_numberOfTrailingZeros_0f7a4 59 = .ok (.iconst 4, 1) := by decide +kernel
theorem dJ6_numberOfTrailingZeros_0f7a4_60 : decode cJ6_numberOfTrailingZeros_0f7a4 60 = .ok (.iushr, 1) := by decide +kernel
theorem dJ6_numberOfTrailingZeros_0f7a4_61 : decode cJ6_numberOfTrailingZeros_0f7a4 61 = .ok (.istore_n 0, 1) := by decide +kernel
theorem dJ6_numberOfTrailingZeros_0f7a4_62 : decode cJ6_numberOfTrailingZeros_0f7a4 62 = .ok (.iload_n 0, 1) := by decide +kernel
theorem dJ6_numberOfTrailingZeros_0f7a4_63 : decode cJ6_numberOfTrailingZeros_0f7a4 63 = .ok (.iconst 4, 1) := by decide +kernel
theorem dJ6_numberOfTrailingZeros_0f7a4_64 : decode cJ6_numberOfTrailingZeros_0f7a4 64 = .ok (.if_icmp .le 10, 3) := by decide +kernel
theorem dJ6_numberOfTrailingZeros_0f7a4_67 : decode cJ6_numberOfTrailingZeros_0f7a4 67 = .ok (.iinc 1 2, 3) := by decide +kernel
theorem dJ6_numberOfTrailingZeros_0f7a4_70 : decode cJ6_numberOfTrailingZeros_0f7a4 70 = .ok (.iload_n 0, 1) := by decide +kernel
theorem dJ6_numberOfTrailingZeros_0f7a4_71 : decode cJ6_numberOfTrailingZeros_0f7a4 71 = .ok (.iconst 2, 1) := by decide +kernel
theorem dJ6_numberOfTrailingZeros_0f7a4_72 : decode cJ6_numberOfTrailingZeros_0f7a4 72 = .ok (.iushr, 1) := by decide +kernel
theorem dJ6_numberOfTrailingZeros_0f7a4_73 : decode cJ6_numberOfTrailingZeros_0f7a4 73 = .ok (.istore_n 0, 1) := by decide +kernel
theorem dJ6_numberOfTrailingZeros_0f7a4_74 : decode cJ6_numberOfTrailingZeros_0f7a4 74 = .ok (.iload_n 1, 1) := by decide +kernel
theorem dJ6_numberOfTrailingZeros_0f7a4_75 : decode cJ6_numberOfTrailingZeros_0f7a4 75 = .ok (.iload_n 0, 1) := by decide +kernel
theorem dJ6_numberOfTrailingZeros_0f7a4_76 : decode cJ6_numberOfTrailingZeros_0f7a4 76 = .ok (.iconst 1, 1) := by decide +kernel
theorem dJ6_numberOfTrailingZeros_0f7a4_77 : decode cJ6_numberOfTrailingZeros_0f7a4 77 = .ok (.iushr, 1) := by decide +kernel
theorem dJ6_numberOfTrailingZeros_0f7a4_78 : decode cJ6_numberOfTrailingZeros_0f7a4 78 = .ok (.iadd, 1) := by decide +kernel
theorem dJ6_numberOfTrailingZeros_0f7a4_79 : decode cJ6_numberOfTrailingZeros_0f7a4 79 = .ok (.ireturn, 1) := by decide +kernel
theorem dJ6_bitCount_0f7a4_0 : decode cJ6_bitCount_0f7a4 0 = .ok (.iload_n 0, 1) := by decide +kernel
theorem dJ6_bitCount_0f7a4_1 : decode cJ6_bitCount_0f7a4 1 = .ok (.iload_n 0, 1) := by decide +kernel
theorem dJ6_bitCount_0f7a4_2 : decode cJ6_bitCount_0f7a4 2 = .ok (.iconst 1, 1) := by decide +kernel
theorem dJ6_bitCount_0f7a4_3 : decode cJ6_bitCount_0f7a4 3 = .ok (.iushr, 1) := by decide +kernel
theorem dJ6_bitCount_0f7a4_4 : decode cJ6_bitCount_0f7a4 4 = .ok (.ldc_w 265, 3) := by decide +kernel
theorem dJ6_bitCount_0f7a4_7 : decode cJ6_bitCount_0f7a4 7 = .ok (.iand, 1) := by decide +kernel
theorem dJ6_bitCount_0f7a4_8 : decode cJ6_bitCount_0f7a4 8 = .ok (.isub, 1) := by decide +kernel
theorem dJ6_bitCount_0f7a4_9 : decode cJ6_bitCount_0f7a4 9 = .ok (.istore_n 0, 1) := by decide +kernel
theorem dJ6_bitCount_0f7a4_10 : decode cJ6_bitCount_0f7a4 10 = .ok (.iload_n 0, 1) := by decide +kernel
theorem dJ6_bitCount_0f7a4_11 : decode cJ6_bitCount_0f7a4 11 = .ok (.ldc_w 266, 3) := by decide +kernel
theorem dJ6_bitCount_0f7a4_14 : decode cJ6_bitCount_0f7a4 14 = .ok (.iand, 1) := by decide +kernel
theorem dJ6_bitCount_0f7a4_15 : decode cJ6_bitCount_0f7a4 15 = .ok (.iload_n 0, 1) := by decide +kernel
theorem dJ6_bitCount_0f7a4_16 : decode cJ6_bitCount_0f7a4 16 = .ok (.iconst 2, 1) := by decide +kernel
theorem dJ6_bitCount_0f7a4_17 : decode cJ6_bitCount_0f7a4 17 = .ok (.iushr, 1) := by decide +kernel
theorem dJ6_bitCount_0f7a4_18 : decode cJ6_bitCount_0f7a4 18 = .ok (.ldc_w 266, 3) := by decide +kernel
theorem dJ6_bitCount_0f7a4_21 : decode cJ6_bitCount_0f7a4 21 = .ok (.iand, 1) := by decide +kernel
theorem dJ6_bitCount_0f7a4_22 : decode cJ6_bitCount_0f7a4 22 = .ok (.iadd, 1) := by decide +kernel
theorem dJ6_bitCount_0f7a4_23 : decode cJ6_bitCount_0f7a4 23 = .ok (.istore_n 0, 1) := by decide +kernel
theorem dJ6_bitCount_0f7a4_24 : decode cJ6_bitCount_0f7a4 24 = .ok (.iload_n 0, 1) := by decide +kernel
theorem dJ6_bitCount_0f7a4_25 : decode cJ6_bitCount_0f7a4 25 = .ok (.iload_n 0, 1) := by decide +kernel
theorem dJ6_bitCount_0f7a4_26 : decode cJ6_bitCount_0f7a4 26 = .ok (.iconst 4, 1) := by decide +kernel
theorem dJ6_bitCount_0f7a4_27 : decode cJ6_bitCount_0f7a4 27 = .ok (.iushr, 1) := by decide +kernel
theorem dJ6_bitCount_0f7a4_28 : decode cJ6_bitCount_0f7a4 28 = .ok (.iadd, 1) := by decide +kernel
theorem dJ6_bitCount_0f7a4_29 : decode cJ6_bitCount_0f7a4 29 = .ok (.ldc_w 267, 3) := by decide +kernel
theorem dJ6_bitCount_0f7a4_32 : decode cJ6_bitCount_0f7a4 32 = .ok (.iand, 1) := by decide +kernel
theorem dJ6_bitCount_0f7a4_33 : decode cJ6_bitCount_0f7a4 33 = .ok (.istore_n 0, 1) := by decide +kernel
theorem dJ6_bitCount_0f7a4_34 : decode cJ6_bitCount_0f7a4 34 = .ok (.iload_n 0, 1) := by decide +kernel
theorem dJ6_bitCount_0f7a4_35 : decode cJ6_bitCount_0f7a4 35 = .ok (.iload_n 0, 1) := by decide +kernel
theorem dJ6_bitCount_0f7a4_36 : decode cJ6_bitCount_0f7a4 36 = .ok (.bipush 8, 2) := by decide +kernel
theorem dJ6_bitCount_0f7a4_38 : decode cJ6_bitCount_0f7a4 38 = .ok (.iushr, 1) := by decide +kernel
theorem dJ6_bitCount_0f7a4_39 : decode cJ6_bitCount_0f7a4 39 = .ok (.iadd, 1) := by decide +kernel
theorem dJ6_bitCount_0f7a4_40 : decode cJ6_bitCount_0f7a4 40 = .ok (.istore_n 0, 1) := by decide +kernel
theorem dJ6_bitCount_0f7a4_41 : decode cJ6_bitCount_0f7a4 41 = .ok (.iload_n 0, 1) := by decide +kernel
theorem dJ6_bitCount_0f7a4_42 : decode cJ6_bitCount_0f7a4 42 = .ok (.iload_n 0, 1) := by decide +kernel
theorem dJ6_bitCount_0f7a4_43 : decode cJ6_bitCount_0f7a4 43 = .ok (.bipush 16, 2) := by decide +kernel
theorem dJ6_bitCount_0f7a4_45 : decode cJ6_bitCount_0f7a4 45 = .ok (.iushr, 1) := by decide +kernel
theorem dJ6_bitCount_0f7a4_46 : decode cJ6_bitCount_0f7a4 46 = .ok (.iadd, 1) := by decide +kernel
theorem dJ6_bitCount_0f7a4_47 : decode cJ6_bitCount_0f7a4 47 = .ok (.istore_n 0, 1) := by decide +kernel
theorem dJ6_bitCount_0f7a4_48 : decode cJ6_bitCount_0f7a4 48 = .ok (.iload_n 0, 1) := by decide +kernel
theorem dJ6_bitCount_0f7a4_49 : decode cJ6_bitCount_0f7a4 49 = .ok (.bipush 63, 2) := by decide +kernel
theorem dJ6_bitCount_0f7a4_51 : decode cJ6_bitCount_0f7a4 51 = .ok (.iand, 1) := by decide +kernel
theorem dJ6_bitCount_0f7a4_52 : decode cJ6_bitCount_0f7a4 52 = .ok (.ireturn, 1) := by decide +kernel
theorem dJ9_max_7cf53_0 : decode cJ9_max_7cf53 0 = .ok (.iload_n 0, 1) := by decide +kernel
theorem dJ9_max_7cf53_1 : decode cJ9_max_7cf53 1 = .ok (.iload_n 1, 1) := by decide +kernel
theorem dJ9_max_7cf53_2 : decode cJ9_max_7cf53 2 = .ok (.if_icmp .lt 7, 3) := by decide +kernel
theorem dJ9_max_7cf53_5 : decode cJ9_max_7cf53 5 = .ok (.iload_n 0, 1) := by decide +kernel
theorem dJ9_max_7cf53_6 : decode cJ9_max_7cf53 6 = .ok (.goto 4, 3) := by decide +kernel
theorem dJ9_max_7cf53_9 : decode cJ9_max_7cf53 9 = .ok (.iload_n 1, 1) := by decide +kernel
theorem dJ9_max_7cf53_10 : decode cJ9_max_7cf53 10 = .ok (.ireturn, 1) := by decide +kernel
theorem dJ9_min_7cf53_0 : decode cJ9_min_7cf53 0 = .ok (.iload_n 0, 1) := by decide +kernel
theorem dJ9_min_7cf53_1 : decode cJ9_min_7cf53 1 = .ok (.iload_n 1, 1) := by decide +kernel
theorem dJ9_min_7cf53_2 : decode cJ9_min_7cf53 2 = .ok (.if_icmp .gt 7, 3) := by decide +kernel
theorem dJ9_min_7cf53_5 : decode cJ9_min_7cf53 5 = .ok (.iload_n 0, 1) := by decide +kernel
theorem dJ9_min_7cf53_6 : decode cJ9_min_7cf53 6 = .ok (.goto 4, 3) := by decide +kernel
theorem dJ9_min_7cf53_9 : decode cJ9_min_7cf53 9 = .ok (.iload_n 1, 1) := by decide +kernel
theorem dJ9_min_7cf53_10 : decode cJ9_min_7cf53 10 = .ok (.ireturn, 1) := by decide +kernel
theorem dJ4_init_da8c8_0 : decode cJ4_init_da8c8 0 = .ok (.aload_n 0, 1) := by decide +kernel
theorem dJ4_init_da8c8_1 : decode cJ4_init_da8c8 1 = .ok (.bipush 16, 2) := by decide +kernel
theorem dJ4_init_da8c8_3 : decode cJ4_init_da8c8 3 = .ok (.invokespecial 1, 3) := by decide +kernel
theorem dJ4_init_da8c8_6 : decode cJ4_init_da8c8 6 = .ok (.return_, 1) := by decide +kernel
theorem dJ4_length_8abf5_0 : decode cJ4_length_8abf5 0 = .ok (.aload_n 0, 1) := by decide +kernel
theorem dJ4_length_8abf5_1 : decode cJ4_length_8abf5 1 = .ok (.invokespecial 343, 3) := by decide +kernel
theorem dJ4_length_8abf5_4 : decode cJ4_length_8abf5 4 = .ok (.ireturn, 1) := by decide +kernel
theorem dJ2_newBytesFor_77867_0 : decode cJ2_newBytesFor_77867 0 = .ok (.iload_n 0, 1) := by decide +kernel
theorem dJ2_newBytesFor_77867_1 : decode cJ2_newBytesFor_77867 1 = .ok (.invokestatic 11, 3) := by decide +kernel
theorem dJ2_newBytesFor_77867_4 : decode cJ2_newBytesFor_77867 4 = .ok (.newarray .byte, 2) := by decide +kernel
theorem dJ2_newBytesFor_77867_6 : decode cJ2_newBytesFor_77867 6 = .ok (.areturn, 1) := by decide +kernel
theorem dJ2_newBytesLength_0f7a4_0 : decode cJ2_newBytesLength_0f7a4 0 = .ok (.iload_n 0, 1) := by decide +kernel
theorem dJ2_newBytesLength_0f7a4_1 : decode cJ2_newBytesLength_0f7a4 1 = .ok (.ifCond .ge 11, 3) := by decide +kernel
theorem dJ2_newBytesLength_0f7a4_4 : decode cJ2_newBytesLength_0f7a4 4 = .ok (.new 17, 3) := by decide +kernel
theorem dJ2_newBytesLength_0f7a4_7 : decode cJ2_newBytesLength_0f7a4 7 = .ok (.dup, 1) := by decide +kernel
theorem dJ2_newBytesLength_0f7a4_8 : decode cJ2_newBytesLength_0f7a4 8 = .ok (.invokespecial 19, 3) := by decide +kernel
theorem dJ2_newBytesLength_0f7a4_11 : decode cJ2_newBytesLength_0f7a4 11 = .ok (.athrow, 1) := by decide +kernel
theorem dJ2_newBytesLength_0f7a4_12 : decode cJ2_newBytesLength_0f7a4 12 = .ok (.iload_n 0, 1) := by decide +kernel
theorem dJ2_newBytesLength_0f7a4_13 : decode cJ2_newBytesLength_0f7a4 13 = .ok (.ldc 20, 2) := by decide +kernel
theorem dJ2_newBytesLength_0f7a4_15 : decode cJ2_newBytesLength_0f7a4 15 = .ok (.if_icmp .lt 40, 3) := by decide +kernel
theorem dJ2_newBytesLength_0f7a4_18 : decode cJ2_newBytesLength_0f7a4 18 = .ok (.new 21, 3) := by decide +kernel
theorem dJ2_newBytesLength_0f7a4_21 : decode cJ2_newBytesLength_0f7a4 21 = .ok (.dup, 1) := by decide +kernel
theorem dJ2_newBytesLength_0f7a4_22 : decode cJ2_newBytesLength_0f7a4 22 = .ok (.new 23, 3) := by decide +kernel
theorem dJ2_newBytesLength_0f7a4_25 : decode cJ2_newBytesLength_0f7a4 25 = .ok (.dup, 1) := by decide +kernel
theorem dJ2_newBytesLength_0f7a4_26 : decode cJ2_newBytesLength_0f7a4 26 = .ok (.invokespecial 25, 3) := by decide +kernel
theorem dJ2_newBytesLength_0f7a4_29 : decode cJ2_newBytesLength_0f7a4 29 = .ok (.ldc 26, 2) := by decide +kernel
theorem dJ2_newBytesLength_0f7a4_31 : decode cJ2_newBytesLength_0f7a4 31 = .ok (.invokevirtual 28, 3) := by decide +kernel
theorem dJ2_newBytesLength_0f7a4_34 : decode cJ2_newBytesLength_0f7a4 34 = .ok (.iload_n 0, 1) := by decide +kernel
theorem dJ2_newBytesLength_0f7a4_35 : decode cJ2_newBytesLength_0f7a4 35 = .ok (.invokevirtual 32, 3) := by decide +kernel
theorem dJ2_newBytesLength_0f7a4_38 : decode cJ2_newBytesLength_0f7a4 38 = .ok (.ldc 35, 2) := by decide +kernel
theorem dJ2_newBytesLength_0f7a4_40 : decode cJ2_newBytesLength_0f7a4 40 = .ok (.invokevirtual 28, 3) := by decide +kernel
theorem dJ2_newBytesLength_0f7a4_43 : decode cJ2_newBytesLength_0f7a4 43 = .ok (.ldc 20, 2) := by decide +kernel
theorem dJ2_newBytesLength_0f7a4_45 : decode cJ2_newBytesLength_0f7a4 45 = .ok (.invokevirtual 32, 3) := by decide +kernel
theorem dJ2_newBytesLength_0f7a4_48 : decode cJ2_newBytesLength_0f7a4 48 = .ok (.invokevirtual 37, 3) := by decide +kernel
theorem dJ2_newBytesLength_0f7a4_51 : decode cJ2_newBytesLength_0f7a4 51 = .ok (.invokespecial 41, 3) := by decide +kernel
theorem dJ2_newBytesLength_0f7a4_54 : decode cJ2_newBytesLength_0f7a4 54 = .ok (.athrow, 1) := by decide +kernel
theorem dJ2_newBytesLength_0f7a4_55 : decode cJ2_newBytesLength_0f7a4 55 = .ok (.iload_n 0, 1) := by decide +kernel
theorem dJ2_newBytesLength_0f7a4_56 : decode cJ2_newBytesLength_0f7a4 56 = .ok (.iconst 1, 1) := by decide +kernel
theorem dJ2_newBytesLength_0f7a4_57 : decode cJ2_newBytesLength_0f7a4 57 = .ok (.ishl, 1) := by decide +kernel
theorem dJ2_newBytesLength_0f7a4_58 : decode cJ2_newBytesLength_0f7a4 58 = .ok (.ireturn, 1) := by decide +kernel
theorem dJxa1e45_init_da8c8_0 : decode cJxa1e45_init_da8c8 0 = .ok (.aload_n 0, 1) := by decide +kernel
theorem dJxa1e45_init_da8c8_1 : decode cJxa1e45_init_da8c8 1 = .ok (.invokespecial 1, 3) := by decide +kernel
theorem dJxa1e45_init_da8c8_4 : decode cJxa1e45_init_da8c8 4 = .ok (.return_, 1) := by decide +kernel
theorem dJxc12de_init_da8c8_0 : decode cJxc12de_init_da8c8 0 = .ok (.aload_n 0, 1) := by decide +kernel
theorem dJxc12de_init_da8c8_1 : decode cJxc12de_init_da8c8 1 = .ok (.invokespecial 1, 3) := by decide +kernel
theorem dJxc12de_init_da8c8_4 : decode cJxc12de_init_da8c8 4 = .ok (.aload_n 0, 1) := by decide +kernel
theorem dJxc12de_init_da8c8_5 : decode cJxc12de_init_da8c8 5 = .ok (.iconst 0, 1) := by decide +kernel
theorem dJxc12de_init_da8c8_6 : decode cJxc12de_init_da8c8 6 = .ok (.putfield 7, 3) := by decide +kernel
theorem dJxc12de_init_da8c8_9 : decode cJxc12de_init_da8c8 9 = .ok (.return_, 1) := by decide +kernel
theorem dJx4a65c_init_da8c8_0 : decode cJx4a65c_init_da8c8 0 = .ok (.aload_n 0, 1) := by decide +kernel
theorem dJx4a65c_init_da8c8_1 : decode cJx4a65c_init_da8c8 1 = .ok (.invokespecial 1, 3) := by decide +kernel
theorem dJx4a65c_init_da8c8_4 : decode cJx4a65c_init_da8c8 4 = .ok (.aload_n 0, 1) := by decide +kernel
theorem dJx4a65c_init_da8c8_5 : decode cJx4a65c_init_da8c8 5 = .ok (.getstatic 39, 3) := by decide +kernel
theorem dJx4a65c_init_da8c8_8 : decode cJx4a65c_init_da8c8 8 = .ok (.putfield 9, 3) := by decide +kernel
theorem dJx4a65c_init_da8c8_11 : decode cJx4a65c_init_da8c8 11 = .ok (.return_, 1) := by decide +kernel
theorem dJx4a65c_grow_92f84_0 : decode cJx4a65c_grow_92f84 0 = .ok (.aload_n 0, 1) := by decide +kernel
theorem dJx4a65c_grow_92f84_1 : decode cJx4a65c_grow_92f84 1 = .ok (.getfield 9, 3) := by decide +kernel
theorem dJx4a65c_grow_92f84_4 : decode cJx4a65c_grow_92f84 4 = .ok (.arraylength, 1) := by decide +kernel
theorem dJx4a65c_grow_92f84_5 : decode cJx4a65c_grow_92f84 5 = .ok (.istore_n 2, 1) := by decide +kernel
theorem dJx4a65c_grow_92f84_6 : decode cJx4a65c_grow_92f84 6 = .ok (.iload_n 2, 1) := by decide +kernel
theorem dJx4a65c_grow_92f84_7 : decode cJx4a65c_grow_92f84 7 = .ok (.ifCond .gt 13, 3) := by decide +kernel
theorem dJx4a65c_grow_92f84_10 : decode cJx4a65c_grow_92f84 10 = .ok (.aload_n 0, 1) := by decide +kernel
theorem dJx4a65c_grow_92f84_11 : decode cJx4a65c_grow_92f84 11 = .ok (.getfield 9, 3) := by decide +kernel
theorem dJx4a65c_grow_92f84_14 : decode cJx4a65c_grow_92f84 14 = .ok (.getstatic 39, 3) := by decide +kernel
theorem dJx4a65c_grow_92f84_17 : decode cJx4a65c_grow_92f84 17 = .ok (.if_acmp .eq 28, 3) := by decide +kernel
theorem dJx4a65c_grow_92f84_20 : decode cJx4a65c_grow_92f84 20 = .ok (.iload_n 2, 1) := by decide +kernel
theorem dJx4a65c_grow_92f84_21 : decode cJx4a65c_grow_92f84 21 = .ok (.iload_n 1, 1) := by decide +kernel
theorem dJx4a65c_grow_92f84_22 : decode cJx4a65c_grow_92f84 22 = .ok (.iload_n 2, 1) := by decide +kernel
theorem dJx4a65c_grow_92f84_23 : decode cJx4a65c_grow_92f84 23 = .ok (.isub, 1) := by decide +kernel
theorem dJx4a65c_grow_92f84_24 : decode cJx4a65c_grow_92f84 24 = .ok (.iload_n 2, 1) := by decide +kernel
theorem dJx4a65c_grow_92f84_25 : decode cJx4a65c_grow_92f84 25 = .ok (.iconst 1, 1) := by decide +kernel
theorem dJx4a65c_grow_92f84_26 : decode cJx4a65c_grow_92f84 26 = .ok (.ishr, 1) := by decide +kernel
theorem dJx4a65c_grow_92f84_27 : decode cJx4a65c_grow_92f84 27 = .ok (.invokestatic 73, 3) := by decide +kernel
theorem dJx4a65c_grow_92f84_30 : decode cJx4a65c_grow_92f84 30 = .ok (.istore_n 3, 1) := by decide +kernel
theorem dJx4a65c_grow_92f84_31 : decode cJx4a65c_grow_92f84 31 = .ok (.aload_n 0, 1) := by decide +kernel
theorem dJx4a65c_grow_92f84_32 : decode cJx4a65c_grow_92f84 32 = .ok (.aload_n 0, 1) := by decide +kernel
theorem dJx4a65c_grow_92f84_33 : decode cJx4a65c_grow_92f84 33 = .ok (.getfield 9, 3) := by decide +kernel
theorem dJx4a65c_grow_92f84_36 : decode cJx4a65c_grow_92f84 36 = .ok (.iload_n 3, 1) := by decide +kernel
theorem dJx4a65c_grow_92f84_37 : decode cJx4a65c_grow_92f84 37 = .ok (.invokestatic 66, 3) := by decide +kernel
theorem dJx4a65c_grow_92f84_40 : decode cJx4a65c_grow_92f84 40 = .ok (.dup_x1, 1) := by decide +kernel
theorem dJx4a65c_grow_92f84_41 : decode cJx4a65c_grow_92f84 41 = .ok (.putfield 9, 3) := by decide +kernel
theorem dJx4a65c_grow_92f84_44 : decode cJx4a65c_grow_92f84 44 = .ok (.areturn, 1) := by decide +kernel
theorem dJx4a65c_grow_92f84_45 : decode cJx4a65c_grow_92f84 45 = .ok (.aload_n 0, 1) := by decide +kernel
theorem dJx4a65c_grow_92f84_46 : decode cJx4a65c_grow_92f84 46 = .ok (.bipush 10, 2) := by decide +kernel
theorem dJx4a65c_grow_92f84_48 : decode cJx4a65c_grow_92f84 48 = .ok (.iload_n 1, 1) := by decide +kernel
theorem dJx4a65c_grow_92f84_49 : decode cJx4a65c_grow_92f84 49 = .ok (.invokestatic 79, 3) := by decide +kernel
theorem dJx4a65c_grow_92f84_52 : decode cJx4a65c_grow_92f84 52 = .ok (.anewarray 7, 3) := by decide +kernel
theorem dJx4a65c_grow_92f84_55 : decode cJx4a65c_grow_92f84 55 = .ok (.dup_x1, 1) := by decide +kernel
theorem dJx4a65c_grow_92f84_56 : decode cJx4a65c_grow_92f84 56 = .ok (.putfield 9, 3) := by decide +kernel
theorem dJx4a65c_grow_92f84_59 : decode cJx4a65c_grow_92f84 59 = .ok (.areturn, 1) := by decide +kernel
theorem dJx4a65c_grow_d5877_0 : decode cJx4a65c_grow_d5877 0 = .ok (.aload_n 0, 1) := by decide +kernel
theorem dJx4a65c_grow_d5877_1 : decode cJx4a65c_grow_d5877 1 = .ok (.aload_n 0, 1) := by decide +kernel
theorem dJx4a65c_grow_d5877_2 : decode cJx4a65c_grow_d5877 2 = .ok (.getfield 48, 3) := by decide +kernel
theorem dJx4a65c_grow_d5877_5 : decode cJx4a65c_grow_d5877 5 = .ok (.iconst 1, 1) := by decide +kernel
theorem dJx4a65c_grow_d5877_6 : decode cJx4a65c_grow_d5877 6 = .ok (.iadd, 1) := by decide +kernel
theorem dJx4a65c_grow_d5877_7 : decode cJx4a65c_grow_d5877 7 = .ok (.invokevirtual 69, 3) := by decide +kernel
theorem dJx4a65c_grow_d5877_10 : decode cJx4a65c_grow_d5877 10 = .ok (.areturn, 1) := by decide +kernel
theorem dJx4a65c_size_8abf5_0 : decode cJx4a65c_size_8abf5 0 = .ok (.aload_n 0, 1) := by decide +kernel
theorem dJx4a65c_size_8abf5_1 : decode cJx4a65c_size_8abf5 1 = .ok (.getfield 48, 3) := by decide +kernel
theorem dJx4a65c_size_8abf5_4 : decode cJx4a65c_size_8abf5 4 = .ok (.ireturn, 1) := by decide +kernel
theorem dJx4a65c_elementData_915e3_0 : decode cJx4a65c_elementData_915e3 0 = .ok (.aload_n 0, 1) := by decide +kernel
theorem dJx4a65c_elementData_915e3_1 : decode cJx4a65c_elementData_915e3 1 = .ok (.getfield 9, 3) := by decide +kernel
theorem dJx4a65c_elementData_915e3_4 : decode cJx4a65c_elementData_915e3 4 = .ok (.iload_n 1, 1) := by decide +kernel
theorem dJx4a65c_elementData_915e3_5 : decode cJx4a65c_elementData_915e3 5 = .ok (.aaload, 1) := by decide +kernel
theorem dJx4a65c_elementData_915e3_6 : decode cJx4a65c_elementData_915e3 6 = .ok (.areturn, 1) := by decide +kernel
theorem dJx4a65c_get_915e3_0 : decode cJx4a65c_get_915e3 0 = .ok (.iload_n 1, 1) := by decide +kernel
theorem dJx4a65c_get_915e3_1 : decode cJx4a65c_get_915e3 1 = .ok (.aload_n 0, 1) := by decide +kernel
theorem dJx4a65c_get_915e3_2 : decode cJx4a65c_get_915e3 2 = .ok (.getfield 48, 3) := by decide +kernel
theorem dJx4a65c_get_915e3_5 : decode cJx4a65c_get_915e3 5 = .ok (.invokestatic 118, 3) := by decide +kernel
theorem dJx4a65c_get_915e3_8 : decode cJx4a65c_get_915e3 8 = .ok (.pop, 1) := by decide +kernel
theorem dJx4a65c_get_915e3_9 : decode cJx4a65c_get_915e3 9 = .ok (.aload_n 0, 1) := by decide +kernel
theorem dJx4a65c_get_915e3_10 : decode cJx4a65c_get_915e3 10 = .ok (.iload_n 1, 1) := by decide +kernel
theorem dJx4a65c_get_915e3_11 : decode cJx4a65c_get_915e3 11 = .ok (.invokevirtual 123, 3) := by decide +kernel
theorem dJx4a65c_get_915e3_14 : decode cJx4a65c_get_915e3 14 = .ok (.areturn, 1) := by decide +kernel
theorem dJx4a65c_add_72be8_0 : decode cJx4a65c_add_72be8 0 = .ok (.iload_n 3, 1) := by decide +kernel
theorem dJx4a65c_add_72be8_1 : decode cJx4a65c_add_72be8 1 = .ok (.aload_n 2, 1) := by decide +kernel
theorem dJx4a65c_add_72be8_2 : decode cJx4a65c_add_72be8 2 = .ok (.arraylength, 1) := by decide +kernel
theorem dJx4a65c_add_72be8_3 : decode cJx4a65c_add_72be8 3 = .ok (.if_icmp .ne 8, 3) := by decide +kernel
theorem dJx4a65c_add_72be8_6 : decode cJx4a65c_add_72be8 6 = .ok (.aload_n 0, 1) := by decide +kernel
theorem dJx4a65c_add_72be8_7 : decode cJx4a65c_add_72be8 7 = .ok (.invokevirtual 129, 3) := by decide +kernel
theorem dJx4a65c_add_72be8_10 : decode cJx4a65c_add_72be8 10 = .ok (.astore_n 2, 1) := by decide +kernel
theorem dJx4a65c_add_72be8_11 : decode cJx4a65c_add_72be8 11 = .ok (.aload_n 2, 1) := by decide +kernel
theorem dJx4a65c_add_72be8_12 : decode cJx4a65c_add_72be8 12 = .ok (.iload_n 3, 1) := by decide +kernel
theorem dJx4a65c_add_72be8_13 : decode cJx4a65c_add_72be8 13 = .ok (.aload_n 1, 1) := by decide +kernel
theorem dJx4a65c_add_72be8_14 : decode cJx4a65c_add_72be8 14 = .ok (.aastore, 1) := by decide +kernel
theorem dJx4a65c_add_72be8_15 : decode cJx4a65c_add_72be8 15 = .ok (.aload_n 0, 1) := by decide +kernel
theorem dJx4a65c_add_72be8_16 : decode cJx4a65c_add_72be8 16 = .ok (.iload_n 3, 1) := by decide +kernel
theorem dJx4a65c_add_72be8_17 : decode cJx4a65c_add_72be8 17 = .ok (.iconst 1, 1) := by decide +kernel
theorem dJx4a65c_add_72be8_18 : decode cJx4a65c_add_72be8 18 = .ok (.iadd, 1) := by decide +kernel
theorem dJx4a65c_add_72be8_19 : decode cJx4a65c_add_72be8 19 = .ok (.putfield 48, 3) := by decide +kernel
theorem dJx4a65c_add_72be8_22 : decode cJx4a65c_add_72be8 22 = .ok (.return_, 1) := by decide +kernel
theorem dJx4a65c_add_9ea2d_0 : decode cJx4a65c_add_9ea2d 0 = .ok (.aload_n 0, 1) := by decide +kernel
theorem dJx4a65c_add_9ea2d_1 : decode cJx4a65c_add_9ea2d 1 = .ok (.dup, 1) := by decide +kernel
theorem dJx4a65c_add_9ea2d_2 : decode cJx4a65c_add_9ea2d 2 = .ok (.getfield 63, 3) := by decide +kernel
theorem dJx4a65c_add_9ea2d_5 : decode cJx4a65c_add_9ea2d 5 = .ok (.iconst 1, 1) := by decide +kernel
theorem dJx4a65c_add_9ea2d_6 : decode cJx4a65c_add_9ea2d 6 = .ok (.iadd, 1) := by decide +kernel
theorem dJx4a65c_add_9ea2d_7 : decode cJx4a65c_add_9ea2d 7 = .ok (.putfield 63, 3) := by decide +kernel
theorem dJx4a65c_add_9ea2d_10 : decode cJx4a65c_add_9ea2d 10 = .ok (.aload_n 0, 1) := by decide +kernel
theorem dJx4a65c_add_9ea2d_11 : decode cJx4a65c_add_9ea2d 11 = .ok (.aload_n 1, 1) := by decide +kernel
theorem dJx4a65c_add_9ea2d_12 : decode cJx4a65c_add_9ea2d 12 = .ok (.aload_n 0, 1) := by decide +kernel
theorem dJx4a65c_add_9ea2d_13 : decode cJx4a65c_add_9ea2d 13 = .ok (.getfield 9, 3) := by decide +kernel
theorem dJx4a65c_add_9ea2d_16 : decode cJx4a65c_add_9ea2d 16 = .ok (.aload_n 0, 1) := by decide +kernel
theorem dJx4a65c_add_9ea2d_17 : decode cJx4a65c_add_9ea2d 17 = .ok (.getfield 48, 3) := by decide +kernel
theorem dJx4a65c_add_9ea2d_20 : decode cJx4a65c_add_9ea2d 20 = .ok (.invokevirtual 131, 3) := by decide +kernel
theorem dJx4a65c_add_9ea2d_23 : decode cJx4a65c_add_9ea2d 23 = .ok (.iconst 1, 1) := by decide +kernel
theorem dJx4a65c_add_9ea2d_24 : decode cJx4a65c_add_9ea2d 24 = .ok (.ireturn, 1) := by decide +kernel
theorem dJx4a65c_remove_915e3_0 : decode cJx4a65c_remove_915e3 0 = .ok (.iload_n 1, 1) := by decide +kernel
theorem dJx4a65c_remove_915e3_1 : decode cJx4a65c_remove_915e3 1 = .ok (.aload_n 0, 1) := by decide +kernel
theorem dJx4a65c_remove_915e3_2 : decode cJx4a65c_remove_915e3 2 = .ok (.getfield 48, 3) := by decide +kernel
theorem dJx4a65c_remove_915e3_5 : decode cJx4a65c_remove_915e3 5 = .ok (.invokestatic 118, 3) := by decide +kernel
theorem dJx4a65c_remove_915e3_8 : decode cJx4a65c_remove_915e3 8 = .ok (.pop, 1) := by decide +kernel
theorem dJx4a65c_remove_915e3_9 : decode cJx4a65c_remove_915e3 9 = .ok (.aload_n 0, 1) := by decide +kernel
theorem dJx4a65c_remove_915e3_10 : decode cJx4a65c_remove_915e3 10 = .ok (.getfield 9, 3) := by decide +kernel
theorem dJx4a65c_remove_915e3_13 : decode cJx4a65c_remove_915e3 13 = .ok (.astore_n 2, 1) := by decide +kernel
theorem dJx4a65c_remove_915e3_14 : decode cJx4a65c_remove_915e3 14 = .ok (.aload_n 2, 1) := by decide +kernel
theorem dJx4a65c_remove_915e3_15 : decode cJx4a65c_remove_915e3 15 = .ok (.iload_n 1, 1) := by decide +kernel
theorem dJx4a65c_remove_915e3_16 : decode cJx4a65c_remove_915e3 16 = .ok (.aaload, 1) := by decide +kernel
theorem dJx4a65c_remove_915e3_17 : decode cJx4a65c_remove_915e3 17 = .ok (.astore_n 3, 1) := by decide +kernel
theorem dJx4a65c_remove_915e3_18 : decode cJx4a65c_remove_915e3 18 = .ok (.aload_n 0, 1) := by decide +kernel
theorem dJx4a65c_remove_915e3_19 : decode cJx4a65c_remove_915e3 19 = .ok (.aload_n 2, 1) := by decide +kernel
theorem dJx4a65c_remove_915e3_20 : decode cJx4a65c_remove_915e3 20 = .ok (.iload_n 1, 1) := by decide +kernel
theorem dJx4a65c_remove_915e3_21 : decode cJx4a65c_remove_915e3 21 = .ok (.invokevirtual 144, 3) := by decide +kernel
theorem dJx4a65c_remove_915e3_24 : decode cJx4a65c_remove_915e3 24 = .ok (.aload_n 3, 1) := by decide +kernel
theorem dJx4a65c_remove_915e3_25 : decode cJx4a65c_remove_915e3 25 = .ok (.areturn, 1) := by decide +kernel
theorem dJx4a65c_fastRemove_b59b0_0 : decode cJx4a65c_fastRemove_b59b0 0 = .ok (.aload_n 0, 1) := by decide +kernel
theorem dJx4a65c_fastRemove_b59b0_1 : decode cJx4a65c_fastRemove_b59b0 1 = .ok (.dup, 1) := by decide +kernel
theorem dJx4a65c_fastRemove_b59b0_2 : decode cJx4a65c_fastRemove_b59b0 2 = .ok (.getfield 63, 3) := by decide +kernel
theorem dJx4a65c_fastRemove_b59b0_5 : decode cJx4a65c_fastRemove_b59b0 5 = .ok (.iconst 1, 1) := by decide +kernel
theorem dJx4a65c_fastRemove_b59b0_6 : decode cJx4a65c_fastRemove_b59b0 6 = .ok (.iadd, 1) := by decide +kernel
theorem dJx4a65c_fastRemove_b59b0_7 : decode cJx4a65c_fastRemove_b59b0 7 = .ok (.putfield 63, 3) := by decide +kernel
theorem dJx4a65c_fastRemove_b59b0_10 : decode cJx4a65c_fastRemove_b59b0 10 = .ok (.aload_n 0, 1) := by decide +kernel
theorem dJx4a65c_fastRemove_b59b0_11 : decode cJx4a65c_fastRemove_b59b0 11 = .ok (.getfield 48, 3) := by decide +kernel
theorem dJx4a65c_fastRemove_b59b0_14 : decode cJx4a65c_fastRemove_b59b0 14 = .ok (.iconst 1, 1) := by decide +kernel
theorem dJx4a65c_fastRemove_b59b0_15 : decode cJx4a65c_fastRemove_b59b0 15 = .ok (.isub, 1) := by decide +kernel
theorem dJx4a65c_fastRemove_b59b0_16 : decode cJx4a65c_fastRemove_b59b0 16 = .ok (.dup, 1) := by decide +kernel
theorem dJx4a65c_fastRemove_b59b0_17 : decode cJx4a65c_fastRemove_b59b0 17 = .ok (.istore_n 3, 1) := by decide +kernel
theorem dJx4a65c_fastRemove_b59b0_18 : decode cJx4a65c_fastRemove_b59b0 18 = .ok (.iload_n 2, 1) := by decide +kernel
theorem dJx4a65c_fastRemove_b59b0_19 : decode cJx4a65c_fastRemove_b59b0 19 = .ok (.if_icmp .le 15, 3) := by decide +kernel
theorem dJx4a65c_fastRemove_b59b0_22 : decode cJx4a65c_fastRemove_b59b0 22 = .ok (.aload_n 1, 1) := by decide +kernel
theorem dJx4a65c_fastRemove_b59b0_23 : decode cJx4a65c_fastRemove_b59b0 23 = .ok (.iload_n 2, 1) := by decide +kernel
theorem dJx4a65c_fastRemove_b59b0_24 : decode cJx4a65c_fastRemove_b59b0 24 = .ok (.iconst 1, 1) := by decide +kernel
theorem dJx4a65c_fastRemove_b59b0_25 : decode cJx4a65c_fastRemove_b59b0 25 = .ok (.iadd, 1) := by decide +kernel
theorem dJx4a65c_fastRemove_b59b0_26 : decode cJx4a65c_fastRemove_b59b0 26 = .ok (.aload_n 1, 1) := by decide +kernel
theorem dJx4a65c_fastRemove_b59b0_27 : decode cJx4a65c_fastRemove_b59b0 27 = .ok (.iload_n 2, 1) := by decide +kernel
theorem dJx4a65c_fastRemove_b59b0_28 : decode cJx4a65c_fastRemove_b59b0 28 = .ok (.iload_n 3, 1) := by decide +kernel
theorem dJx4a65c_fastRemove_b59b0_29 : decode cJx4a65c_fastRemove_b59b0 29 = .ok (.iload_n 2, 1) := by decide +kernel
theorem dJx4a65c_fastRemove_b59b0_30 : decode cJx4a65c_fastRemove_b59b0 30 = .ok (.isub, 1) := by decide +kernel
theorem dJx4a65c_fastRemove_b59b0_31 : decode cJx4a65c_fastRemove_b59b0 31 = .ok (.invokestatic 112, 3) := by decide +kernel
theorem dJx4a65c_fastRemove_b59b0_34 : decode cJx4a65c_fastRemove_b59b0 34 = .ok (.aload_n 1, 1) := by decide +kernel
theorem dJx4a65c_fastRemove_b59b0_35 : decode cJx4a65c_fastRemove_b59b0 35 = .ok (.aload_n 0, 1) := by decide +kernel
theorem dJx4a65c_fastRemove_b59b0_36 : decode cJx4a65c_fastRemove_b59b0 36 = .ok (.iload_n 3, 1) := by decide +kernel
theorem dJx4a65c_fastRemove_b59b0_37 : decode cJx4a65c_fastRemove_b59b0 37 = .ok (.dup_x1, 1) := by decide +kernel
theorem dJx4a65c_fastRemove_b59b0_38 : decode cJx4a65c_fastRemove_b59b0 38 = .ok (.putfield 48, 3) := by decide +kernel
theorem dJx4a65c_fastRemove_b59b0_41 : decode cJx4a65c_fastRemove_b59b0 41 = .ok (.aconst_null, 1) := by decide +kernel
theorem dJx4a65c_fastRemove_b59b0_42 : decode cJx4a65c_fastRemove_b59b0 42 = .ok (.aastore, 1) := by decide +kernel
theorem dJx4a65c_fastRemove_b59b0_43 : decode cJx4a65c_fastRemove_b59b0 43 = .ok (.return_, 1) := by decide +kernel
theorem dJx4a65c_clear_da8c8_0 : decode cJx4a65c_clear_da8c8 0 = .ok (.aload_n 0, 1) := by decide +kernel
theorem dJx4a65c_clear_da8c8_1 : decode cJx4a65c_clear_da8c8 1 = .ok (.dup, 1) := by decide +kernel
theorem dJx4a65c_clear_da8c8_2 : decode cJx4a65c_clear_da8c8 2 = .ok (.getfield 63, 3) := by decide +kernel
theorem dJx4a65c_clear_da8c8_5 : decode cJx4a65c_clear_da8c8 5 = .ok (.iconst 1, 1) := by decide +kernel
theorem dJx4a65c_clear_da8c8_6 : decode cJx4a65c_clear_da8c8 6 = .ok (.iadd, 1) := by decide +kernel
theorem dJx4a65c_clear_da8c8_7 : decode cJx4a65c_clear_da8c8 7 = .ok (.putfield 63, 3) := by decide +kernel
theorem dJx4a65c_clear_da8c8_10 : decode cJx4a65c_clear_da8c8 10 = .ok (.aload_n 0, 1) := by decide +kernel
theorem dJx4a65c_clear_da8c8_11 : decode cJx4a65c_clear_da8c8 11 = .ok (.getfield 9, 3) := by decide +kernel
theorem dJx4a65c_clear_da8c8_14 : decode cJx4a65c_clear_da8c8 14 = .ok (.astore_n 1, 1) := by decide +kernel
theorem dJx4a65c_clear_da8c8_15 : decode cJx4a65c_clear_da8c8 15 = .ok (.aload_n 0, 1) := by decide +kernel
theorem dJx4a65c_clear_da8c8_16 : decode cJx4a65c_clear_da8c8 16 = .ok (.getfield 48, 3) := by decide +kernel
theorem dJx4a65c_clear_da8c8_19 : decode cJx4a65c_clear_da8c8 19 = .ok (.istore_n 2, 1) := by decide +kernel
theorem dJx4a65c_clear_da8c8_20 : decode cJx4a65c_clear_da8c8 20 = .ok (.aload_n 0, 1) := by decide +kernel
theorem dJx4a65c_clear_da8c8_21 : decode cJx4a65c_clear_da8c8 21 = .ok (.iconst 0, 1) := by decide +kernel
theorem dJx4a65c_clear_da8c8_22 : decode cJx4a65c_clear_da8c8 22 = .ok (.dup_x1, 1) := by decide +kernel
theorem dJx4a65c_clear_da8c8_23 : decode cJx4a65c_clear_da8c8 23 = .ok (.putfield 48, 3) := by decide +kernel
theorem dJx4a65c_clear_da8c8_26 : decode cJx4a65c_clear_da8c8 26 = .ok (.istore_n 3, 1) := by decide +kernel
theorem dJx4a65c_clear_da8c8_27 : decode cJx4a65c_clear_da8c8 27 = .ok (.iload_n 3, 1) := by decide +kernel
theorem dJx4a65c_clear_da8c8_28 : decode cJx4a65c_clear_da8c8 28 = .ok (.iload_n 2, 1) := by decide +kernel
theorem dJx4a65c_clear_da8c8_29 : decode cJx4a65c_clear_da8c8 29 = .ok (.if_icmp .ge 13, 3) := by decide +kernel
theorem dJx4a65c_clear_da8c8_32 : decode cJx4a65c_clear_da8c8 32 = .ok (.aload_n 1, 1) := by decide +kernel
theorem dJx4a65c_clear_da8c8_33 : decode cJx4a65c_clear_da8c8 33 = .ok (.iload_n 3, 1) := by decide +kernel
theorem dJx4a65c_clear_da8c8_34 : decode cJx4a65c_clear_da8c8 34 = .ok (.aconst_null, 1) := by decide +kernel
theorem dJx4a65c_clear_da8c8_35 : decode cJx4a65c_clear_da8c8 35 = .ok (.aastore, 1) := by decide +kernel
theorem dJx4a65c_clear_da8c8_36 : decode cJx4a65c_clear_da8c8 36 = .ok (.iinc 3 1, 3) := by decide +kernel
theorem dJx4a65c_clear_da8c8_39 : decode cJx4a65c_clear_da8c8 39 = .ok (.goto (-12), 3) := by decide +kernel
theorem dJx4a65c_clear_da8c8_42 : decode cJx4a65c_clear_da8c8 42 = .ok (.return_, 1) := by decide +kernel
theorem dJ7_copyOf_1904c_0 : decode cJ7_copyOf_1904c 0 = .ok (.aload_n 0, 1) := by decide +kernel
theorem dJ7_copyOf_1904c_1 : decode cJ7_copyOf_1904c 1 = .ok (.iload_n 1, 1) := by decide +kernel
theorem dJ7_copyOf_1904c_2 : decode cJ7_copyOf_1904c 2 = .ok (.aload_n 0, 1) := by decide +kernel
theorem dJ7_copyOf_1904c_3 : decode cJ7_copyOf_1904c 3 = .ok (.invokevirtual 86, 3) := by decide +kernel
theorem dJ7_copyOf_1904c_6 : decode cJ7_copyOf_1904c 6 = .ok (.invokestatic 300, 3) := by decide +kernel
theorem dJ7_copyOf_1904c_9 : decode cJ7_copyOf_1904c 9 = .ok (.areturn, 1) := by decide +kernel
theorem dJ7_copyOf_6403c_0 : decode cJ7_copyOf_6403c 0 = .ok (.aload_n 2, 1) := by decide +kernel
theorem dJ7_copyOf_6403c_1 : decode cJ7_copyOf_6403c 1 = .ok (.ldc 110, 2) := by decide +kernel
theorem dJ7_copyOf_6403c_3 : decode cJ7_copyOf_6403c 3 = .ok (.if_acmp .ne 10, 3) := by decide +kernel
theorem dJ7_copyOf_6403c_6 : decode cJ7_copyOf_6403c 6 = .ok (.iload_n 1, 1) := by decide +kernel
theorem dJ7_copyOf_6403c_7 : decode cJ7_copyOf_6403c 7 = .ok (.anewarray 2, 3) := by decide +kernel
theorem dJ7_copyOf_6403c_10 : decode cJ7_copyOf_6403c 10 = .ok (.goto 14, 3) := by decide +kernel
theorem dJ7_copyOf_6403c_13 : decode cJ7_copyOf_6403c 13 = .ok (.aload_n 2, 1) := by decide +kernel
theorem dJ7_copyOf_6403c_14 : decode cJ7_copyOf_6403c 14 = .ok (.invokevirtual 90, 3) := by decide +kernel
theorem dJ7_copyOf_6403c_17 : decode cJ7_copyOf_6403c 17 = .ok (.iload_n 1, 1) := by decide +kernel
theorem dJ7_copyOf_6403c_18 : decode cJ7_copyOf_6403c 18 = .ok (.invokestatic 95, 3) := by decide +kernel
theorem dJ7_copyOf_6403c_21 : decode cJ7_copyOf_6403c 21 = .ok (.checkcast 110, 3) := by decide +kernel
theorem dJ7_copyOf_6403c_24 : decode cJ7_copyOf_6403c 24 = .ok (.astore_n 3, 1) := by decide +kernel
theorem dJ7_copyOf_6403c_25 : decode cJ7_copyOf_6403c 25 = .ok (.aload_n 0, 1) := by decide +kernel
theorem dJ7_copyOf_6403c_26 : decode cJ7_copyOf_6403c 26 = .ok (.iconst 0, 1) := by decide +kernel
theorem dJ7_copyOf_6403c_27 : decode cJ7_copyOf_6403c 27 = .ok (.aload_n 3, 1) := by decide +kernel
theorem dJ7_copyOf_6403c_28 : decode cJ7_copyOf_6403c 28 = .ok (.iconst 0, 1) := by decide +kernel
theorem dJ7_copyOf_6403c_29 : decode cJ7_copyOf_6403c 29 = .ok (.aload_n 0, 1) := by decide +kernel
theorem dJ7_copyOf_6403c_30 : decode cJ7_copyOf_6403c 30 = .ok (.arraylength, 1) := by decide +kernel
theorem dJ7_copyOf_6403c_31 : decode cJ7_copyOf_6403c 31 = .ok (.iload_n 1, 1) := by decide +kernel
theorem dJ7_copyOf_6403c_32 : decode cJ7_copyOf_6403c 32 = .ok (.invokestatic 304, 3) := by decide +kernel
theorem dJ7_copyOf_6403c_35 : decode cJ7_copyOf_6403c 35 = .ok (.invokestatic 150, 3) := by decide +kernel
theorem dJ7_copyOf_6403c_38 : decode cJ7_copyOf_6403c 38 = .ok (.aload_n 3, 1) := by decide +kernel
theorem dJ7_copyOf_6403c_39 : decode cJ7_copyOf_6403c 39 = .ok (.areturn, 1) := by decide +kernel
theorem dJ15_checkIndex_7cf53_0 : decode cJ15_checkIndex_7cf53 0 = .ok (.iload_n 0, 1) := by decide +kernel
theorem dJ15_checkIndex_7cf53_1 : decode cJ15_checkIndex_7cf53 1 = .ok (.iload_n 1, 1) := by decide +kernel
theorem dJ15_checkIndex_7cf53_2 : decode cJ15_checkIndex_7cf53 2 = .ok (.aconst_null, 1) := by decide +kernel
theorem dJ15_checkIndex_7cf53_3 : decode cJ15_checkIndex_7cf53 3 = .ok (.invokestatic 105, 3) := by decide +kernel
theorem dJ15_checkIndex_7cf53_6 : decode cJ15_checkIndex_7cf53 6 = .ok (.ireturn, 1) := by decide +kernel
theorem dJ8_newLength_cabcc_0 : decode cJ8_newLength_cabcc 0 = .ok (.iload_n 0, 1) := by decide +kernel
theorem dJ8_newLength_cabcc_1 : decode cJ8_newLength_cabcc 1 = .ok (.iload_n 1, 1) := by decide +kernel
theorem dJ8_newLength_cabcc_2 : decode cJ8_newLength_cabcc 2 = .ok (.iload_n 2, 1) := by decide +kernel
theorem dJ8_newLength_cabcc_3 : decode cJ8_newLength_cabcc 3 = .ok (.invokestatic 194, 3) := by decide +kernel
theorem dJ8_newLength_cabcc_6 : decode cJ8_newLength_cabcc 6 = .ok (.iadd, 1) := by decide +kernel
theorem dJ8_newLength_cabcc_7 : decode cJ8_newLength_cabcc 7 = .ok (.istore_n 3, 1) := by decide +kernel
theorem dJ8_newLength_cabcc_8 : decode cJ8_newLength_cabcc 8 = .ok (.iconst 0, 1) := by decide +kernel
theorem dJ8_newLength_cabcc_9 : decode cJ8_newLength_cabcc 9 = .ok (.iload_n 3, 1) := by decide +kernel
theorem dJ8_newLength_cabcc_10 : decode cJ8_newLength_cabcc 10 = .ok (.if_icmp .ge 11, 3) := by decide +kernel
theorem dJ8_newLength_cabcc_13 : decode cJ8_newLength_cabcc 13 = .ok (.iload_n 3, 1) := by decide +kernel
theorem dJ8_newLength_cabcc_14 : decode cJ8_newLength_cabcc 14 = .ok (.ldc 200, 2) := by decide +kernel
theorem dJ8_newLength_cabcc_16 : decode cJ8_newLength_cabcc 16 = .ok (.if_icmp .gt 5, 3) := by decide +kernel
theorem dJ8_newLength_cabcc_19 : decode cJ8_newLength_cabcc 19 = .ok (.iload_n 3, 1) := by decide +kernel
theorem dJ8_newLength_cabcc_20 : decode cJ8_newLength_cabcc 20 = .ok (.ireturn, 1) := by decide +kernel
theorem dJ8_newLength_cabcc_21 : decode cJ8_newLength_cabcc 21 = .ok (.iload_n 0, 1) := by decide +kernel
theorem dJ8_newLength_cabcc_22 : decode cJ8_newLength_cabcc 22 = .ok (.iload_n 1, 1) := by decide +kernel
theorem dJ8_newLength_cabcc_23 : decode cJ8_newLength_cabcc 23 = .ok (.invokestatic 201, 3) := by decide +kernel
theorem dJ8_newLength_cabcc_26 : decode cJ8_newLength_cabcc 26 = .ok (.ireturn, 1) := by decide +kernel
theorem dJ8_hugeLength_7cf53_0 : decode cJ8_hugeLength_7cf53 0 = .ok (.iload_n 0, 1) := by decide +kernel
theorem dJ8_hugeLength_7cf53_1 : decode cJ8_hugeLength_7cf53 1 = .ok (.iload_n 1, 1) := by decide +kernel
theorem dJ8_hugeLength_7cf53_2 : decode cJ8_hugeLength_7cf53 2 = .ok (.iadd, 1) := by decide +kernel
theorem dJ8_hugeLength_7cf53_3 : decode cJ8_hugeLength_7cf53 3 = .ok (.istore_n 2, 1) := by decide +kernel
theorem dJ8_hugeLength_7cf53_4 : decode cJ8_hugeLength_7cf53 4 = .ok (.iload_n 2, 1) := by decide +kernel
theorem dJ8_hugeLength_7cf53_5 : decode cJ8_hugeLength_7cf53 5 = .ok (.ifCond .ge 44, 3) := by decide +kernel
theorem dJ8_hugeLength_7cf53_8 : decode cJ8_hugeLength_7cf53 8 = .ok (.new 204, 3) := by decide +kernel
theorem dJ8_hugeLength_7cf53_11 : decode cJ8_hugeLength_7cf53 11 = .ok (.dup, 1) := by decide +kernel
theorem dJ8_hugeLength_7cf53_12 : decode cJ8_hugeLength_7cf53 12 = .ok (.new 89, 3) := by decide +kernel
theorem dJ8_hugeLength_7cf53_15 : decode cJ8_hugeLength_7cf53 15 = .ok (.dup, 1) := by decide +kernel
theorem dJ8_hugeLength_7cf53_16 : decode cJ8_hugeLength_7cf53 16 = .ok (.invokespecial 91, 3) := by decide +kernel
theorem dJ8_hugeLength_7cf53_19 : decode cJ8_hugeLength_7cf53 19 = .ok (.ldc 206, 2) := by decide +kernel
theorem dJ8_hugeLength_7cf53_21 : decode cJ8_hugeLength_7cf53 21 = .ok (.invokevirtual 94, 3) := by decide +kernel
theorem dJ8_hugeLength_7cf53_24 : decode cJ8_hugeLength_7cf53 24 = .ok (.iload_n 0, 1) := by decide +kernel
theorem dJ8_hugeLength_7cf53_25 : decode cJ8_hugeLength_7cf53 25 = .ok (.invokevirtual 98, 3) := by decide +kernel
theorem dJ8_hugeLength_7cf53_28 : decode cJ8_hugeLength_7cf53 28 = .ok (.ldc 208, 2) := by decide +kernel
theorem dJ8_hugeLength_7cf53_30 : decode cJ8_hugeLength_7cf53 30 = .ok (.invokevirtual 94, 3) := by decide +kernel
theorem dJ8_hugeLength_7cf53_33 : decode cJ8_hugeLength_7cf53 33 = .ok (.iload_n 1, 1) := by decide +kernel
theorem dJ8_hugeLength_7cf53_34 : decode cJ8_hugeLength_7cf53 34 = .ok (.invokevirtual 98, 3) := by decide +kernel
theorem dJ8_hugeLength_7cf53_37 : decode cJ8_hugeLength_7cf53 37 = .ok (.ldc 210, 2) := by decide +kernel
theorem dJ8_hugeLength_7cf53_39 : decode cJ8_hugeLength_7cf53 39 = .ok (.invokevirtual 94, 3) := by decide +kernel
theorem dJ8_hugeLength_7cf53_42 : decode cJ8_hugeLength_7cf53 42 = .ok (.invokevirtual 101, 3) := by decide +kernel
theorem dJ8_hugeLength_7cf53_45 : decode cJ8_hugeLength_7cf53 45 = .ok (.invokespecial 212, 3) := by decide +kernel
theorem dJ8_hugeLength_7cf53_48 : decode cJ8_hugeLength_7cf53 48 = .ok (.athrow, 1) := by decide +kernel
theorem dJ8_hugeLength_7cf53_49 : decode cJ8_hugeLength_7cf53 49 = .ok (.iload_n 2, 1) := by decide +kernel
theorem dJ8_hugeLength_7cf53_50 : decode cJ8_hugeLength_7cf53 50 = .ok (.ldc 200, 2) := by decide +kernel
theorem dJ8_hugeLength_7cf53_52 : decode cJ8_hugeLength_7cf53 52 = .ok (.if_icmp .gt 6, 3) := by decide +kernel
theorem dJ8_hugeLength_7cf53_55 : decode cJ8_hugeLength_7cf53 55 = .ok (.ldc 200, 2) := by decide +kernel
theorem dJ8_hugeLength_7cf53_57 : decode cJ8_hugeLength_7cf53 57 = .ok (.ireturn, 1) := by decide +kernel
theorem dJ8_hugeLength_7cf53_58 : decode cJ8_hugeLength_7cf53 58 = .ok (.iload_n 2, 1) := by decide +kernel
theorem dJ8_hugeLength_7cf53_59 : decode cJ8_hugeLength_7cf53 59 = .ok (.ireturn, 1) := by decide +kernel
theorem dJ3_checkIndex_8e157_0 : decode cJ3_checkIndex_8e157 0 = .ok (.iload_n 0, 1) := by decide +kernel
theorem dJ3_checkIndex_8e157_1 : decode cJ3_checkIndex_8e157 1 = .ok (.ifCond .lt 8, 3) := by decide +kernel
theorem dJ3_checkIndex_8e157_4 : decode cJ3_checkIndex_8e157 4 = .ok (.iload_n 0, 1) := by decide +kernel
theorem dJ3_checkIndex_8e157_5 : decode cJ3_checkIndex_8e157 5 = .ok (.iload_n 1, 1) := by decide +kernel
theorem dJ3_checkIndex_8e157_6 : decode cJ3_checkIndex_8e157 6 = .ok (.if_icmp .lt 10, 3) := by decide +kernel
theorem dJ3_checkIndex_8e157_9 : decode cJ3_checkIndex_8e157 9 = .ok (.aload_n 2, 1) := by decide +kernel
theorem dJ3_checkIndex_8e157_10 : decode cJ3_checkIndex_8e157 10 = .ok (.iload_n 0, 1) := by decide +kernel
theorem dJ3_checkIndex_8e157_11 : decode cJ3_checkIndex_8e157 11 = .ok (.iload_n 1, 1) := by decide +kernel
theorem dJ3_checkIndex_8e157_12 : decode cJ3_checkIndex_8e157 12 = .ok (.invokestatic 95, 3) := by decide +kernel
theorem dJ3_checkIndex_8e157_15 : decode cJ3_checkIndex_8e157 15 = .ok (.athrow, 1) := by decide +kernel
theorem dJ3_checkIndex_8e157_16 : decode cJ3_checkIndex_8e157 16 = .ok (.iload_n 0, 1) := by decide +kernel
theorem dJ3_checkIndex_8e157_17 : decode cJ3_checkIndex_8e157 17 = .ok (.ireturn, 1) := by decide +kernel
