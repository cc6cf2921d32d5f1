theorem dX0_init_0 : decode cX0_init 0 = .ok (.aload_n 0, 1) := by decide +kernel
theorem dX0_init_1 : decode cX0_init 1 = .ok (.invokespecial 3, 3) := by decide +kernel
theorem dX0_init_4 : decode cX0_init 4 = .ok (.aload_n 0, 1) := by decide +kernel
theorem dX0_init_5 : decode cX0_init 5 = .ok (.new 9, 3) := by decide +kernel
theorem dX0_init_8 : decode cX0_init 8 = .ok (.dup, 1) := by decide +kernel
theorem dX0_init_9 : decode cX0_init 9 = .ok (.invokespecial 11, 3) := by decide +kernel
theorem dX0_init_12 : decode cX0_init 12 = .ok (.putfield 12, 3) := by decide +kernel
theorem dX0_init_15 : decode cX0_init 15 = .ok (.aload_n 0, 1) := by decide +kernel
theorem dX0_init_16 : decode cX0_init 16 = .ok (.new 18, 3) := by decide +kernel
theorem dX0_init_19 : decode cX0_init 19 = .ok (.dup, 1) := by decide +kernel
theorem dX0_init_20 : decode cX0_init 20 = .ok (.iconst 0, 1) := by decide +kernel
theorem dX0_init_21 : decode cX0_init 21 = .ok (.bipush (-6), 2) := by decide +kernel
theorem dX0_init_23 : decode cX0_init 23 = .ok (.iconst 0, 1) := by decide +kernel
theorem dX0_init_24 : decode cX0_init 24 = .ok (.invokespecial 20, 3) := by decide +kernel
theorem dX0_init_27 : decode cX0_init 27 = .ok (.putfield 23, 3) := by decide +kernel
theorem dX0_init_30 : decode cX0_init 30 = .ok (.aload_n 0, 1) := by decide +kernel
theorem dX0_init_31 : decode cX0_init 31 = .ok (.aload_n 0, 1) := by decide +kernel
theorem dX0_init_32 : decode cX0_init 32 = .ok (.getfield 23, 3) := by decide +kernel
theorem dX0_init_35 : decode cX0_init 35 = .ok (.putfield 27, 3) := by decide +kernel
theorem dX0_init_38 : decode cX0_init 38 = .ok (.aload_n 0, 1) := by decide +kernel
theorem dX0_init_39 : decode cX0_init 39 = .ok (.iconst 0, 1) := by decide +kernel
theorem dX0_init_40 : decode cX0_init 40 = .ok (.putfield 30, 3) := by decide +kernel
theorem dX0_init_43 : decode cX0_init 43 = .ok (.return_, 1) := by decide +kernel
theorem dX0_restart_0 : decode cX0_restart 0 = .ok (.aload_n 0, 1) := by decide +kernel
theorem dX0_restart_1 : decode cX0_restart 1 = .ok (.getfield 12, 3) := by decide +kernel
theorem dX0_restart_4 : decode cX0_restart 4 = .ok (.invokevirtual 34, 3) := by decide +kernel
theorem dX0_restart_7 : decode cX0_restart 7 = .ok (.aload_n 0, 1) := by decide +kernel
theorem dX0_restart_8 : decode cX0_restart 8 = .ok (.aload_n 0, 1) := by decide +kernel
theorem dX0_restart_9 : decode cX0_restart 9 = .ok (.getfield 23, 3) := by decide +kernel
theorem dX0_restart_12 : decode cX0_restart 12 = .ok (.putfield 27, 3) := by decide +kernel
theorem dX0_restart_15 : decode cX0_restart 15 = .ok (.aload_n 0, 1) := by decide +kernel
theorem dX0_restart_16 : decode cX0_restart 16 = .ok (.iconst 0, 1) := by decide +kernel
theorem dX0_restart_17 : decode cX0_restart 17 = .ok (.putfield 30, 3) := by decide +kernel
theorem dX0_restart_20 : decode cX0_restart 20 = .ok (.return_, 1) := by decide +kernel
theorem dX0_turn_0 : decode cX0_turn 0 = .ok (.aload_n 0, 1) := by decide +kernel
theorem dX0_turn_1 : decode cX0_turn 1 = .ok (.getfield 12, 3) := by decide +kernel
theorem dX0_turn_4 : decode cX0_turn 4 = .ok (.invokevirtual 37, 3) := by decide +kernel
theorem dX0_turn_7 : decode cX0_turn 7 = .ok (.iconst 2, 1) := by decide +kernel
theorem dX0_turn_8 : decode cX0_turn 8 = .ok (.irem, 1) := by decide +kernel
theorem dX0_turn_9 : decode cX0_turn 9 = .ok (.ireturn, 1) := by decide +kernel
theorem dX0_isOver_0 : decode cX0_isOver 0 = .ok (.aload_n 0, 1) := by decide +kernel
theorem dX0_isOver_1 : decode cX0_isOver 1 = .ok (.getfield 30, 3) := by decide +kernel
theorem dX0_isOver_4 : decode cX0_isOver 4 = .ok (.ifCond .ne 22, 3) := by decide +kernel
theorem dX0_isOver_7 : decode cX0_isOver 7 = .ok (.aload_n 0, 1) := by decide +kernel
theorem dX0_isOver_8 : decode cX0_isOver 8 = .ok (.invokevirtual 41, 3) := by decide +kernel
theorem dX0_isOver_11 : decode cX0_isOver 11 = .ok (.ifCond .ne 15, 3) := by decide +kernel
theorem dX0_isOver_14 : decode cX0_isOver 14 = .ok (.aload_n 0, 1) := by decide +kernel
theorem dX0_isOver_15 : decode cX0_isOver 15 = .ok (.getfield 12, 3) := by decide +kernel
theorem dX0_isOver_18 : decode cX0_isOver 18 = .ok (.invokevirtual 37, 3) := by decide +kernel
theorem dX0_isOver_21 : decode cX0_isOver 21 = .ok (.bipush 12, 2) := by decide +kernel
theorem dX0_isOver_23 : decode cX0_isOver 23 = .ok (.if_icmp .lt 7, 3) := by decide +kernel
theorem dX0_isOver_26 : decode cX0_isOver 26 = .ok (.iconst 1, 1) := by decide +kernel
theorem dX0_isOver_27 : decode cX0_isOver 27 = .ok (.goto 4, 3) := by decide +kernel
theorem dX0_isOver_30 : decode cX0_isOver 30 = .ok (.iconst 0, 1) := by decide +kernel
theorem dX0_isOver_31 : decode cX0_isOver 31 = .ok (.ireturn, 1) := by decide +kernel
theorem dX0_hasPass_0 : decode cX0_hasPass 0 = .ok (.aload_n 0, 1) := by decide +kernel
theorem dX0_hasPass_1 : decode cX0_hasPass 1 = .ok (.getfield 12, 3) := by decide +kernel
theorem dX0_hasPass_4 : decode cX0_hasPass 4 = .ok (.invokevirtual 37, 3) := by decide +kernel
theorem dX0_hasPass_7 : decode cX0_hasPass 7 = .ok (.istore_n 1, 1) := by decide +kernel
theorem dX0_hasPass_8 : decode cX0_hasPass 8 = .ok (.iload_n 1, 1) := by decide +kernel
theorem dX0_hasPass_9 : decode cX0_hasPass 9 = .ok (.ifCond .le 28, 3) := by decide +kernel
theorem dX0_hasPass_12 : decode cX0_hasPass 12 = .ok (.aload_n 0, 1) := by decide +kernel
theorem dX0_hasPass_13 : decode cX0_hasPass 13 = .ok (.getfield 12, 3) := by decide +kernel
theorem dX0_hasPass_16 : decode cX0_hasPass 16 = .ok (.iload_n 1, 1) := by decide +kernel
theorem dX0_hasPass_17 : decode cX0_hasPass 17 = .ok (.iconst 1, 1) := by decide +kernel
theorem dX0_hasPass_18 : decode cX0_hasPass 18 = .ok (.isub, 1) := by decide +kernel
theorem dX0_hasPass_19 : decode cX0_hasPass 19 = .ok (.invokevirtual 45, 3) := by decide +kernel
theorem dX0_hasPass_22 : decode cX0_hasPass 22 = .ok (.checkcast 49, 3) := by decide +kernel
theorem dX0_hasPass_25 : decode cX0_hasPass 25 = .ok (.getfield 51, 3) := by decide +kernel
theorem dX0_hasPass_28 : decode cX0_hasPass 28 = .ok (.bipush 25, 2) := by decide +kernel
theorem dX0_hasPass_30 : decode cX0_hasPass 30 = .ok (.if_icmp .ne 7, 3) := by decide +kernel
theorem dX0_hasPass_33 : decode cX0_hasPass 33 = .ok (.iconst 1, 1) := by decide +kernel
theorem dX0_hasPass_34 : decode cX0_hasPass 34 = .ok (.goto 4, 3) := by decide +kernel
theorem dX0_hasPass_37 : decode cX0_hasPass 37 = .ok (.iconst 0, 1) := by decide +kernel
theorem dX0_hasPass_38 : decode cX0_hasPass 38 = .ok (.ireturn, 1) := by decide +kernel
theorem dX0_ending_0 : decode cX0_ending 0 = .ok (.aload_n 0, 1) := by decide +kernel
theorem dX0_ending_1 : decode cX0_ending 1 = .ok (.getfield 30, 3) := by decide +kernel
theorem dX0_ending_4 : decode cX0_ending 4 = .ok (.ifCond .eq 5, 3) := by decide +kernel
theorem dX0_ending_7 : decode cX0_ending 7 = .ok (.iconst 2, 1) := by decide +kernel
theorem dX0_ending_8 : decode cX0_ending 8 = .ok (.ireturn, 1) := by decide +kernel
theorem dX0_ending_9 : decode cX0_ending 9 = .ok (.aload_n 0, 1) := by decide +kernel
theorem dX0_ending_10 : decode cX0_ending 10 = .ok (.invokevirtual 55, 3) := by decide +kernel
theorem dX0_ending_13 : decode cX0_ending 13 = .ok (.ifCond .eq 7, 3) := by decide +kernel
theorem dX0_ending_16 : decode cX0_ending 16 = .ok (.iconst 1, 1) := by decide +kernel
theorem dX0_ending_17 : decode cX0_ending 17 = .ok (.goto 4, 3) := by decide +kernel
theorem dX0_ending_20 : decode cX0_ending 20 = .ok (.iconst 0, 1) := by decide +kernel
theorem dX0_ending_21 : decode cX0_ending 21 = .ok (.ireturn, 1) := by decide +kernel
theorem dX0_add_0 : decode cX0_add 0 = .ok (.aload_n 0, 1) := by decide +kernel
theorem dX0_add_1 : decode cX0_add 1 = .ok (.getfield 12, 3) := by decide +kernel
theorem dX0_add_4 : decode cX0_add 4 = .ok (.new 49, 3) := by decide +kernel
theorem dX0_add_7 : decode cX0_add 7 = .ok (.dup, 1) := by decide +kernel
theorem dX0_add_8 : decode cX0_add 8 = .ok (.aload_n 1, 1) := by decide +kernel
theorem dX0_add_9 : decode cX0_add 9 = .ok (.getfield 58, 3) := by decide +kernel
theorem dX0_add_12 : decode cX0_add 12 = .ok (.iload_n 2, 1) := by decide +kernel
theorem dX0_add_13 : decode cX0_add 13 = .ok (.aload_n 0, 1) := by decide +kernel
theorem dX0_add_14 : decode cX0_add 14 = .ok (.getfield 27, 3) := by decide +kernel
theorem dX0_add_17 : decode cX0_add 17 = .ok (.invokespecial 61, 3) := by decide +kernel
theorem dX0_add_20 : decode cX0_add 20 = .ok (.invokevirtual 64, 3) := by decide +kernel
theorem dX0_add_23 : decode cX0_add 23 = .ok (.pop, 1) := by decide +kernel
theorem dX0_add_24 : decode cX0_add 24 = .ok (.aload_n 1, 1) := by decide +kernel
theorem dX0_add_25 : decode cX0_add 25 = .ok (.getfield 58, 3) := by decide +kernel
theorem dX0_add_28 : decode cX0_add 28 = .ok (.bipush 25, 2) := by decide +kernel
theorem dX0_add_30 : decode cX0_add 30 = .ok (.if_icmp .eq 26, 3) := by decide +kernel
theorem dX0_add_33 : decode cX0_add 33 = .ok (.aload_n 0, 1) := by decide +kernel
theorem dX0_add_34 : decode cX0_add 34 = .ok (.new 18, 3) := by decide +kernel
theorem dX0_add_37 : decode cX0_add 37 = .ok (.dup, 1) := by decide +kernel
theorem dX0_add_38 : decode cX0_add 38 = .ok (.aload_n 1, 1) := by decide +kernel
theorem dX0_add_39 : decode cX0_add 39 = .ok (.getfield 68, 3) := by decide +kernel
theorem dX0_add_42 : decode cX0_add 42 = .ok (.aload_n 1, 1) := by decide +kernel
theorem dX0_add_43 : decode cX0_add 43 = .ok (.getfield 58, 3) := by decide +kernel
theorem dX0_add_46 : decode cX0_add 46 = .ok (.aload_n 1, 1) := by decide +kernel
theorem dX0_add_47 : decode cX0_add 47 = .ok (.getfield 71, 3) := by decide +kernel
theorem dX0_add_50 : decode cX0_add 50 = .ok (.invokespecial 20, 3) := by decide +kernel
theorem dX0_add_53 : decode cX0_add 53 = .ok (.putfield 27, 3) := by decide +kernel
theorem dX0_add_56 : decode cX0_add 56 = .ok (.return_, 1) := by decide +kernel
theorem dX0_takeBack_0 : decode cX0_takeBack 0 = .ok (.aload_n 0, 1) := by decide +kernel
theorem dX0_takeBack_1 : decode cX0_takeBack 1 = .ok (.getfield 30, 3) := by decide +kernel
theorem dX0_takeBack_4 : decode cX0_takeBack 4 = .ok (.ifCond .eq 10, 3) := by decide +kernel
theorem dX0_takeBack_7 : decode cX0_takeBack 7 = .ok (.aload_n 0, 1) := by decide +kernel
theorem dX0_takeBack_8 : decode cX0_takeBack 8 = .ok (.iconst 0, 1) := by decide +kernel
theorem dX0_takeBack_9 : decode cX0_takeBack 9 = .ok (.putfield 30, 3) := by decide +kernel
theorem dX0_takeBack_12 : decode cX0_takeBack 12 = .ok (.iconst 1, 1) := by decide +kernel
theorem dX0_takeBack_13 : decode cX0_takeBack 13 = .ok (.ireturn, 1) := by decide +kernel
theorem dX0_takeBack_14 : decode cX0_takeBack 14 = .ok (.aload_n 0, 1) := by decide +kernel
theorem dX0_takeBack_15 : decode cX0_takeBack 15 = .ok (.getfield 12, 3) := by decide +kernel
theorem dX0_takeBack_18 : decode cX0_takeBack 18 = .ok (.invokevirtual 37, 3) := by decide +kernel
theorem dX0_takeBack_21 : decode cX0_takeBack 21 = .ok (.istore_n 1, 1) := by decide +kernel
theorem dX0_takeBack_22 : decode cX0_takeBack 22 = .ok (.iload_n 1, 1) := by decide +kernel
theorem dX0_takeBack_23 : decode cX0_takeBack 23 = .ok (.ifCond .ne 5, 3) := by decide +kernel
theorem dX0_takeBack_26 : decode cX0_takeBack 26 = .ok (.iconst 0, 1) := by decide +kernel
theorem dX0_takeBack_27 : decode cX0_takeBack 27 = .ok (.ireturn, 1) := by decide +kernel
theorem dX0_takeBack_28 : decode cX0_takeBack 28 = .ok (.aload_n 0, 1) := by decide +kernel
theorem dX0_takeBack_29 : decode cX0_takeBack 29 = .ok (.aload_n 0, 1) := by decide +kernel
theorem dX0_takeBack_30 : decode cX0_takeBack 30 = .ok (.getfield 12, 3) := by decide +kernel
theorem dX0_takeBack_33 : decode cX0_takeBack 33 = .ok (.iload_n 1, 1) := by decide +kernel
theorem dX0_takeBack_34 : decode cX0_takeBack 34 = .ok (.iconst 1, 1) := by decide +kernel
theorem dX0_takeBack_35 : decode cX0_takeBack 35 = .ok (.isub, 1) := by decide +kernel
theorem dX0_takeBack_36 : decode cX0_takeBack 36 = .ok (.invokevirtual 45, 3) := by decide +kernel
theorem dX0_takeBack_39 : decode cX0_takeBack 39 = .ok (.checkcast 49, 3) := by decide +kernel
theorem dX0_takeBack_42 : decode cX0_takeBack 42 = .ok (.getfield 74, 3) := by decide +kernel
theorem dX0_takeBack_45 : decode cX0_takeBack 45 = .ok (.putfield 27, 3) := by decide +kernel
theorem dX0_takeBack_48 : decode cX0_takeBack 48 = .ok (.aload_n 0, 1) := by decide +kernel
theorem dX0_takeBack_49 : decode cX0_takeBack 49 = .ok (.getfield 12, 3) := by decide +kernel
theorem dX0_takeBack_52 : decode cX0_takeBack 52 = .ok (.iload_n 1, 1) := by decide +kernel
theorem dX0_takeBack_53 : decode cX0_takeBack 53 = .ok (.iconst 1, 1) := by decide +kernel
theorem dX0_takeBack_54 : decode cX0_takeBack 54 = .ok (.isub, 1) := by decide +kernel
theorem dX0_takeBack_55 : decode cX0_takeBack 55 = .ok (.invokevirtual 77, 3) := by decide +kernel
theorem dX0_takeBack_58 : decode cX0_takeBack 58 = .ok (.pop, 1) := by decide +kernel
theorem dX0_takeBack_59 : decode cX0_takeBack 59 = .ok (.iconst 1, 1) := by decide +kernel
theorem dX0_takeBack_60 : decode cX0_takeBack 60 = .ok (.ireturn, 1) := by decide +kernel
theorem dX1_isSet_0 : decode cX1_isSet 0 = .ok (.iload_n 0, 1) := by decide +kernel
theorem dX1_isSet_1 : decode cX1_isSet 1 = .ok (.ifCond .lt 13, 3) := by decide +kernel
theorem dX1_isSet_4 : decode cX1_isSet 4 = .ok (.iload_n 0, 1) := by decide +kernel
theorem dX1_isSet_5 : decode cX1_isSet 5 = .ok (.ldc 9, 2) := by decide +kernel
theorem dX1_isSet_7 : decode cX1_isSet 7 = .ok (.if_icmp .gt 7, 3) := by decide +kernel
theorem dX1_isSet_10 : decode cX1_isSet 10 = .ok (.iconst 1, 1) := by decide +kernel
theorem dX1_isSet_11 : decode cX1_isSet 11 = .ok (.goto 4, 3) := by decide +kernel
theorem dX1_isSet_14 : decode cX1_isSet 14 = .ok (.iconst 0, 1) := by decide +kernel
theorem dX1_isSet_15 : decode cX1_isSet 15 = .ok (.ireturn, 1) := by decide +kernel
theorem dX1_isHand_0 : decode cX1_isHand 0 = .ok (.iload_n 0, 1) := by decide +kernel
theorem dX1_isHand_1 : decode cX1_isHand 1 = .ok (.invokestatic 10, 3) := by decide +kernel
theorem dX1_isHand_4 : decode cX1_isHand 4 = .ok (.ifCond .eq 15, 3) := by decide +kernel
theorem dX1_isHand_7 : decode cX1_isHand 7 = .ok (.iload_n 0, 1) := by decide +kernel
theorem dX1_isHand_8 : decode cX1_isHand 8 = .ok (.invokestatic 16, 3) := by decide +kernel
theorem dX1_isHand_11 : decode cX1_isHand 11 = .ok (.iconst 5, 1) := by decide +kernel
theorem dX1_isHand_12 : decode cX1_isHand 12 = .ok (.if_icmp .ne 7, 3) := by decide +kernel
theorem dX1_isHand_15 : decode cX1_isHand 15 = .ok (.iconst 1, 1) := by decide +kernel
theorem dX1_isHand_16 : decode cX1_isHand 16 = .ok (.goto 4, 3) := by decide +kernel
theorem dX1_isHand_19 : decode cX1_isHand 19 = .ok (.iconst 0, 1) := by decide +kernel
theorem dX1_isHand_20 : decode cX1_isHand 20 = .ok (.ireturn, 1) := by decide +kernel
theorem dX1_handAfter_0 : decode cX1_handAfter 0 = .ok (.iload_n 0, 1) := by decide +kernel
theorem dX1_handAfter_1 : decode cX1_handAfter 1 = .ok (.iload_n 0, 1) := by decide +kernel
theorem dX1_handAfter_2 : decode cX1_handAfter 2 = .ok (.iload_n 0, 1) := by decide +kernel
theorem dX1_handAfter_3 : decode cX1_handAfter 3 = .ok (.ineg, 1) := by decide +kernel
theorem dX1_handAfter_4 : decode cX1_handAfter 4 = .ok (.iand, 1) := by decide +kernel
theorem dX1_handAfter_5 : decode cX1_handAfter 5 = .ok (.iadd, 1) := by decide +kernel
theorem dX1_handAfter_6 : decode cX1_handAfter 6 = .ok (.istore_n 1, 1) := by decide +kernel
theorem dX1_handAfter_7 : decode cX1_handAfter 7 = .ok (.iload_n 1, 1) := by decide +kernel
theorem dX1_handAfter_8 : decode cX1_handAfter 8 = .ok (.iload_n 0, 1) := by decide +kernel
theorem dX1_handAfter_9 : decode cX1_handAfter 9 = .ok (.iload_n 1, 1) := by decide +kernel
theorem dX1_handAfter_10 : decode cX1_handAfter 10 = .ok (.ixor, 1) := by decide +kernel
theorem dX1_handAfter_11 : decode cX1_handAfter 11 = .ok (.iconst 2, 1) := by decide +kernel
theorem dX1_handAfter_12 : decode cX1_handAfter 12 = .ok (.iload_n 0, 1) := by decide +kernel
theorem dX1_handAfter_13 : decode cX1_handAfter 13 = .ok (.invokestatic 22, 3) := by decide +kernel
theorem dX1_handAfter_16 : decode cX1_handAfter 16 = .ok (.iadd, 1) := by decide +kernel
theorem dX1_handAfter_17 : decode cX1_handAfter 17 = .ok (.iushr, 1) := by decide +kernel
theorem dX1_handAfter_18 : decode cX1_handAfter 18 = .ok (.ior, 1) := by decide +kernel
theorem dX1_handAfter_19 : decode cX1_handAfter 19 = .ok (.ireturn, 1) := by decide +kernel
theorem dX1_cardAt_0 : decode cX1_cardAt 0 = .ok (.iload_n 0, 1) := by decide +kernel
theorem dX1_cardAt_1 : decode cX1_cardAt 1 = .ok (.istore_n 2, 1) := by decide +kernel
theorem dX1_cardAt_2 : decode cX1_cardAt 2 = .ok (.iconst 0, 1) := by decide +kernel
theorem dX1_cardAt_3 : decode cX1_cardAt 3 = .ok (.istore_n 3, 1) := by decide +kernel
theorem dX1_cardAt_4 : decode cX1_cardAt 4 = .ok (.iload_n 3, 1) := by decide +kernel
theorem dX1_cardAt_5 : decode cX1_cardAt 5 = .ok (.iload_n 1, 1) := by decide +kernel
theorem dX1_cardAt_6 : decode cX1_cardAt 6 = .ok (.if_icmp .ge 15, 3) := by decide +kernel
theorem dX1_cardAt_9 : decode cX1_cardAt 9 = .ok (.iload_n 2, 1) := by decide +kernel
theorem dX1_cardAt_10 : decode cX1_cardAt 10 = .ok (.iload_n 2, 1) := by decide +kernel
theorem dX1_cardAt_11 : decode cX1_cardAt 11 = .ok (.iconst 1, 1) := by decide +kernel
theorem dX1_cardAt_12 : decode cX1_cardAt 12 = .ok (.isub, 1) := by decide +kernel
theorem dX1_cardAt_13 : decode cX1_cardAt 13 = .ok (.iand, 1) := by decide +kernel
theorem dX1_cardAt_14 : decode cX1_cardAt 14 = .ok (.istore_n 2, 1) := by decide +kernel
theorem dX1_cardAt_15 : decode cX1_cardAt 15 = .ok (.iinc 3 1, 3) := by decide +kernel
theorem dX1_cardAt_18 : decode cX1_cardAt 18 = .ok (.goto (-14), 3) := by decide +kernel
theorem dX1_cardAt_21 : decode cX1_cardAt 21 = .ok (.iload_n 2, 1) := by decide +kernel
theorem dX1_cardAt_22 : decode cX1_cardAt 22 = .ok (.iload_n 2, 1) := by decide +kernel
theorem dX1_cardAt_23 : decode cX1_cardAt 23 = .ok (.ineg, 1) := by decide +kernel
theorem dX1_cardAt_24 : decode cX1_cardAt 24 = .ok (.iand, 1) := by decide +kernel
theorem dX1_cardAt_25 : decode cX1_cardAt 25 = .ok (.ireturn, 1) := by decide +kernel
theorem dX1_ofSuit_0 : decode cX1_ofSuit 0 = .ok (.iload_n 0, 1) := by decide +kernel
theorem dX1_ofSuit_1 : decode cX1_ofSuit 1 = .ok (.iconst 5, 1) := by decide +kernel
theorem dX1_ofSuit_2 : decode cX1_ofSuit 2 = .ok (.iload_n 1, 1) := by decide +kernel
theorem dX1_ofSuit_3 : decode cX1_ofSuit 3 = .ok (.imul, 1) := by decide +kernel
theorem dX1_ofSuit_4 : decode cX1_ofSuit 4 = .ok (.ishr, 1) := by decide +kernel
theorem dX1_ofSuit_5 : decode cX1_ofSuit 5 = .ok (.bipush 31, 2) := by decide +kernel
theorem dX1_ofSuit_7 : decode cX1_ofSuit 7 = .ok (.iand, 1) := by decide +kernel
theorem dX1_ofSuit_8 : decode cX1_ofSuit 8 = .ok (.ireturn, 1) := by decide +kernel
theorem dX1_measure_0 : decode cX1_measure 0 = .ok (.iload_n 1, 1) := by decide +kernel
theorem dX1_measure_1 : decode cX1_measure 1 = .ok (.iconst 4, 1) := by decide +kernel
theorem dX1_measure_2 : decode cX1_measure 2 = .ok (.if_icmp .ne 10, 3) := by decide +kernel
theorem dX1_measure_5 : decode cX1_measure 5 = .ok (.iload_n 0, 1) := by decide +kernel
theorem dX1_measure_6 : decode cX1_measure 6 = .ok (.invokestatic 25, 3) := by decide +kernel
theorem dX1_measure_9 : decode cX1_measure 9 = .ok (.goto 11, 3) := by decide +kernel
theorem dX1_measure_12 : decode cX1_measure 12 = .ok (.iload_n 0, 1) := by decide +kernel
theorem dX1_measure_13 : decode cX1_measure 13 = .ok (.iload_n 1, 1) := by decide +kernel
theorem dX1_measure_14 : decode cX1_measure 14 = .ok (.invokestatic 28, 3) := by decide +kernel
theorem dX1_measure_17 : decode cX1_measure 17 = .ok (.invokestatic 16, 3) := by decide +kernel
theorem dX1_measure_20 : decode cX1_measure 20 = .ok (.ireturn, 1) := by decide +kernel
theorem dX1_greatestMeasure_0 : decode cX1_greatestMeasure 0 = .ok (.iload_n 0, 1) := by decide +kernel
theorem dX1_greatestMeasure_1 : decode cX1_greatestMeasure 1 = .ok (.iconst 4, 1) := by decide +kernel
theorem dX1_greatestMeasure_2 : decode cX1_greatestMeasure 2 = .ok (.if_icmp .ne 8, 3) := by decide +kernel
theorem dX1_greatestMeasure_5 : decode cX1_greatestMeasure 5 = .ok (.bipush 20, 2) := by decide +kernel
theorem dX1_greatestMeasure_7 : decode cX1_greatestMeasure 7 = .ok (.goto 4, 3) := by decide +kernel
theorem dX1_greatestMeasure_10 : decode cX1_greatestMeasure 10 = .ok (.iconst 5, 1) := by decide +kernel
theorem dX1_greatestMeasure_11 : decode cX1_greatestMeasure 11 = .ok (.ireturn, 1) := by decide +kernel
theorem dX1_strength_0 : decode cX1_strength 0 = .ok (.iconst 0, 1) := by decide +kernel
theorem dX1_strength_1 : decode cX1_strength 1 = .ok (.istore_n 1, 1) := by decide +kernel
theorem dX1_strength_2 : decode cX1_strength 2 = .ok (.iconst 1, 1) := by decide +kernel
theorem dX1_strength_3 : decode cX1_strength 3 = .ok (.istore_n 2, 1) := by decide +kernel
theorem dX1_strength_4 : decode cX1_strength 4 = .ok (.iload_n 2, 1) := by decide +kernel
theorem dX1_strength_5 : decode cX1_strength 5 = .ok (.iconst 5, 1) := by decide +kernel
theorem dX1_strength_6 : decode cX1_strength 6 = .ok (.if_icmp .ge 23, 3) := by decide +kernel
theorem dX1_strength_9 : decode cX1_strength 9 = .ok (.iload_n 1, 1) := by decide +kernel
theorem dX1_strength_10 : decode cX1_strength 10 = .ok (.iload_n 2, 1) := by decide +kernel
theorem dX1_strength_11 : decode cX1_strength 11 = .ok (.iload_n 0, 1) := by decide +kernel
theorem dX1_strength_12 : decode cX1_strength 12 = .ok (.ldc 32, 2) := by decide +kernel
theorem dX1_strength_14 : decode cX1_strength 14 = .ok (.iload_n 2, 1) := by decide +kernel
theorem dX1_strength_15 : decode cX1_strength 15 = .ok (.ishl, 1) := by decide +kernel
theorem dX1_strength_16 : decode cX1_strength 16 = .ok (.iand, 1) := by decide +kernel
theorem dX1_strength_17 : decode cX1_strength 17 = .ok (.invokestatic 16, 3) := by decide +kernel
theorem dX1_strength_20 : decode cX1_strength 20 = .ok (.imul, 1) := by decide +kernel
theorem dX1_strength_21 : decode cX1_strength 21 = .ok (.iadd, 1) := by decide +kernel
theorem dX1_strength_22 : decode cX1_strength 22 = .ok (.istore_n 1, 1) := by decide +kernel
theorem dX1_strength_23 : decode cX1_strength 23 = .ok (.iinc 2 1, 3) := by decide +kernel
theorem dX1_strength_26 : decode cX1_strength 26 = .ok (.goto (-22), 3) := by decide +kernel
theorem dX1_strength_29 : decode cX1_strength 29 = .ok (.iload_n 1, 1) := by decide +kernel
theorem dX1_strength_30 : decode cX1_strength 30 = .ok (.ireturn, 1) := by decide +kernel
theorem dX1_profile_0 : decode cX1_profile 0 = .ok (.iload_n 0, 1) := by decide +kernel
theorem dX1_profile_1 : decode cX1_profile 1 = .ok (.invokestatic 25, 3) := by decide +kernel
theorem dX1_profile_4 : decode cX1_profile 4 = .ok (.bipush 24, 2) := by decide +kernel
theorem dX1_profile_6 : decode cX1_profile 6 = .ok (.ishl, 1) := by decide +kernel
theorem dX1_profile_7 : decode cX1_profile 7 = .ok (.istore_n 1, 1) := by decide +kernel
theorem dX1_profile_8 : decode cX1_profile 8 = .ok (.iconst 0, 1) := by decide +kernel
theorem dX1_profile_9 : decode cX1_profile 9 = .ok (.istore_n 2, 1) := by decide +kernel
theorem dX1_profile_10 : decode cX1_profile 10 = .ok (.iload_n 2, 1) := by decide +kernel
theorem dX1_profile_11 : decode cX1_profile 11 = .ok (.iconst 4, 1) := by decide +kernel
theorem dX1_profile_12 : decode cX1_profile 12 = .ok (.if_icmp .ge 25, 3) := by decide +kernel
theorem dX1_profile_15 : decode cX1_profile 15 = .ok (.iload_n 1, 1) := by decide +kernel
theorem dX1_profile_16 : decode cX1_profile 16 = .ok (.iload_n 0, 1) := by decide +kernel
theorem dX1_profile_17 : decode cX1_profile 17 = .ok (.iload_n 2, 1) := by decide +kernel
theorem dX1_profile_18 : decode cX1_profile 18 = .ok (.invokestatic 28, 3) := by decide +kernel
theorem dX1_profile_21 : decode cX1_profile 21 = .ok (.invokestatic 16, 3) := by decide +kernel
theorem dX1_profile_24 : decode cX1_profile 24 = .ok (.bipush 6, 2) := by decide +kernel
theorem dX1_profile_26 : decode cX1_profile 26 = .ok (.iload_n 2, 1) := by decide +kernel
theorem dX1_profile_27 : decode cX1_profile 27 = .ok (.imul, 1) := by decide +kernel
theorem dX1_profile_28 : decode cX1_profile 28 = .ok (.ishl, 1) := by decide +kernel
theorem dX1_profile_29 : decode cX1_profile 29 = .ok (.ior, 1) := by decide +kernel
theorem dX1_profile_30 : decode cX1_profile 30 = .ok (.istore_n 1, 1) := by decide +kernel
theorem dX1_profile_31 : decode cX1_profile 31 = .ok (.iinc 2 1, 3) := by decide +kernel
theorem dX1_profile_34 : decode cX1_profile 34 = .ok (.goto (-24), 3) := by decide +kernel
theorem dX1_profile_37 : decode cX1_profile 37 = .ok (.iload_n 1, 1) := by decide +kernel
theorem dX1_profile_38 : decode cX1_profile 38 = .ok (.ireturn, 1) := by decide +kernel
theorem dX1_shownNumber_0 : decode cX1_shownNumber 0 = .ok (.iload_n 1, 1) := by decide +kernel
theorem dX1_shownNumber_1 : decode cX1_shownNumber 1 = .ok (.bipush 10, 2) := by decide +kernel
theorem dX1_shownNumber_3 : decode cX1_shownNumber 3 = .ok (.if_icmp .lt 7, 3) := by decide +kernel
theorem dX1_shownNumber_6 : decode cX1_shownNumber 6 = .ok (.iload_n 0, 1) := by decide +kernel
theorem dX1_shownNumber_7 : decode cX1_shownNumber 7 = .ok (.goto 10, 3) := by decide +kernel
theorem dX1_shownNumber_10 : decode cX1_shownNumber 10 = .ok (.iload_n 0, 1) := by decide +kernel
theorem dX1_shownNumber_11 : decode cX1_shownNumber 11 = .ok (.iload_n 1, 1) := by decide +kernel
theorem dX1_shownNumber_12 : decode cX1_shownNumber 12 = .ok (.iconst 2, 1) := by decide +kernel
theorem dX1_shownNumber_13 : decode cX1_shownNumber 13 = .ok (.idiv, 1) := by decide +kernel
theorem dX1_shownNumber_14 : decode cX1_shownNumber 14 = .ok (.invokestatic 35, 3) := by decide +kernel
theorem dX1_shownNumber_17 : decode cX1_shownNumber 17 = .ok (.ireturn, 1) := by decide +kernel
theorem dX1_joinShown_0 : decode cX1_joinShown 0 = .ok (.iload_n 2, 1) := by decide +kernel
theorem dX1_joinShown_1 : decode cX1_joinShown 1 = .ok (.bipush 10, 2) := by decide +kernel
theorem dX1_joinShown_3 : decode cX1_joinShown 3 = .ok (.if_icmp .ne 7, 3) := by decide +kernel
theorem dX1_joinShown_6 : decode cX1_joinShown 6 = .ok (.iload_n 0, 1) := by decide +kernel
theorem dX1_joinShown_7 : decode cX1_joinShown 7 = .ok (.iload_n 1, 1) := by decide +kernel
theorem dX1_joinShown_8 : decode cX1_joinShown 8 = .ok (.iand, 1) := by decide +kernel
theorem dX1_joinShown_9 : decode cX1_joinShown 9 = .ok (.ireturn, 1) := by decide +kernel
theorem dX1_joinShown_10 : decode cX1_joinShown 10 = .ok (.iload_n 2, 1) := by decide +kernel
theorem dX1_joinShown_11 : decode cX1_joinShown 11 = .ok (.bipush 10, 2) := by decide +kernel
theorem dX1_joinShown_13 : decode cX1_joinShown 13 = .ok (.if_icmp .le 7, 3) := by decide +kernel
theorem dX1_joinShown_16 : decode cX1_joinShown 16 = .ok (.iload_n 0, 1) := by decide +kernel
theorem dX1_joinShown_17 : decode cX1_joinShown 17 = .ok (.iload_n 1, 1) := by decide +kernel
theorem dX1_joinShown_18 : decode cX1_joinShown 18 = .ok (.ior, 1) := by decide +kernel
theorem dX1_joinShown_19 : decode cX1_joinShown 19 = .ok (.ireturn, 1) := by decide +kernel
theorem dX1_joinShown_20 : decode cX1_joinShown 20 = .ok (.iload_n 2, 1) := by decide +kernel
theorem dX1_joinShown_21 : decode cX1_joinShown 21 = .ok (.iconst 2, 1) := by decide +kernel
theorem dX1_joinShown_22 : decode cX1_joinShown 22 = .ok (.irem, 1) := by decide +kernel
theorem dX1_joinShown_23 : decode cX1_joinShown 23 = .ok (.ifCond .ne 11, 3) := by decide +kernel
theorem dX1_joinShown_26 : decode cX1_joinShown 26 = .ok (.iload_n 0, 1) := by decide +kernel
theorem dX1_joinShown_27 : decode cX1_joinShown 27 = .ok (.iload_n 1, 1) := by decide +kernel
theorem dX1_joinShown_28 : decode cX1_joinShown 28 = .ok (.invokestatic 38, 3) := by decide +kernel
theorem dX1_joinShown_31 : decode cX1_joinShown 31 = .ok (.goto 8, 3) := by decide +kernel
theorem dX1_joinShown_34 : decode cX1_joinShown 34 = .ok (.iload_n 0, 1) := by decide +kernel
theorem dX1_joinShown_35 : decode cX1_joinShown 35 = .ok (.iload_n 1, 1) := by decide +kernel
theorem dX1_joinShown_36 : decode cX1_joinShown 36 = .ok (.invokestatic 43, 3) := by decide +kernel
theorem dX1_joinShown_39 : decode cX1_joinShown 39 = .ok (.ireturn, 1) := by decide +kernel
theorem dX1_tricksOf_0 : decode cX1_tricksOf 0 = .ok (.iconst 0, 1) := by decide +kernel
theorem dX1_tricksOf_1 : decode cX1_tricksOf 1 = .ok (.istore_n 3, 1) := by decide +kernel
theorem dX1_tricksOf_2 : decode cX1_tricksOf 2 = .ok (.iconst 0, 1) := by decide +kernel
theorem dX1_tricksOf_3 : decode cX1_tricksOf 3 = .ok (.istore 4, 2) := by decide +kernel
theorem dX1_tricksOf_5 : decode cX1_tricksOf 5 = .ok (.iload 4, 2) := by decide +kernel
theorem dX1_tricksOf_7 : decode cX1_tricksOf 7 = .ok (.iconst 4, 1) := by decide +kernel
theorem dX1_tricksOf_8 : decode cX1_tricksOf 8 = .ok (.if_icmp .ge 58, 3) := by decide +kernel
theorem dX1_tricksOf_11 : decode cX1_tricksOf 11 = .ok (.iload_n 3, 1) := by decide +kernel
theorem dX1_tricksOf_12 : decode cX1_tricksOf 12 = .ok (.iload_n 1, 1) := by decide +kernel
theorem dX1_tricksOf_13 : decode cX1_tricksOf 13 = .ok (.iload 4, 2) := by decide +kernel
theorem dX1_tricksOf_15 : decode cX1_tricksOf 15 = .ok (.invokestatic 28, 3) := by decide +kernel
theorem dX1_tricksOf_18 : decode cX1_tricksOf 18 = .ok (.iload_n 2, 1) := by decide +kernel
theorem dX1_tricksOf_19 : decode cX1_tricksOf 19 = .ok (.iload 4, 2) := by decide +kernel
theorem dX1_tricksOf_21 : decode cX1_tricksOf 21 = .ok (.invokestatic 28, 3) := by decide +kernel
theorem dX1_tricksOf_24 : decode cX1_tricksOf 24 = .ok (.invokestatic 46, 3) := by decide +kernel
theorem dX1_tricksOf_27 : decode cX1_tricksOf 27 = .ok (.iadd, 1) := by decide +kernel
theorem dX1_tricksOf_28 : decode cX1_tricksOf 28 = .ok (.istore_n 3, 1) := by decide +kernel
theorem dX1_tricksOf_29 : decode cX1_tricksOf 29 = .ok (.iload_n 0, 1) := by decide +kernel
theorem dX1_tricksOf_30 : decode cX1_tricksOf 30 = .ok (.iconst 4, 1) := by decide +kernel
theorem dX1_tricksOf_31 : decode cX1_tricksOf 31 = .ok (.if_icmp .eq 29, 3) := by decide +kernel
theorem dX1_tricksOf_34 : decode cX1_tricksOf 34 = .ok (.iload 4, 2) := by decide +kernel
theorem dX1_tricksOf_36 : decode cX1_tricksOf 36 = .ok (.iload_n 0, 1) := by decide +kernel
theorem dX1_tricksOf_37 : decode cX1_tricksOf 37 = .ok (.if_icmp .eq 23, 3) := by decide +kernel
theorem dX1_tricksOf_40 : decode cX1_tricksOf 40 = .ok (.iload_n 3, 1) := by decide +kernel
theorem dX1_tricksOf_41 : decode cX1_tricksOf 41 = .ok (.iload_n 1, 1) := by decide +kernel
theorem dX1_tricksOf_42 : decode cX1_tricksOf 42 = .ok (.iload_n 2, 1) := by decide +kernel
theorem dX1_tricksOf_43 : decode cX1_tricksOf 43 = .ok (.iload 4, 2) := by decide +kernel
theorem dX1_tricksOf_45 : decode cX1_tricksOf 45 = .ok (.iload_n 0, 1) := by decide +kernel
theorem dX1_tricksOf_46 : decode cX1_tricksOf 46 = .ok (.invokestatic 49, 3) := by decide +kernel
theorem dX1_tricksOf_49 : decode cX1_tricksOf 49 = .ok (.iload_n 2, 1) := by decide +kernel
theorem dX1_tricksOf_50 : decode cX1_tricksOf 50 = .ok (.iload_n 1, 1) := by decide +kernel
theorem dX1_tricksOf_51 : decode cX1_tricksOf 51 = .ok (.iload 4, 2) := by decide +kernel
theorem dX1_tricksOf_53 : decode cX1_tricksOf 53 = .ok (.iload_n 0, 1) := by decide +kernel
theorem dX1_tricksOf_54 : decode cX1_tricksOf 54 = .ok (.invokestatic 49, 3) := by decide +kernel
theorem dX1_tricksOf_57 : decode cX1_tricksOf 57 = .ok (.iadd, 1) := by decide +kernel
theorem dX1_tricksOf_58 : decode cX1_tricksOf 58 = .ok (.iadd, 1) := by decide +kernel
theorem dX1_tricksOf_59 : decode cX1_tricksOf 59 = .ok (.istore_n 3, 1) := by decide +kernel
theorem dX1_tricksOf_60 : decode cX1_tricksOf 60 = .ok (.iinc 4 1, 3) := by decide +kernel
theorem dX1_tricksOf_63 : decode cX1_tricksOf 63 = .ok (.goto (-58), 3) := by decide +kernel
theorem dX1_tricksOf_66 : decode cX1_tricksOf 66 = .ok (.iload_n 3, 1) := by decide +kernel
theorem dX1_tricksOf_67 : decode cX1_tricksOf 67 = .ok (.iconst 5, 1) := by decide +kernel
theorem dX1_tricksOf_68 : decode cX1_tricksOf 68 = .ok (.invokestatic 38, 3) := by decide +kernel
theorem dX1_tricksOf_71 : decode cX1_tricksOf 71 = .ok (.ireturn, 1) := by decide +kernel
theorem dX1_winners_0 : decode cX1_winners 0 = .ok (.iload_n 0, 1) := by decide +kernel
theorem dX1_winners_1 : decode cX1_winners 1 = .ok (.iload_n 1, 1) := by decide +kernel
theorem dX1_winners_2 : decode cX1_winners 2 = .ok (.ior, 1) := by decide +kernel
theorem dX1_winners_3 : decode cX1_winners 3 = .ok (.istore_n 2, 1) := by decide +kernel
theorem dX1_winners_4 : decode cX1_winners 4 = .ok (.iconst 0, 1) := by decide +kernel
theorem dX1_winners_5 : decode cX1_winners 5 = .ok (.istore_n 3, 1) := by decide +kernel
theorem dX1_winners_6 : decode cX1_winners 6 = .ok (.iconst 4, 1) := by decide +kernel
theorem dX1_winners_7 : decode cX1_winners 7 = .ok (.istore 4, 2) := by decide +kernel
theorem dX1_winners_9 : decode cX1_winners 9 = .ok (.iload 4, 2) := by decide +kernel
theorem dX1_winners_11 : decode cX1_winners 11 = .ok (.ifCond .lt 22, 3) := by decide +kernel
theorem dX1_winners_14 : decode cX1_winners 14 = .ok (.iload_n 2, 1) := by decide +kernel
theorem dX1_winners_15 : decode cX1_winners 15 = .ok (.iload 4, 2) := by decide +kernel
theorem dX1_winners_17 : decode cX1_winners 17 = .ok (.ishr, 1) := by decide +kernel
theorem dX1_winners_18 : decode cX1_winners 18 = .ok (.iconst 1, 1) := by decide +kernel
theorem dX1_winners_19 : decode cX1_winners 19 = .ok (.iand, 1) := by decide +kernel
theorem dX1_winners_20 : decode cX1_winners 20 = .ok (.iconst 1, 1) := by decide +kernel
theorem dX1_winners_21 : decode cX1_winners 21 = .ok (.if_icmp .ne 12, 3) := by decide +kernel
theorem dX1_winners_24 : decode cX1_winners 24 = .ok (.iinc 3 1, 3) := by decide +kernel
theorem dX1_winners_27 : decode cX1_winners 27 = .ok (.iinc 4 (-1), 3) := by decide +kernel
theorem dX1_winners_30 : decode cX1_winners 30 = .ok (.goto (-21), 3) := by decide +kernel
theorem dX1_winners_33 : decode cX1_winners 33 = .ok (.iload_n 3, 1) := by decide +kernel
theorem dX1_winners_34 : decode cX1_winners 34 = .ok (.iload_n 0, 1) := by decide +kernel
theorem dX1_winners_35 : decode cX1_winners 35 = .ok (.invokestatic 16, 3) := by decide +kernel
theorem dX1_winners_38 : decode cX1_winners 38 = .ok (.iload_n 1, 1) := by decide +kernel
theorem dX1_winners_39 : decode cX1_winners 39 = .ok (.invokestatic 16, 3) := by decide +kernel
theorem dX1_winners_42 : decode cX1_winners 42 = .ok (.invokestatic 43, 3) := by decide +kernel
theorem dX1_winners_45 : decode cX1_winners 45 = .ok (.invokestatic 38, 3) := by decide +kernel
theorem dX1_winners_48 : decode cX1_winners 48 = .ok (.ireturn, 1) := by decide +kernel
theorem dX1_ruffs_0 : decode cX1_ruffs 0 = .ok (.iload_n 0, 1) := by decide +kernel
theorem dX1_ruffs_1 : decode cX1_ruffs 1 = .ok (.iload_n 2, 1) := by decide +kernel
theorem dX1_ruffs_2 : decode cX1_ruffs 2 = .ok (.invokestatic 28, 3) := by decide +kernel
theorem dX1_ruffs_5 : decode cX1_ruffs 5 = .ok (.ifCond .ne 15, 3) := by decide +kernel
theorem dX1_ruffs_8 : decode cX1_ruffs 8 = .ok (.iload_n 0, 1) := by decide +kernel
theorem dX1_ruffs_9 : decode cX1_ruffs 9 = .ok (.iload_n 3, 1) := by decide +kernel
theorem dX1_ruffs_10 : decode cX1_ruffs 10 = .ok (.invokestatic 28, 3) := by decide +kernel
theorem dX1_ruffs_13 : decode cX1_ruffs 13 = .ok (.ifCond .eq 7, 3) := by decide +kernel
theorem dX1_ruffs_16 : decode cX1_ruffs 16 = .ok (.iconst 1, 1) := by decide +kernel
theorem dX1_ruffs_17 : decode cX1_ruffs 17 = .ok (.goto 4, 3) := by decide +kernel
theorem dX1_ruffs_20 : decode cX1_ruffs 20 = .ok (.iconst 0, 1) := by decide +kernel
theorem dX1_ruffs_21 : decode cX1_ruffs 21 = .ok (.istore 4, 2) := by decide +kernel
theorem dX1_ruffs_23 : decode cX1_ruffs 23 = .ok (.iload 4, 2) := by decide +kernel
theorem dX1_ruffs_25 : decode cX1_ruffs 25 = .ok (.ifCond .eq 15, 3) := by decide +kernel
theorem dX1_ruffs_28 : decode cX1_ruffs 28 = .ok (.iload_n 1, 1) := by decide +kernel
theorem dX1_ruffs_29 : decode cX1_ruffs 29 = .ok (.iload_n 2, 1) := by decide +kernel
theorem dX1_ruffs_30 : decode cX1_ruffs 30 = .ok (.invokestatic 28, 3) := by decide +kernel
theorem dX1_ruffs_33 : decode cX1_ruffs 33 = .ok (.ifCond .eq 7, 3) := by decide +kernel
theorem dX1_ruffs_36 : decode cX1_ruffs 36 = .ok (.iconst 1, 1) := by decide +kernel
theorem dX1_ruffs_37 : decode cX1_ruffs 37 = .ok (.goto 4, 3) := by decide +kernel
theorem dX1_ruffs_40 : decode cX1_ruffs 40 = .ok (.iconst 0, 1) := by decide +kernel
theorem dX1_ruffs_41 : decode cX1_ruffs 41 = .ok (.ireturn, 1) := by decide +kernel
theorem dX2_init_0 : decode cX2_init 0 = .ok (.aload_n 0, 1) := by decide +kernel
theorem dX2_init_1 : decode cX2_init 1 = .ok (.invokespecial 1, 3) := by decide +kernel
theorem dX2_init_4 : decode cX2_init 4 = .ok (.aload_n 0, 1) := by decide +kernel
theorem dX2_init_5 : decode cX2_init 5 = .ok (.iload_n 1, 1) := by decide +kernel
theorem dX2_init_6 : decode cX2_init 6 = .ok (.putfield 7, 3) := by decide +kernel
theorem dX2_init_9 : decode cX2_init 9 = .ok (.aload_n 0, 1) := by decide +kernel
theorem dX2_init_10 : decode cX2_init 10 = .ok (.iload_n 2, 1) := by decide +kernel
theorem dX2_init_11 : decode cX2_init 11 = .ok (.putfield 13, 3) := by decide +kernel
theorem dX2_init_14 : decode cX2_init 14 = .ok (.aload_n 0, 1) := by decide +kernel
theorem dX2_init_15 : decode cX2_init 15 = .ok (.aload_n 3, 1) := by decide +kernel
theorem dX2_init_16 : decode cX2_init 16 = .ok (.putfield 16, 3) := by decide +kernel
theorem dX2_init_19 : decode cX2_init 19 = .ok (.return_, 1) := by decide +kernel
theorem dX2_number_0 : decode cX2_number 0 = .ok (.iload_n 1, 1) := by decide +kernel
theorem dX2_number_1 : decode cX2_number 1 = .ok (.tableswitch 45 0 2 #[27, 32, 37], 27) := by decide +kernel
theorem dX2_number_28 : decode cX2_number 28 = .ok (.aload_n 0, 1) := by decide +kernel
theorem dX2_number_29 : decode cX2_number 29 = .ok (.getfield 7, 3) := by decide +kernel
theorem dX2_number_32 : decode cX2_number 32 = .ok (.ireturn, 1) := by decide +kernel
theorem dX2_number_33 : decode cX2_number 33 = .ok (.aload_n 0, 1) := by decide +kernel
theorem dX2_number_34 : decode cX2_number 34 = .ok (.getfield 13, 3) := by decide +kernel
theorem dX2_number_37 : decode cX2_number 37 = .ok (.ireturn, 1) := by decide +kernel
theorem dX2_number_38 : decode cX2_number 38 = .ok (.aload_n 0, 1) := by decide +kernel
theorem dX2_number_39 : decode cX2_number 39 = .ok (.getfield 16, 3) := by decide +kernel
theorem dX2_number_42 : decode cX2_number 42 = .ok (.getfield 20, 3) := by decide +kernel
theorem dX2_number_45 : decode cX2_number 45 = .ok (.ireturn, 1) := by decide +kernel
theorem dX2_number_46 : decode cX2_number 46 = .ok (.aload_n 0, 1) := by decide +kernel
theorem dX2_number_47 : decode cX2_number 47 = .ok (.getfield 16, 3) := by decide +kernel
theorem dX2_number_50 : decode cX2_number 50 = .ok (.getfield 25, 3) := by decide +kernel
theorem dX2_number_53 : decode cX2_number 53 = .ok (.ireturn, 1) := by decide +kernel
theorem dX3_init_0 : decode cX3_init 0 = .ok (.aload_n 0, 1) := by decide +kernel
theorem dX3_init_1 : decode cX3_init 1 = .ok (.invokespecial 1, 3) := by decide +kernel
theorem dX3_init_4 : decode cX3_init 4 = .ok (.aload_n 0, 1) := by decide +kernel
theorem dX3_init_5 : decode cX3_init 5 = .ok (.iload_n 1, 1) := by decide +kernel
theorem dX3_init_6 : decode cX3_init 6 = .ok (.putfield 7, 3) := by decide +kernel
theorem dX3_init_9 : decode cX3_init 9 = .ok (.aload_n 0, 1) := by decide +kernel
theorem dX3_init_10 : decode cX3_init 10 = .ok (.iload_n 2, 1) := by decide +kernel
theorem dX3_init_11 : decode cX3_init 11 = .ok (.putfield 13, 3) := by decide +kernel
theorem dX3_init_14 : decode cX3_init 14 = .ok (.aload_n 0, 1) := by decide +kernel
theorem dX3_init_15 : decode cX3_init 15 = .ok (.iload_n 3, 1) := by decide +kernel
theorem dX3_init_16 : decode cX3_init 16 = .ok (.putfield 16, 3) := by decide +kernel
theorem dX3_init_19 : decode cX3_init 19 = .ok (.return_, 1) := by decide +kernel
theorem dX4_init_0 : decode cX4_init 0 = .ok (.aload_n 0, 1) := by decide +kernel
theorem dX4_init_1 : decode cX4_init 1 = .ok (.invokespecial 3, 3) := by decide +kernel
theorem dX4_init_4 : decode cX4_init 4 = .ok (.aload_n 0, 1) := by decide +kernel
theorem dX4_init_5 : decode cX4_init 5 = .ok (.iconst 0, 1) := by decide +kernel
theorem dX4_init_6 : decode cX4_init 6 = .ok (.putfield 9, 3) := by decide +kernel
theorem dX4_init_9 : decode cX4_init 9 = .ok (.aload_n 0, 1) := by decide +kernel
theorem dX4_init_10 : decode cX4_init 10 = .ok (.ldc 15, 2) := by decide +kernel
theorem dX4_init_12 : decode cX4_init 12 = .ok (.putfield 16, 3) := by decide +kernel
theorem dX4_init_15 : decode cX4_init 15 = .ok (.aload_n 0, 1) := by decide +kernel
theorem dX4_init_16 : decode cX4_init 16 = .ok (.iload_n 1, 1) := by decide +kernel
theorem dX4_init_17 : decode cX4_init 17 = .ok (.putfield 19, 3) := by decide +kernel
theorem dX4_init_20 : decode cX4_init 20 = .ok (.aload_n 0, 1) := by decide +kernel
theorem dX4_init_21 : decode cX4_init 21 = .ok (.iload_n 2, 1) := by decide +kernel
theorem dX4_init_22 : decode cX4_init 22 = .ok (.putfield 22, 3) := by decide +kernel
theorem dX4_init_25 : decode cX4_init 25 = .ok (.aload_n 0, 1) := by decide +kernel
theorem dX4_init_26 : decode cX4_init 26 = .ok (.iload_n 3, 1) := by decide +kernel
theorem dX4_init_27 : decode cX4_init 27 = .ok (.putfield 25, 3) := by decide +kernel
theorem dX4_init_30 : decode cX4_init 30 = .ok (.aload_n 0, 1) := by decide +kernel
theorem dX4_init_31 : decode cX4_init 31 = .ok (.iload 4, 2) := by decide +kernel
theorem dX4_init_33 : decode cX4_init 33 = .ok (.putfield 28, 3) := by decide +kernel
theorem dX4_init_36 : decode cX4_init 36 = .ok (.return_, 1) := by decide +kernel
theorem dX4_setRange_0 : decode cX4_setRange 0 = .ok (.bipush 6, 2) := by decide +kernel
theorem dX4_setRange_2 : decode cX4_setRange 2 = .ok (.iload_n 1, 1) := by decide +kernel
theorem dX4_setRange_3 : decode cX4_setRange 3 = .ok (.imul, 1) := by decide +kernel
theorem dX4_setRange_4 : decode cX4_setRange 4 = .ok (.istore 4, 2) := by decide +kernel
theorem dX4_setRange_6 : decode cX4_setRange 6 = .ok (.aload_n 0, 1) := by decide +kernel
theorem dX4_setRange_7 : decode cX4_setRange 7 = .ok (.aload_n 0, 1) := by decide +kernel
theorem dX4_setRange_8 : decode cX4_setRange 8 = .ok (.getfield 9, 3) := by decide +kernel
theorem dX4_setRange_11 : decode cX4_setRange 11 = .ok (.bipush 31, 2) := by decide +kernel
theorem dX4_setRange_13 : decode cX4_setRange 13 = .ok (.iload 4, 2) := by decide +kernel
theorem dX4_setRange_15 : decode cX4_setRange 15 = .ok (.ishl, 1) := by decide +kernel
theorem dX4_setRange_16 : decode cX4_setRange 16 = .ok (.iconst (-1), 1) := by decide +kernel
theorem dX4_setRange_17 : decode cX4_setRange 17 = .ok (.ixor, 1) := by decide +kernel
theorem dX4_setRange_18 : decode cX4_setRange 18 = .ok (.iand, 1) := by decide +kernel
theorem dX4_setRange_19 : decode cX4_setRange 19 = .ok (.iload_n 2, 1) := by decide +kernel
theorem dX4_setRange_20 : decode cX4_setRange 20 = .ok (.iload 4, 2) := by decide +kernel
theorem dX4_setRange_22 : decode cX4_setRange 22 = .ok (.ishl, 1) := by decide +kernel
theorem dX4_setRange_23 : decode cX4_setRange 23 = .ok (.ior, 1) := by decide +kernel
theorem dX4_setRange_24 : decode cX4_setRange 24 = .ok (.putfield 9, 3) := by decide +kernel
theorem dX4_setRange_27 : decode cX4_setRange 27 = .ok (.aload_n 0, 1) := by decide +kernel
theorem dX4_setRange_28 : decode cX4_setRange 28 = .ok (.aload_n 0, 1) := by decide +kernel
theorem dX4_setRange_29 : decode cX4_setRange 29 = .ok (.getfield 16, 3) := by decide +kernel
theorem dX4_setRange_32 : decode cX4_setRange 32 = .ok (.bipush 31, 2) := by decide +kernel
theorem dX4_setRange_34 : decode cX4_setRange 34 = .ok (.iload 4, 2) := by decide +kernel
theorem dX4_setRange_36 : decode cX4_setRange 36 = .ok (.ishl, 1) := by decide +kernel
theorem dX4_setRange_37 : decode cX4_setRange 37 = .ok (.iconst (-1), 1) := by decide +kernel
theorem dX4_setRange_38 : decode cX4_setRange 38 = .ok (.ixor, 1) := by decide +kernel
theorem dX4_setRange_39 : decode cX4_setRange 39 = .ok (.iand, 1) := by decide +kernel
theorem dX4_setRange_40 : decode cX4_setRange 40 = .ok (.iload_n 3, 1) := by decide +kernel
theorem dX4_setRange_41 : decode cX4_setRange 41 = .ok (.iload 4, 2) := by decide +kernel
theorem dX4_setRange_43 : decode cX4_setRange 43 = .ok (.ishl, 1) := by decide +kernel
theorem dX4_setRange_44 : decode cX4_setRange 44 = .ok (.ior, 1) := by decide +kernel
theorem dX4_setRange_45 : decode cX4_setRange 45 = .ok (.putfield 16, 3) := by decide +kernel
theorem dX4_setRange_48 : decode cX4_setRange 48 = .ok (.return_, 1) := by decide +kernel
theorem dX4_number_0 : decode cX4_number 0 = .ok (.iload_n 1, 1) := by decide +kernel
theorem dX4_number_1 : decode cX4_number 1 = .ok (.tableswitch 51 0 3 #[31, 36, 41, 46], 31) := by decide +kernel
theorem dX4_number_32 : decode cX4_number 32 = .ok (.aload_n 0, 1) := by decide +kernel
theorem dX4_number_33 : decode cX4_number 33 = .ok (.getfield 19, 3) := by decide +kernel
theorem dX4_number_36 : decode cX4_number 36 = .ok (.ireturn, 1) := by decide +kernel
theorem dX4_number_37 : decode cX4_number 37 = .ok (.aload_n 0, 1) := by decide +kernel
theorem dX4_number_38 : decode cX4_number 38 = .ok (.getfield 22, 3) := by decide +kernel
theorem dX4_number_41 : decode cX4_number 41 = .ok (.ireturn, 1) := by decide +kernel
theorem dX4_number_42 : decode cX4_number 42 = .ok (.aload_n 0, 1) := by decide +kernel
theorem dX4_number_43 : decode cX4_number 43 = .ok (.getfield 25, 3) := by decide +kernel
theorem dX4_number_46 : decode cX4_number 46 = .ok (.ireturn, 1) := by decide +kernel
theorem dX4_number_47 : decode cX4_number 47 = .ok (.aload_n 0, 1) := by decide +kernel
theorem dX4_number_48 : decode cX4_number 48 = .ok (.getfield 28, 3) := by decide +kernel
theorem dX4_number_51 : decode cX4_number 51 = .ok (.ireturn, 1) := by decide +kernel
theorem dX4_number_52 : decode cX4_number 52 = .ok (.iload_n 1, 1) := by decide +kernel
theorem dX4_number_53 : decode cX4_number 53 = .ok (.iconst 2, 1) := by decide +kernel
theorem dX4_number_54 : decode cX4_number 54 = .ok (.irem, 1) := by decide +kernel
theorem dX4_number_55 : decode cX4_number 55 = .ok (.ifCond .ne 10, 3) := by decide +kernel
theorem dX4_number_58 : decode cX4_number 58 = .ok (.aload_n 0, 1) := by decide +kernel
theorem dX4_number_59 : decode cX4_number 59 = .ok (.getfield 9, 3) := by decide +kernel
theorem dX4_number_62 : decode cX4_number 62 = .ok (.goto 7, 3) := by decide +kernel
theorem dX4_number_65 : decode cX4_number 65 = .ok (.aload_n 0, 1) := by decide +kernel
theorem dX4_number_66 : decode cX4_number 66 = .ok (.getfield 16, 3) := by decide +kernel
theorem dX4_number_69 : decode cX4_number 69 = .ok (.bipush 6, 2) := by decide +kernel
theorem dX4_number_71 : decode cX4_number 71 = .ok (.iload_n 1, 1) := by decide +kernel
theorem dX4_number_72 : decode cX4_number 72 = .ok (.iconst 2, 1) := by decide +kernel
theorem dX4_number_73 : decode cX4_number 73 = .ok (.idiv, 1) := by decide +kernel
theorem dX4_number_74 : decode cX4_number 74 = .ok (.iconst 2, 1) := by decide +kernel
theorem dX4_number_75 : decode cX4_number 75 = .ok (.isub, 1) := by decide +kernel
theorem dX4_number_76 : decode cX4_number 76 = .ok (.imul, 1) := by decide +kernel
theorem dX4_number_77 : decode cX4_number 77 = .ok (.ishr, 1) := by decide +kernel
theorem dX4_number_78 : decode cX4_number 78 = .ok (.bipush 31, 2) := by decide +kernel
theorem dX4_number_80 : decode cX4_number 80 = .ok (.iand, 1) := by decide +kernel
theorem dX4_number_81 : decode cX4_number 81 = .ok (.ireturn, 1) := by decide +kernel
theorem dX4_admits_0 : decode cX4_admits 0 = .ok (.iload_n 1, 1) := by decide +kernel
theorem dX4_admits_1 : decode cX4_admits 1 = .ok (.ldc 31, 2) := by decide +kernel
theorem dX4_admits_3 : decode cX4_admits 3 = .ok (.ior, 1) := by decide +kernel
theorem dX4_admits_4 : decode cX4_admits 4 = .ok (.aload_n 0, 1) := by decide +kernel
theorem dX4_admits_5 : decode cX4_admits 5 = .ok (.getfield 9, 3) := by decide +kernel
theorem dX4_admits_8 : decode cX4_admits 8 = .ok (.isub, 1) := by decide +kernel
theorem dX4_admits_9 : decode cX4_admits 9 = .ok (.istore_n 2, 1) := by decide +kernel
theorem dX4_admits_10 : decode cX4_admits 10 = .ok (.aload_n 0, 1) := by decide +kernel
theorem dX4_admits_11 : decode cX4_admits 11 = .ok (.getfield 16, 3) := by decide +kernel
theorem dX4_admits_14 : decode cX4_admits 14 = .ok (.ldc 31, 2) := by decide +kernel
theorem dX4_admits_16 : decode cX4_admits 16 = .ok (.ior, 1) := by decide +kernel
theorem dX4_admits_17 : decode cX4_admits 17 = .ok (.iload_n 1, 1) := by decide +kernel
theorem dX4_admits_18 : decode cX4_admits 18 = .ok (.isub, 1) := by decide +kernel
theorem dX4_admits_19 : decode cX4_admits 19 = .ok (.istore_n 3, 1) := by decide +kernel
theorem dX4_admits_20 : decode cX4_admits 20 = .ok (.iload_n 2, 1) := by decide +kernel
theorem dX4_admits_21 : decode cX4_admits 21 = .ok (.iload_n 3, 1) := by decide +kernel
theorem dX4_admits_22 : decode cX4_admits 22 = .ok (.iand, 1) := by decide +kernel
theorem dX4_admits_23 : decode cX4_admits 23 = .ok (.ldc 31, 2) := by decide +kernel
theorem dX4_admits_25 : decode cX4_admits 25 = .ok (.iand, 1) := by decide +kernel
theorem dX4_admits_26 : decode cX4_admits 26 = .ok (.ldc 31, 2) := by decide +kernel
theorem dX4_admits_28 : decode cX4_admits 28 = .ok (.if_icmp .ne 7, 3) := by decide +kernel
theorem dX4_admits_31 : decode cX4_admits 31 = .ok (.iconst 1, 1) := by decide +kernel
theorem dX4_admits_32 : decode cX4_admits 32 = .ok (.goto 4, 3) := by decide +kernel
theorem dX4_admits_35 : decode cX4_admits 35 = .ok (.iconst 0, 1) := by decide +kernel
theorem dX4_admits_36 : decode cX4_admits 36 = .ok (.ireturn, 1) := by decide +kernel
theorem dX4_isOpen_0 : decode cX4_isOpen 0 = .ok (.aload_n 0, 1) := by decide +kernel
theorem dX4_isOpen_1 : decode cX4_isOpen 1 = .ok (.getfield 19, 3) := by decide +kernel
theorem dX4_isOpen_4 : decode cX4_isOpen 4 = .ok (.aload_n 1, 1) := by decide +kernel
theorem dX4_isOpen_5 : decode cX4_isOpen 5 = .ok (.getfield 32, 3) := by decide +kernel
theorem dX4_isOpen_8 : decode cX4_isOpen 8 = .ok (.if_icmp .eq 5, 3) := by decide +kernel
theorem dX4_isOpen_11 : decode cX4_isOpen 11 = .ok (.iconst 0, 1) := by decide +kernel
theorem dX4_isOpen_12 : decode cX4_isOpen 12 = .ok (.ireturn, 1) := by decide +kernel
theorem dX4_isOpen_13 : decode cX4_isOpen 13 = .ok (.aload_n 0, 1) := by decide +kernel
theorem dX4_isOpen_14 : decode cX4_isOpen 14 = .ok (.getfield 22, 3) := by decide +kernel
theorem dX4_isOpen_17 : decode cX4_isOpen 17 = .ok (.bipush 25, 2) := by decide +kernel
theorem dX4_isOpen_19 : decode cX4_isOpen 19 = .ok (.if_icmp .ne 18, 3) := by decide +kernel
theorem dX4_isOpen_22 : decode cX4_isOpen 22 = .ok (.aload_n 1, 1) := by decide +kernel
theorem dX4_isOpen_23 : decode cX4_isOpen 23 = .ok (.getfield 35, 3) := by decide +kernel
theorem dX4_isOpen_26 : decode cX4_isOpen 26 = .ok (.ifCond .ne 7, 3) := by decide +kernel
theorem dX4_isOpen_29 : decode cX4_isOpen 29 = .ok (.iconst 1, 1) := by decide +kernel
theorem dX4_isOpen_30 : decode cX4_isOpen 30 = .ok (.goto 23, 3) := by decide +kernel
theorem dX4_isOpen_33 : decode cX4_isOpen 33 = .ok (.iconst 0, 1) := by decide +kernel
theorem dX4_isOpen_34 : decode cX4_isOpen 34 = .ok (.goto 19, 3) := by decide +kernel
theorem dX4_isOpen_37 : decode cX4_isOpen 37 = .ok (.aload_n 0, 1) := by decide +kernel
theorem dX4_isOpen_38 : decode cX4_isOpen 38 = .ok (.getfield 22, 3) := by decide +kernel
theorem dX4_isOpen_41 : decode cX4_isOpen 41 = .ok (.aload_n 1, 1) := by decide +kernel
theorem dX4_isOpen_42 : decode cX4_isOpen 42 = .ok (.getfield 36, 3) := by decide +kernel
theorem dX4_isOpen_45 : decode cX4_isOpen 45 = .ok (.if_icmp .le 7, 3) := by decide +kernel
theorem dX4_isOpen_48 : decode cX4_isOpen 48 = .ok (.iconst 1, 1) := by decide +kernel
theorem dX4_isOpen_49 : decode cX4_isOpen 49 = .ok (.goto 4, 3) := by decide +kernel
theorem dX4_isOpen_52 : decode cX4_isOpen 52 = .ok (.iconst 0, 1) := by decide +kernel
theorem dX4_isOpen_53 : decode cX4_isOpen 53 = .ok (.ireturn, 1) := by decide +kernel
theorem dX5_init_0 : decode cX5_init 0 = .ok (.aload_n 0, 1) := by decide +kernel
theorem dX5_init_1 : decode cX5_init 1 = .ok (.invokespecial 3, 3) := by decide +kernel
theorem dX5_init_4 : decode cX5_init 4 = .ok (.aload_n 0, 1) := by decide +kernel
theorem dX5_init_5 : decode cX5_init 5 = .ok (.new 9, 3) := by decide +kernel
theorem dX5_init_8 : decode cX5_init 8 = .ok (.dup, 1) := by decide +kernel
theorem dX5_init_9 : decode cX5_init 9 = .ok (.iconst 0, 1) := by decide +kernel
theorem dX5_init_10 : decode cX5_init 10 = .ok (.iconst 0, 1) := by decide +kernel
theorem dX5_init_11 : decode cX5_init 11 = .ok (.iconst 0, 1) := by decide +kernel
theorem dX5_init_12 : decode cX5_init 12 = .ok (.iconst 0, 1) := by decide +kernel
theorem dX5_init_13 : decode cX5_init 13 = .ok (.invokespecial 11, 3) := by decide +kernel
theorem dX5_init_16 : decode cX5_init 16 = .ok (.putfield 14, 3) := by decide +kernel
theorem dX5_init_19 : decode cX5_init 19 = .ok (.aload_n 0, 1) := by decide +kernel
theorem dX5_init_20 : decode cX5_init 20 = .ok (.iconst 0, 1) := by decide +kernel
theorem dX5_init_21 : decode cX5_init 21 = .ok (.putfield 20, 3) := by decide +kernel
theorem dX5_init_24 : decode cX5_init 24 = .ok (.aload_n 0, 1) := by decide +kernel
theorem dX5_init_25 : decode cX5_init 25 = .ok (.iconst 0, 1) := by decide +kernel
theorem dX5_init_26 : decode cX5_init 26 = .ok (.putfield 24, 3) := by decide +kernel
theorem dX5_init_29 : decode cX5_init 29 = .ok (.aload_n 0, 1) := by decide +kernel
theorem dX5_init_30 : decode cX5_init 30 = .ok (.aload_n 1, 1) := by decide +kernel
theorem dX5_init_31 : decode cX5_init 31 = .ok (.putfield 27, 3) := by decide +kernel
theorem dX5_init_34 : decode cX5_init 34 = .ok (.return_, 1) := by decide +kernel
theorem dX5_readsWhole_0 : decode cX5_readsWhole 0 = .ok (.aload_n 0, 1) := by decide +kernel
theorem dX5_readsWhole_1 : decode cX5_readsWhole 1 = .ok (.invokevirtual 31, 3) := by decide +kernel
theorem dX5_readsWhole_4 : decode cX5_readsWhole 4 = .ok (.ifCond .ne 5, 3) := by decide +kernel
theorem dX5_readsWhole_7 : decode cX5_readsWhole 7 = .ok (.iconst 0, 1) := by decide +kernel
theorem dX5_readsWhole_8 : decode cX5_readsWhole 8 = .ok (.ireturn, 1) := by decide +kernel
theorem dX5_readsWhole_9 : decode cX5_readsWhole 9 = .ok (.iconst 0, 1) := by decide +kernel
theorem dX5_readsWhole_10 : decode cX5_readsWhole 10 = .ok (.istore_n 1, 1) := by decide +kernel
theorem dX5_readsWhole_11 : decode cX5_readsWhole 11 = .ok (.iload_n 1, 1) := by decide +kernel
theorem dX5_readsWhole_12 : decode cX5_readsWhole 12 = .ok (.bipush 60, 2) := by decide +kernel
theorem dX5_readsWhole_14 : decode cX5_readsWhole 14 = .ok (.if_icmp .ge 43, 3) := by decide +kernel
theorem dX5_readsWhole_17 : decode cX5_readsWhole 17 = .ok (.aload_n 0, 1) := by decide +kernel
theorem dX5_readsWhole_18 : decode cX5_readsWhole 18 = .ok (.getfield 20, 3) := by decide +kernel
theorem dX5_readsWhole_21 : decode cX5_readsWhole 21 = .ok (.aload_n 0, 1) := by decide +kernel
theorem dX5_readsWhole_22 : decode cX5_readsWhole 22 = .ok (.getfield 27, 3) := by decide +kernel
theorem dX5_readsWhole_25 : decode cX5_readsWhole 25 = .ok (.invokevirtual 35, 3) := by decide +kernel
theorem dX5_readsWhole_28 : decode cX5_readsWhole 28 = .ok (.if_icmp .ge 29, 3) := by decide +kernel
theorem dX5_readsWhole_31 : decode cX5_readsWhole 31 = .ok (.aload_n 0, 1) := by decide +kernel
theorem dX5_readsWhole_32 : decode cX5_readsWhole 32 = .ok (.invokevirtual 41, 3) := by decide +kernel
theorem dX5_readsWhole_35 : decode cX5_readsWhole 35 = .ok (.istore_n 2, 1) := by decide +kernel
theorem dX5_readsWhole_36 : decode cX5_readsWhole 36 = .ok (.iload_n 2, 1) := by decide +kernel
theorem dX5_readsWhole_37 : decode cX5_readsWhole 37 = .ok (.iconst (-1), 1) := by decide +kernel
theorem dX5_readsWhole_38 : decode cX5_readsWhole 38 = .ok (.if_icmp .eq 11, 3) := by decide +kernel
theorem dX5_readsWhole_41 : decode cX5_readsWhole 41 = .ok (.aload_n 0, 1) := by decide +kernel
theorem dX5_readsWhole_42 : decode cX5_readsWhole 42 = .ok (.iload_n 2, 1) := by decide +kernel
theorem dX5_readsWhole_43 : decode cX5_readsWhole 43 = .ok (.invokevirtual 44, 3) := by decide +kernel
theorem dX5_readsWhole_46 : decode cX5_readsWhole 46 = .ok (.ifCond .ne 5, 3) := by decide +kernel
theorem dX5_readsWhole_49 : decode cX5_readsWhole 49 = .ok (.iconst 0, 1) := by decide +kernel
theorem dX5_readsWhole_50 : decode cX5_readsWhole 50 = .ok (.ireturn, 1) := by decide +kernel
theorem dX5_readsWhole_51 : decode cX5_readsWhole 51 = .ok (.iinc 1 1, 3) := by decide +kernel
theorem dX5_readsWhole_54 : decode cX5_readsWhole 54 = .ok (.goto (-43), 3) := by decide +kernel
theorem dX5_readsWhole_57 : decode cX5_readsWhole 57 = .ok (.aload_n 0, 1) := by decide +kernel
theorem dX5_readsWhole_58 : decode cX5_readsWhole 58 = .ok (.getfield 20, 3) := by decide +kernel
theorem dX5_readsWhole_61 : decode cX5_readsWhole 61 = .ok (.aload_n 0, 1) := by decide +kernel
theorem dX5_readsWhole_62 : decode cX5_readsWhole 62 = .ok (.getfield 27, 3) := by decide +kernel
theorem dX5_readsWhole_65 : decode cX5_readsWhole 65 = .ok (.invokevirtual 35, 3) := by decide +kernel
theorem dX5_readsWhole_68 : decode cX5_readsWhole 68 = .ok (.if_icmp .ne 7, 3) := by decide +kernel
theorem dX5_readsWhole_71 : decode cX5_readsWhole 71 = .ok (.iconst 1, 1) := by decide +kernel
theorem dX5_readsWhole_72 : decode cX5_readsWhole 72 = .ok (.goto 4, 3) := by decide +kernel
theorem dX5_readsWhole_75 : decode cX5_readsWhole 75 = .ok (.iconst 0, 1) := by decide +kernel
theorem dX5_readsWhole_76 : decode cX5_readsWhole 76 = .ok (.ireturn, 1) := by decide +kernel
theorem dX5_readsHead_0 : decode cX5_readsHead 0 = .ok (.aload_n 0, 1) := by decide +kernel
theorem dX5_readsHead_1 : decode cX5_readsHead 1 = .ok (.getfield 14, 3) := by decide +kernel
theorem dX5_readsHead_4 : decode cX5_readsHead 4 = .ok (.aload_n 0, 1) := by decide +kernel
theorem dX5_readsHead_5 : decode cX5_readsHead 5 = .ok (.iconst 0, 1) := by decide +kernel
theorem dX5_readsHead_6 : decode cX5_readsHead 6 = .ok (.bipush 7, 2) := by decide +kernel
theorem dX5_readsHead_8 : decode cX5_readsHead 8 = .ok (.invokevirtual 48, 3) := by decide +kernel
theorem dX5_readsHead_11 : decode cX5_readsHead 11 = .ok (.putfield 52, 3) := by decide +kernel
theorem dX5_readsHead_14 : decode cX5_readsHead 14 = .ok (.aload_n 0, 1) := by decide +kernel
theorem dX5_readsHead_15 : decode cX5_readsHead 15 = .ok (.getfield 14, 3) := by decide +kernel
theorem dX5_readsHead_18 : decode cX5_readsHead 18 = .ok (.getfield 52, 3) := by decide +kernel
theorem dX5_readsHead_21 : decode cX5_readsHead 21 = .ok (.iconst (-1), 1) := by decide +kernel
theorem dX5_readsHead_22 : decode cX5_readsHead 22 = .ok (.if_icmp .eq 12, 3) := by decide +kernel
theorem dX5_readsHead_25 : decode cX5_readsHead 25 = .ok (.aload_n 0, 1) := by decide +kernel
theorem dX5_readsHead_26 : decode cX5_readsHead 26 = .ok (.bipush 58, 2) := by decide +kernel
theorem dX5_readsHead_28 : decode cX5_readsHead 28 = .ok (.invokevirtual 55, 3) := by decide +kernel
theorem dX5_readsHead_31 : decode cX5_readsHead 31 = .ok (.ifCond .ne 5, 3) := by decide +kernel
theorem dX5_readsHead_34 : decode cX5_readsHead 34 = .ok (.iconst 0, 1) := by decide +kernel
theorem dX5_readsHead_35 : decode cX5_readsHead 35 = .ok (.ireturn, 1) := by decide +kernel
theorem dX5_readsHead_36 : decode cX5_readsHead 36 = .ok (.aload_n 0, 1) := by decide +kernel
theorem dX5_readsHead_37 : decode cX5_readsHead 37 = .ok (.getfield 14, 3) := by decide +kernel
theorem dX5_readsHead_40 : decode cX5_readsHead 40 = .ok (.aload_n 0, 1) := by decide +kernel
theorem dX5_readsHead_41 : decode cX5_readsHead 41 = .ok (.invokevirtual 59, 3) := by decide +kernel
theorem dX5_readsHead_44 : decode cX5_readsHead 44 = .ok (.putfield 62, 3) := by decide +kernel
theorem dX5_readsHead_47 : decode cX5_readsHead 47 = .ok (.aload_n 0, 1) := by decide +kernel
theorem dX5_readsHead_48 : decode cX5_readsHead 48 = .ok (.getfield 14, 3) := by decide +kernel
theorem dX5_readsHead_51 : decode cX5_readsHead 51 = .ok (.getfield 62, 3) := by decide +kernel
theorem dX5_readsHead_54 : decode cX5_readsHead 54 = .ok (.iconst (-1), 1) := by decide +kernel
theorem dX5_readsHead_55 : decode cX5_readsHead 55 = .ok (.if_icmp .eq 12, 3) := by decide +kernel
theorem dX5_readsHead_58 : decode cX5_readsHead 58 = .ok (.aload_n 0, 1) := by decide +kernel
theorem dX5_readsHead_59 : decode cX5_readsHead 59 = .ok (.bipush 62, 2) := by decide +kernel
theorem dX5_readsHead_61 : decode cX5_readsHead 61 = .ok (.invokevirtual 55, 3) := by decide +kernel
theorem dX5_readsHead_64 : decode cX5_readsHead 64 = .ok (.ifCond .ne 5, 3) := by decide +kernel
theorem dX5_readsHead_67 : decode cX5_readsHead 67 = .ok (.iconst 0, 1) := by decide +kernel
theorem dX5_readsHead_68 : decode cX5_readsHead 68 = .ok (.ireturn, 1) := by decide +kernel
theorem dX5_readsHead_69 : decode cX5_readsHead 69 = .ok (.aload_n 0, 1) := by decide +kernel
theorem dX5_readsHead_70 : decode cX5_readsHead 70 = .ok (.getfield 14, 3) := by decide +kernel
theorem dX5_readsHead_73 : decode cX5_readsHead 73 = .ok (.aload_n 0, 1) := by decide +kernel
theorem dX5_readsHead_74 : decode cX5_readsHead 74 = .ok (.iconst 0, 1) := by decide +kernel
theorem dX5_readsHead_75 : decode cX5_readsHead 75 = .ok (.bipush 7, 2) := by decide +kernel
theorem dX5_readsHead_77 : decode cX5_readsHead 77 = .ok (.invokevirtual 48, 3) := by decide +kernel
theorem dX5_readsHead_80 : decode cX5_readsHead 80 = .ok (.putfield 65, 3) := by decide +kernel
theorem dX5_readsHead_83 : decode cX5_readsHead 83 = .ok (.aload_n 0, 1) := by decide +kernel
theorem dX5_readsHead_84 : decode cX5_readsHead 84 = .ok (.getfield 14, 3) := by decide +kernel
theorem dX5_readsHead_87 : decode cX5_readsHead 87 = .ok (.getfield 65, 3) := by decide +kernel
theorem dX5_readsHead_90 : decode cX5_readsHead 90 = .ok (.iconst (-1), 1) := by decide +kernel
theorem dX5_readsHead_91 : decode cX5_readsHead 91 = .ok (.if_icmp .ne 5, 3) := by decide +kernel
theorem dX5_readsHead_94 : decode cX5_readsHead 94 = .ok (.iconst 0, 1) := by decide +kernel
theorem dX5_readsHead_95 : decode cX5_readsHead 95 = .ok (.ireturn, 1) := by decide +kernel
theorem dX5_readsHead_96 : decode cX5_readsHead 96 = .ok (.aload_n 0, 1) := by decide +kernel
theorem dX5_readsHead_97 : decode cX5_readsHead 97 = .ok (.getfield 14, 3) := by decide +kernel
theorem dX5_readsHead_100 : decode cX5_readsHead 100 = .ok (.aload_n 0, 1) := by decide +kernel
theorem dX5_readsHead_101 : decode cX5_readsHead 101 = .ok (.bipush 33, 2) := by decide +kernel
theorem dX5_readsHead_103 : decode cX5_readsHead 103 = .ok (.invokevirtual 55, 3) := by decide +kernel
theorem dX5_readsHead_106 : decode cX5_readsHead 106 = .ok (.ifCond .eq 7, 3) := by decide +kernel
theorem dX5_readsHead_109 : decode cX5_readsHead 109 = .ok (.iconst 1, 1) := by decide +kernel
theorem dX5_readsHead_110 : decode cX5_readsHead 110 = .ok (.goto 4, 3) := by decide +kernel
theorem dX5_readsHead_113 : decode cX5_readsHead 113 = .ok (.iconst 0, 1) := by decide +kernel
theorem dX5_readsHead_114 : decode cX5_readsHead 114 = .ok (.putfield 68, 3) := by decide +kernel
theorem dX5_readsHead_117 : decode cX5_readsHead 117 = .ok (.iconst 1, 1) := by decide +kernel
theorem dX5_readsHead_118 : decode cX5_readsHead 118 = .ok (.ireturn, 1) := by decide +kernel
theorem dX5_readCall_0 : decode cX5_readCall 0 = .ok (.aload_n 0, 1) := by decide +kernel
theorem dX5_readCall_1 : decode cX5_readCall 1 = .ok (.bipush 112, 2) := by decide +kernel
theorem dX5_readCall_3 : decode cX5_readCall 3 = .ok (.invokevirtual 55, 3) := by decide +kernel
theorem dX5_readCall_6 : decode cX5_readCall 6 = .ok (.ifCond .eq 6, 3) := by decide +kernel
theorem dX5_readCall_9 : decode cX5_readCall 9 = .ok (.bipush 25, 2) := by decide +kernel
theorem dX5_readCall_11 : decode cX5_readCall 11 = .ok (.ireturn, 1) := by decide +kernel
theorem dX5_readCall_12 : decode cX5_readCall 12 = .ok (.aload_n 0, 1) := by decide +kernel
theorem dX5_readCall_13 : decode cX5_readCall 13 = .ok (.iconst 1, 1) := by decide +kernel
theorem dX5_readCall_14 : decode cX5_readCall 14 = .ok (.iconst 5, 1) := by decide +kernel
theorem dX5_readCall_15 : decode cX5_readCall 15 = .ok (.invokevirtual 48, 3) := by decide +kernel
theorem dX5_readCall_18 : decode cX5_readCall 18 = .ok (.istore_n 1, 1) := by decide +kernel
theorem dX5_readCall_19 : decode cX5_readCall 19 = .ok (.iload_n 1, 1) := by decide +kernel
theorem dX5_readCall_20 : decode cX5_readCall 20 = .ok (.iconst (-1), 1) := by decide +kernel
theorem dX5_readCall_21 : decode cX5_readCall 21 = .ok (.if_icmp .ne 5, 3) := by decide +kernel
theorem dX5_readCall_24 : decode cX5_readCall 24 = .ok (.iconst (-1), 1) := by decide +kernel
theorem dX5_readCall_25 : decode cX5_readCall 25 = .ok (.ireturn, 1) := by decide +kernel
theorem dX5_readCall_26 : decode cX5_readCall 26 = .ok (.aload_n 0, 1) := by decide +kernel
theorem dX5_readCall_27 : decode cX5_readCall 27 = .ok (.invokevirtual 71, 3) := by decide +kernel
theorem dX5_readCall_30 : decode cX5_readCall 30 = .ok (.bipush 110, 2) := by decide +kernel
theorem dX5_readCall_32 : decode cX5_readCall 32 = .ok (.if_icmp .ne 7, 3) := by decide +kernel
theorem dX5_readCall_35 : decode cX5_readCall 35 = .ok (.iconst 4, 1) := by decide +kernel
theorem dX5_readCall_36 : decode cX5_readCall 36 = .ok (.goto 7, 3) := by decide +kernel
theorem dX5_readCall_39 : decode cX5_readCall 39 = .ok (.aload_n 0, 1) := by decide +kernel
theorem dX5_readCall_40 : decode cX5_readCall 40 = .ok (.invokevirtual 74, 3) := by decide +kernel
theorem dX5_readCall_43 : decode cX5_readCall 43 = .ok (.istore_n 2, 1) := by decide +kernel
theorem dX5_readCall_44 : decode cX5_readCall 44 = .ok (.iload_n 2, 1) := by decide +kernel
theorem dX5_readCall_45 : decode cX5_readCall 45 = .ok (.iconst (-1), 1) := by decide +kernel
theorem dX5_readCall_46 : decode cX5_readCall 46 = .ok (.if_icmp .ne 5, 3) := by decide +kernel
theorem dX5_readCall_49 : decode cX5_readCall 49 = .ok (.iconst (-1), 1) := by decide +kernel
theorem dX5_readCall_50 : decode cX5_readCall 50 = .ok (.ireturn, 1) := by decide +kernel
theorem dX5_readCall_51 : decode cX5_readCall 51 = .ok (.aload_n 0, 1) := by decide +kernel
theorem dX5_readCall_52 : decode cX5_readCall 52 = .ok (.dup, 1) := by decide +kernel
theorem dX5_readCall_53 : decode cX5_readCall 53 = .ok (.getfield 20, 3) := by decide +kernel
theorem dX5_readCall_56 : decode cX5_readCall 56 = .ok (.iconst 1, 1) := by decide +kernel
theorem dX5_readCall_57 : decode cX5_readCall 57 = .ok (.iadd, 1) := by decide +kernel
theorem dX5_readCall_58 : decode cX5_readCall 58 = .ok (.putfield 20, 3) := by decide +kernel
theorem dX5_readCall_61 : decode cX5_readCall 61 = .ok (.iload_n 1, 1) := by decide +kernel
theorem dX5_readCall_62 : decode cX5_readCall 62 = .ok (.iconst 1, 1) := by decide +kernel
theorem dX5_readCall_63 : decode cX5_readCall 63 = .ok (.isub, 1) := by decide +kernel
theorem dX5_readCall_64 : decode cX5_readCall 64 = .ok (.iconst 5, 1) := by decide +kernel
theorem dX5_readCall_65 : decode cX5_readCall 65 = .ok (.imul, 1) := by decide +kernel
theorem dX5_readCall_66 : decode cX5_readCall 66 = .ok (.iload_n 2, 1) := by decide +kernel
theorem dX5_readCall_67 : decode cX5_readCall 67 = .ok (.iadd, 1) := by decide +kernel
theorem dX5_readCall_68 : decode cX5_readCall 68 = .ok (.ireturn, 1) := by decide +kernel
theorem dX5_readKind_0 : decode cX5_readKind 0 = .ok (.aload_n 0, 1) := by decide +kernel
theorem dX5_readKind_1 : decode cX5_readKind 1 = .ok (.bipush 44, 2) := by decide +kernel
theorem dX5_readKind_3 : decode cX5_readKind 3 = .ok (.invokevirtual 55, 3) := by decide +kernel
theorem dX5_readKind_6 : decode cX5_readKind 6 = .ok (.ifCond .ne 5, 3) := by decide +kernel
theorem dX5_readKind_9 : decode cX5_readKind 9 = .ok (.iconst (-1), 1) := by decide +kernel
theorem dX5_readKind_10 : decode cX5_readKind 10 = .ok (.ireturn, 1) := by decide +kernel
theorem dX5_readKind_11 : decode cX5_readKind 11 = .ok (.aload_n 0, 1) := by decide +kernel
theorem dX5_readKind_12 : decode cX5_readKind 12 = .ok (.invokevirtual 71, 3) := by decide +kernel
theorem dX5_readKind_15 : decode cX5_readKind 15 = .ok (.bipush 43, 2) := by decide +kernel
theorem dX5_readKind_17 : decode cX5_readKind 17 = .ok (.if_icmp .ne 7, 3) := by decide +kernel
theorem dX5_readKind_20 : decode cX5_readKind 20 = .ok (.iconst 4, 1) := by decide +kernel
theorem dX5_readKind_21 : decode cX5_readKind 21 = .ok (.goto 7, 3) := by decide +kernel
theorem dX5_readKind_24 : decode cX5_readKind 24 = .ok (.aload_n 0, 1) := by decide +kernel
theorem dX5_readKind_25 : decode cX5_readKind 25 = .ok (.invokevirtual 74, 3) := by decide +kernel
theorem dX5_readKind_28 : decode cX5_readKind 28 = .ok (.istore_n 1, 1) := by decide +kernel
theorem dX5_readKind_29 : decode cX5_readKind 29 = .ok (.iload_n 1, 1) := by decide +kernel
theorem dX5_readKind_30 : decode cX5_readKind 30 = .ok (.iconst (-1), 1) := by decide +kernel
theorem dX5_readKind_31 : decode cX5_readKind 31 = .ok (.if_icmp .eq 15, 3) := by decide +kernel
theorem dX5_readKind_34 : decode cX5_readKind 34 = .ok (.aload_n 0, 1) := by decide +kernel
theorem dX5_readKind_35 : decode cX5_readKind 35 = .ok (.getfield 24, 3) := by decide +kernel
theorem dX5_readKind_38 : decode cX5_readKind 38 = .ok (.iload_n 1, 1) := by decide +kernel
theorem dX5_readKind_39 : decode cX5_readKind 39 = .ok (.ishr, 1) := by decide +kernel
theorem dX5_readKind_40 : decode cX5_readKind 40 = .ok (.iconst 1, 1) := by decide +kernel
theorem dX5_readKind_41 : decode cX5_readKind 41 = .ok (.iand, 1) := by decide +kernel
theorem dX5_readKind_42 : decode cX5_readKind 42 = .ok (.iconst 1, 1) := by decide +kernel
theorem dX5_readKind_43 : decode cX5_readKind 43 = .ok (.if_icmp .ne 5, 3) := by decide +kernel
theorem dX5_readKind_46 : decode cX5_readKind 46 = .ok (.iconst (-1), 1) := by decide +kernel
theorem dX5_readKind_47 : decode cX5_readKind 47 = .ok (.ireturn, 1) := by decide +kernel
theorem dX5_readKind_48 : decode cX5_readKind 48 = .ok (.aload_n 0, 1) := by decide +kernel
theorem dX5_readKind_49 : decode cX5_readKind 49 = .ok (.dup, 1) := by decide +kernel
theorem dX5_readKind_50 : decode cX5_readKind 50 = .ok (.getfield 20, 3) := by decide +kernel
theorem dX5_readKind_53 : decode cX5_readKind 53 = .ok (.iconst 1, 1) := by decide +kernel
theorem dX5_readKind_54 : decode cX5_readKind 54 = .ok (.iadd, 1) := by decide +kernel
theorem dX5_readKind_55 : decode cX5_readKind 55 = .ok (.putfield 20, 3) := by decide +kernel
theorem dX5_readKind_58 : decode cX5_readKind 58 = .ok (.aload_n 0, 1) := by decide +kernel
theorem dX5_readKind_59 : decode cX5_readKind 59 = .ok (.dup, 1) := by decide +kernel
theorem dX5_readKind_60 : decode cX5_readKind 60 = .ok (.getfield 24, 3) := by decide +kernel
theorem dX5_readKind_63 : decode cX5_readKind 63 = .ok (.iconst 1, 1) := by decide +kernel
theorem dX5_readKind_64 : decode cX5_readKind 64 = .ok (.iload_n 1, 1) := by decide +kernel
theorem dX5_readKind_65 : decode cX5_readKind 65 = .ok (.ishl, 1) := by decide +kernel
theorem dX5_readKind_66 : decode cX5_readKind 66 = .ok (.ior, 1) := by decide +kernel
theorem dX5_readKind_67 : decode cX5_readKind 67 = .ok (.putfield 24, 3) := by decide +kernel
theorem dX5_readKind_70 : decode cX5_readKind 70 = .ok (.iload_n 1, 1) := by decide +kernel
theorem dX5_readKind_71 : decode cX5_readKind 71 = .ok (.ireturn, 1) := by decide +kernel
theorem dX5_readsRange_0 : decode cX5_readsRange 0 = .ok (.iload_n 1, 1) := by decide +kernel
theorem dX5_readsRange_1 : decode cX5_readsRange 1 = .ok (.invokestatic 77, 3) := by decide +kernel
theorem dX5_readsRange_4 : decode cX5_readsRange 4 = .ok (.istore_n 2, 1) := by decide +kernel
theorem dX5_readsRange_5 : decode cX5_readsRange 5 = .ok (.aload_n 0, 1) := by decide +kernel
theorem dX5_readsRange_6 : decode cX5_readsRange 6 = .ok (.iload_n 2, 1) := by decide +kernel
theorem dX5_readsRange_7 : decode cX5_readsRange 7 = .ok (.invokevirtual 83, 3) := by decide +kernel
theorem dX5_readsRange_10 : decode cX5_readsRange 10 = .ok (.istore_n 3, 1) := by decide +kernel
theorem dX5_readsRange_11 : decode cX5_readsRange 11 = .ok (.iload_n 3, 1) := by decide +kernel
theorem dX5_readsRange_12 : decode cX5_readsRange 12 = .ok (.iconst (-1), 1) := by decide +kernel
theorem dX5_readsRange_13 : decode cX5_readsRange 13 = .ok (.if_icmp .eq 12, 3) := by decide +kernel
theorem dX5_readsRange_16 : decode cX5_readsRange 16 = .ok (.aload_n 0, 1) := by decide +kernel
theorem dX5_readsRange_17 : decode cX5_readsRange 17 = .ok (.bipush 45, 2) := by decide +kernel
theorem dX5_readsRange_19 : decode cX5_readsRange 19 = .ok (.invokevirtual 55, 3) := by decide +kernel
theorem dX5_readsRange_22 : decode cX5_readsRange 22 = .ok (.ifCond .ne 5, 3) := by decide +kernel
theorem dX5_readsRange_25 : decode cX5_readsRange 25 = .ok (.iconst 0, 1) := by decide +kernel
theorem dX5_readsRange_26 : decode cX5_readsRange 26 = .ok (.ireturn, 1) := by decide +kernel
theorem dX5_readsRange_27 : decode cX5_readsRange 27 = .ok (.aload_n 0, 1) := by decide +kernel
theorem dX5_readsRange_28 : decode cX5_readsRange 28 = .ok (.iload_n 2, 1) := by decide +kernel
theorem dX5_readsRange_29 : decode cX5_readsRange 29 = .ok (.invokevirtual 83, 3) := by decide +kernel
theorem dX5_readsRange_32 : decode cX5_readsRange 32 = .ok (.istore 4, 2) := by decide +kernel
theorem dX5_readsRange_34 : decode cX5_readsRange 34 = .ok (.iload 4, 2) := by decide +kernel
theorem dX5_readsRange_36 : decode cX5_readsRange 36 = .ok (.iconst (-1), 1) := by decide +kernel
theorem dX5_readsRange_37 : decode cX5_readsRange 37 = .ok (.if_icmp .ne 5, 3) := by decide +kernel
theorem dX5_readsRange_40 : decode cX5_readsRange 40 = .ok (.iconst 0, 1) := by decide +kernel
theorem dX5_readsRange_41 : decode cX5_readsRange 41 = .ok (.ireturn, 1) := by decide +kernel
theorem dX5_readsRange_42 : decode cX5_readsRange 42 = .ok (.iload 4, 2) := by decide +kernel
theorem dX5_readsRange_44 : decode cX5_readsRange 44 = .ok (.iload_n 3, 1) := by decide +kernel
theorem dX5_readsRange_45 : decode cX5_readsRange 45 = .ok (.if_icmp .ge 15, 3) := by decide +kernel
theorem dX5_readsRange_48 : decode cX5_readsRange 48 = .ok (.aload_n 0, 1) := by decide +kernel
theorem dX5_readsRange_49 : decode cX5_readsRange 49 = .ok (.dup, 1) := by decide +kernel
theorem dX5_readsRange_50 : decode cX5_readsRange 50 = .ok (.getfield 20, 3) := by decide +kernel
theorem dX5_readsRange_53 : decode cX5_readsRange 53 = .ok (.iconst 1, 1) := by decide +kernel
theorem dX5_readsRange_54 : decode cX5_readsRange 54 = .ok (.isub, 1) := by decide +kernel
theorem dX5_readsRange_55 : decode cX5_readsRange 55 = .ok (.putfield 20, 3) := by decide +kernel
theorem dX5_readsRange_58 : decode cX5_readsRange 58 = .ok (.iconst 0, 1) := by decide +kernel
theorem dX5_readsRange_59 : decode cX5_readsRange 59 = .ok (.ireturn, 1) := by decide +kernel
theorem dX5_readsRange_60 : decode cX5_readsRange 60 = .ok (.aload_n 0, 1) := by decide +kernel
theorem dX5_readsRange_61 : decode cX5_readsRange 61 = .ok (.getfield 14, 3) := by decide +kernel
theorem dX5_readsRange_64 : decode cX5_readsRange 64 = .ok (.iload_n 1, 1) := by decide +kernel
theorem dX5_readsRange_65 : decode cX5_readsRange 65 = .ok (.iload_n 3, 1) := by decide +kernel
theorem dX5_readsRange_66 : decode cX5_readsRange 66 = .ok (.iload 4, 2) := by decide +kernel
theorem dX5_readsRange_68 : decode cX5_readsRange 68 = .ok (.invokevirtual 86, 3) := by decide +kernel
theorem dX5_readsRange_71 : decode cX5_readsRange 71 = .ok (.iconst 1, 1) := by decide +kernel
theorem dX5_readsRange_72 : decode cX5_readsRange 72 = .ok (.ireturn, 1) := by decide +kernel
theorem dX5_readNumber_0 : decode cX5_readNumber 0 = .ok (.aload_n 0, 1) := by decide +kernel
theorem dX5_readNumber_1 : decode cX5_readNumber 1 = .ok (.iconst 0, 1) := by decide +kernel
theorem dX5_readNumber_2 : decode cX5_readNumber 2 = .ok (.iload_n 1, 1) := by decide +kernel
theorem dX5_readNumber_3 : decode cX5_readNumber 3 = .ok (.bipush 9, 2) := by decide +kernel
theorem dX5_readNumber_5 : decode cX5_readNumber 5 = .ok (.invokestatic 90, 3) := by decide +kernel
theorem dX5_readNumber_8 : decode cX5_readNumber 8 = .ok (.invokevirtual 48, 3) := by decide +kernel
theorem dX5_readNumber_11 : decode cX5_readNumber 11 = .ok (.istore_n 2, 1) := by decide +kernel
theorem dX5_readNumber_12 : decode cX5_readNumber 12 = .ok (.iload_n 2, 1) := by decide +kernel
theorem dX5_readNumber_13 : decode cX5_readNumber 13 = .ok (.ifCond .gt 5, 3) := by decide +kernel
theorem dX5_readNumber_16 : decode cX5_readNumber 16 = .ok (.iload_n 2, 1) := by decide +kernel
theorem dX5_readNumber_17 : decode cX5_readNumber 17 = .ok (.ireturn, 1) := by decide +kernel
theorem dX5_readNumber_18 : decode cX5_readNumber 18 = .ok (.aload_n 0, 1) := by decide +kernel
theorem dX5_readNumber_19 : decode cX5_readNumber 19 = .ok (.iconst 0, 1) := by decide +kernel
theorem dX5_readNumber_20 : decode cX5_readNumber 20 = .ok (.iload_n 1, 1) := by decide +kernel
theorem dX5_readNumber_21 : decode cX5_readNumber 21 = .ok (.bipush 10, 2) := by decide +kernel
theorem dX5_readNumber_23 : decode cX5_readNumber 23 = .ok (.iload_n 2, 1) := by decide +kernel
theorem dX5_readNumber_24 : decode cX5_readNumber 24 = .ok (.imul, 1) := by decide +kernel
theorem dX5_readNumber_25 : decode cX5_readNumber 25 = .ok (.isub, 1) := by decide +kernel
theorem dX5_readNumber_26 : decode cX5_readNumber 26 = .ok (.bipush 9, 2) := by decide +kernel
theorem dX5_readNumber_28 : decode cX5_readNumber 28 = .ok (.invokestatic 90, 3) := by decide +kernel
theorem dX5_readNumber_31 : decode cX5_readNumber 31 = .ok (.invokevirtual 48, 3) := by decide +kernel
theorem dX5_readNumber_34 : decode cX5_readNumber 34 = .ok (.istore_n 3, 1) := by decide +kernel
theorem dX5_readNumber_35 : decode cX5_readNumber 35 = .ok (.iload_n 3, 1) := by decide +kernel
theorem dX5_readNumber_36 : decode cX5_readNumber 36 = .ok (.iconst (-1), 1) := by decide +kernel
theorem dX5_readNumber_37 : decode cX5_readNumber 37 = .ok (.if_icmp .ne 7, 3) := by decide +kernel
theorem dX5_readNumber_40 : decode cX5_readNumber 40 = .ok (.iload_n 2, 1) := by decide +kernel
theorem dX5_readNumber_41 : decode cX5_readNumber 41 = .ok (.goto 9, 3) := by decide +kernel
theorem dX5_readNumber_44 : decode cX5_readNumber 44 = .ok (.bipush 10, 2) := by decide +kernel
theorem dX5_readNumber_46 : decode cX5_readNumber 46 = .ok (.iload_n 2, 1) := by decide +kernel
theorem dX5_readNumber_47 : decode cX5_readNumber 47 = .ok (.imul, 1) := by decide +kernel
theorem dX5_readNumber_48 : decode cX5_readNumber 48 = .ok (.iload_n 3, 1) := by decide +kernel
theorem dX5_readNumber_49 : decode cX5_readNumber 49 = .ok (.iadd, 1) := by decide +kernel
theorem dX5_readNumber_50 : decode cX5_readNumber 50 = .ok (.ireturn, 1) := by decide +kernel
theorem dX5_readDigit_0 : decode cX5_readDigit 0 = .ok (.aload_n 0, 1) := by decide +kernel
theorem dX5_readDigit_1 : decode cX5_readDigit 1 = .ok (.invokevirtual 71, 3) := by decide +kernel
theorem dX5_readDigit_4 : decode cX5_readDigit 4 = .ok (.bipush 48, 2) := by decide +kernel
theorem dX5_readDigit_6 : decode cX5_readDigit 6 = .ok (.isub, 1) := by decide +kernel
theorem dX5_readDigit_7 : decode cX5_readDigit 7 = .ok (.istore_n 3, 1) := by decide +kernel
theorem dX5_readDigit_8 : decode cX5_readDigit 8 = .ok (.iload_n 3, 1) := by decide +kernel
theorem dX5_readDigit_9 : decode cX5_readDigit 9 = .ok (.iload_n 1, 1) := by decide +kernel
theorem dX5_readDigit_10 : decode cX5_readDigit 10 = .ok (.if_icmp .lt 8, 3) := by decide +kernel
theorem dX5_readDigit_13 : decode cX5_readDigit 13 = .ok (.iload_n 3, 1) := by decide +kernel
theorem dX5_readDigit_14 : decode cX5_readDigit 14 = .ok (.iload_n 2, 1) := by decide +kernel
theorem dX5_readDigit_15 : decode cX5_readDigit 15 = .ok (.if_icmp .le 5, 3) := by decide +kernel
theorem dX5_readDigit_18 : decode cX5_readDigit 18 = .ok (.iconst (-1), 1) := by decide +kernel
theorem dX5_readDigit_19 : decode cX5_readDigit 19 = .ok (.ireturn, 1) := by decide +kernel
theorem dX5_readDigit_20 : decode cX5_readDigit 20 = .ok (.aload_n 0, 1) := by decide +kernel
theorem dX5_readDigit_21 : decode cX5_readDigit 21 = .ok (.dup, 1) := by decide +kernel
theorem dX5_readDigit_22 : decode cX5_readDigit 22 = .ok (.getfield 20, 3) := by decide +kernel
theorem dX5_readDigit_25 : decode cX5_readDigit 25 = .ok (.iconst 1, 1) := by decide +kernel
theorem dX5_readDigit_26 : decode cX5_readDigit 26 = .ok (.iadd, 1) := by decide +kernel
theorem dX5_readDigit_27 : decode cX5_readDigit 27 = .ok (.putfield 20, 3) := by decide +kernel
theorem dX5_readDigit_30 : decode cX5_readDigit 30 = .ok (.iload_n 3, 1) := by decide +kernel
theorem dX5_readDigit_31 : decode cX5_readDigit 31 = .ok (.ireturn, 1) := by decide +kernel
theorem dX5_reads_0 : decode cX5_reads 0 = .ok (.aload_n 0, 1) := by decide +kernel
theorem dX5_reads_1 : decode cX5_reads 1 = .ok (.invokevirtual 71, 3) := by decide +kernel
theorem dX5_reads_4 : decode cX5_reads 4 = .ok (.iload_n 1, 1) := by decide +kernel
theorem dX5_reads_5 : decode cX5_reads 5 = .ok (.if_icmp .eq 5, 3) := by decide +kernel
theorem dX5_reads_8 : decode cX5_reads 8 = .ok (.iconst 0, 1) := by decide +kernel
theorem dX5_reads_9 : decode cX5_reads 9 = .ok (.ireturn, 1) := by decide +kernel
theorem dX5_reads_10 : decode cX5_reads 10 = .ok (.aload_n 0, 1) := by decide +kernel
theorem dX5_reads_11 : decode cX5_reads 11 = .ok (.dup, 1) := by decide +kernel
theorem dX5_reads_12 : decode cX5_reads 12 = .ok (.getfield 20, 3) := by decide +kernel
theorem dX5_reads_15 : decode cX5_reads 15 = .ok (.iconst 1, 1) := by decide +kernel
theorem dX5_reads_16 : decode cX5_reads 16 = .ok (.iadd, 1) := by decide +kernel
theorem dX5_reads_17 : decode cX5_reads 17 = .ok (.putfield 20, 3) := by decide +kernel
theorem dX5_reads_20 : decode cX5_reads 20 = .ok (.iconst 1, 1) := by decide +kernel
theorem dX5_reads_21 : decode cX5_reads 21 = .ok (.ireturn, 1) := by decide +kernel
theorem dX5_suitOfSign_0 : decode cX5_suitOfSign 0 = .ok (.aload_n 0, 1) := by decide +kernel
theorem dX5_suitOfSign_1 : decode cX5_suitOfSign 1 = .ok (.invokevirtual 71, 3) := by decide +kernel
theorem dX5_suitOfSign_4 : decode cX5_suitOfSign 4 = .ok (.lookupswitch 52 #[(99, 44), (100, 46), (104, 48), (115, 50)], 44) := by decide +kernel
theorem dX5_suitOfSign_48 : decode cX5_suitOfSign 48 = .ok (.iconst 0, 1) := by decide +kernel
theorem dX5_suitOfSign_49 : decode cX5_suitOfSign 49 = .ok (.ireturn, 1) := by decide +kernel
theorem dX5_suitOfSign_50 : decode cX5_suitOfSign 50 = .ok (.iconst 1, 1) := by decide +kernel
theorem dX5_suitOfSign_51 : decode cX5_suitOfSign 51 = .ok (.ireturn, 1) := by decide +kernel
theorem dX5_suitOfSign_52 : decode cX5_suitOfSign 52 = .ok (.iconst 2, 1) := by decide +kernel
theorem dX5_suitOfSign_53 : decode cX5_suitOfSign 53 = .ok (.ireturn, 1) := by decide +kernel
theorem dX5_suitOfSign_54 : decode cX5_suitOfSign 54 = .ok (.iconst 3, 1) := by decide +kernel
theorem dX5_suitOfSign_55 : decode cX5_suitOfSign 55 = .ok (.ireturn, 1) := by decide +kernel
theorem dX5_suitOfSign_56 : decode cX5_suitOfSign 56 = .ok (.iconst (-1), 1) := by decide +kernel
theorem dX5_suitOfSign_57 : decode cX5_suitOfSign 57 = .ok (.ireturn, 1) := by decide +kernel
theorem dX5_sign_0 : decode cX5_sign 0 = .ok (.aload_n 0, 1) := by decide +kernel
theorem dX5_sign_1 : decode cX5_sign 1 = .ok (.getfield 20, 3) := by decide +kernel
theorem dX5_sign_4 : decode cX5_sign 4 = .ok (.ifCond .lt 17, 3) := by decide +kernel
theorem dX5_sign_7 : decode cX5_sign 7 = .ok (.aload_n 0, 1) := by decide +kernel
theorem dX5_sign_8 : decode cX5_sign 8 = .ok (.getfield 20, 3) := by decide +kernel
theorem dX5_sign_11 : decode cX5_sign 11 = .ok (.aload_n 0, 1) := by decide +kernel
theorem dX5_sign_12 : decode cX5_sign 12 = .ok (.getfield 27, 3) := by decide +kernel
theorem dX5_sign_15 : decode cX5_sign 15 = .ok (.invokevirtual 35, 3) := by decide +kernel
theorem dX5_sign_18 : decode cX5_sign 18 = .ok (.if_icmp .lt 5, 3) := by decide +kernel
theorem dX5_sign_21 : decode cX5_sign 21 = .ok (.iconst (-1), 1) := by decide +kernel
theorem dX5_sign_22 : decode cX5_sign 22 = .ok (.ireturn, 1) := by decide +kernel
theorem dX5_sign_23 : decode cX5_sign 23 = .ok (.aload_n 0, 1) := by decide +kernel
theorem dX5_sign_24 : decode cX5_sign 24 = .ok (.getfield 27, 3) := by decide +kernel
theorem dX5_sign_27 : decode cX5_sign 27 = .ok (.aload_n 0, 1) := by decide +kernel
theorem dX5_sign_28 : decode cX5_sign 28 = .ok (.getfield 20, 3) := by decide +kernel
theorem dX5_sign_31 : decode cX5_sign 31 = .ok (.invokevirtual 95, 3) := by decide +kernel
theorem dX5_sign_34 : decode cX5_sign 34 = .ok (.ireturn, 1) := by decide +kernel
theorem dX6_init_0 : decode cX6_init 0 = .ok (.aload_n 0, 1) := by decide +kernel
theorem dX6_init_1 : decode cX6_init 1 = .ok (.invokespecial 3, 3) := by decide +kernel
theorem dX6_init_4 : decode cX6_init 4 = .ok (.aload_n 0, 1) := by decide +kernel
theorem dX6_init_5 : decode cX6_init 5 = .ok (.new 9, 3) := by decide +kernel
theorem dX6_init_8 : decode cX6_init 8 = .ok (.dup, 1) := by decide +kernel
theorem dX6_init_9 : decode cX6_init 9 = .ok (.invokespecial 11, 3) := by decide +kernel
theorem dX6_init_12 : decode cX6_init 12 = .ok (.putfield 12, 3) := by decide +kernel
theorem dX6_init_15 : decode cX6_init 15 = .ok (.aload_n 0, 1) := by decide +kernel
theorem dX6_init_16 : decode cX6_init 16 = .ok (.new 16, 3) := by decide +kernel
theorem dX6_init_19 : decode cX6_init 19 = .ok (.dup, 1) := by decide +kernel
theorem dX6_init_20 : decode cX6_init 20 = .ok (.invokespecial 18, 3) := by decide +kernel
theorem dX6_init_23 : decode cX6_init 23 = .ok (.putfield 19, 3) := by decide +kernel
theorem dX6_init_26 : decode cX6_init 26 = .ok (.aload_n 0, 1) := by decide +kernel
theorem dX6_init_27 : decode cX6_init 27 = .ok (.new 23, 3) := by decide +kernel
theorem dX6_init_30 : decode cX6_init 30 = .ok (.dup, 1) := by decide +kernel
theorem dX6_init_31 : decode cX6_init 31 = .ok (.invokespecial 25, 3) := by decide +kernel
theorem dX6_init_34 : decode cX6_init 34 = .ok (.putfield 26, 3) := by decide +kernel
theorem dX6_init_37 : decode cX6_init 37 = .ok (.aload_n 0, 1) := by decide +kernel
theorem dX6_init_38 : decode cX6_init 38 = .ok (.bipush 31, 2) := by decide +kernel
theorem dX6_init_40 : decode cX6_init 40 = .ok (.putfield 30, 3) := by decide +kernel
theorem dX6_init_43 : decode cX6_init 43 = .ok (.aload_n 0, 1) := by decide +kernel
theorem dX6_init_44 : decode cX6_init 44 = .ok (.sipush 992, 3) := by decide +kernel
theorem dX6_init_47 : decode cX6_init 47 = .ok (.putfield 34, 3) := by decide +kernel
theorem dX6_init_50 : decode cX6_init 50 = .ok (.return_, 1) := by decide +kernel
theorem dX6_rule_0 : decode cX6_rule 0 = .ok (.iload_n 1, 1) := by decide +kernel
theorem dX6_rule_1 : decode cX6_rule 1 = .ok (.invokestatic 37, 3) := by decide +kernel
theorem dX6_rule_4 : decode cX6_rule 4 = .ok (.ifCond .eq 25, 3) := by decide +kernel
theorem dX6_rule_7 : decode cX6_rule 7 = .ok (.iload_n 2, 1) := by decide +kernel
theorem dX6_rule_8 : decode cX6_rule 8 = .ok (.invokestatic 41, 3) := by decide +kernel
theorem dX6_rule_11 : decode cX6_rule 11 = .ok (.ifCond .eq 18, 3) := by decide +kernel
theorem dX6_rule_14 : decode cX6_rule 14 = .ok (.iload_n 3, 1) := by decide +kernel
theorem dX6_rule_15 : decode cX6_rule 15 = .ok (.invokestatic 37, 3) := by decide +kernel
theorem dX6_rule_18 : decode cX6_rule 18 = .ok (.ifCond .eq 11, 3) := by decide +kernel
theorem dX6_rule_21 : decode cX6_rule 21 = .ok (.iload 4, 2) := by decide +kernel
theorem dX6_rule_23 : decode cX6_rule 23 = .ok (.invokestatic 44, 3) := by decide +kernel
theorem dX6_rule_26 : decode cX6_rule 26 = .ok (.ifCond .ne 6, 3) := by decide +kernel
theorem dX6_rule_29 : decode cX6_rule 29 = .ok (.bipush (-2), 2) := by decide +kernel
theorem dX6_rule_31 : decode cX6_rule 31 = .ok (.ireturn, 1) := by decide +kernel
theorem dX6_rule_32 : decode cX6_rule 32 = .ok (.aload_n 0, 1) := by decide +kernel
theorem dX6_rule_33 : decode cX6_rule 33 = .ok (.new 47, 3) := by decide +kernel
theorem dX6_rule_36 : decode cX6_rule 36 = .ok (.dup, 1) := by decide +kernel
theorem dX6_rule_37 : decode cX6_rule 37 = .ok (.iload_n 1, 1) := by decide +kernel
theorem dX6_rule_38 : decode cX6_rule 38 = .ok (.iload_n 2, 1) := by decide +kernel
theorem dX6_rule_39 : decode cX6_rule 39 = .ok (.iload_n 3, 1) := by decide +kernel
theorem dX6_rule_40 : decode cX6_rule 40 = .ok (.iload 4, 2) := by decide +kernel
theorem dX6_rule_42 : decode cX6_rule 42 = .ok (.invokespecial 49, 3) := by decide +kernel
theorem dX6_rule_45 : decode cX6_rule 45 = .ok (.invokevirtual 52, 3) := by decide +kernel
theorem dX6_rule_48 : decode cX6_rule 48 = .ok (.ireturn, 1) := by decide +kernel
theorem dX6_limit_0 : decode cX6_limit 0 = .ok (.aload_n 0, 1) := by decide +kernel
theorem dX6_limit_1 : decode cX6_limit 1 = .ok (.iload_n 1, 1) := by decide +kernel
theorem dX6_limit_2 : decode cX6_limit 2 = .ok (.invokevirtual 56, 3) := by decide +kernel
theorem dX6_limit_5 : decode cX6_limit 5 = .ok (.ifCond .ne 5, 3) := by decide +kernel
theorem dX6_limit_8 : decode cX6_limit 8 = .ok (.iconst (-1), 1) := by decide +kernel
theorem dX6_limit_9 : decode cX6_limit 9 = .ok (.ireturn, 1) := by decide +kernel
theorem dX6_limit_10 : decode cX6_limit 10 = .ok (.iload_n 2, 1) := by decide +kernel
theorem dX6_limit_11 : decode cX6_limit 11 = .ok (.ifCond .lt 8, 3) := by decide +kernel
theorem dX6_limit_14 : decode cX6_limit 14 = .ok (.iload_n 2, 1) := by decide +kernel
theorem dX6_limit_15 : decode cX6_limit 15 = .ok (.iconst 5, 1) := by decide +kernel
theorem dX6_limit_16 : decode cX6_limit 16 = .ok (.if_icmp .lt 6, 3) := by decide +kernel
theorem dX6_limit_19 : decode cX6_limit 19 = .ok (.bipush (-2), 2) := by decide +kernel
theorem dX6_limit_21 : decode cX6_limit 21 = .ok (.ireturn, 1) := by decide +kernel
theorem dX6_limit_22 : decode cX6_limit 22 = .ok (.iload_n 3, 1) := by decide +kernel
theorem dX6_limit_23 : decode cX6_limit 23 = .ok (.ifCond .lt 18, 3) := by decide +kernel
theorem dX6_limit_26 : decode cX6_limit 26 = .ok (.iload 4, 2) := by decide +kernel
theorem dX6_limit_28 : decode cX6_limit 28 = .ok (.iload_n 3, 1) := by decide +kernel
theorem dX6_limit_29 : decode cX6_limit 29 = .ok (.if_icmp .lt 12, 3) := by decide +kernel
theorem dX6_limit_32 : decode cX6_limit 32 = .ok (.iload 4, 2) := by decide +kernel
theorem dX6_limit_34 : decode cX6_limit 34 = .ok (.iload_n 2, 1) := by decide +kernel
theorem dX6_limit_35 : decode cX6_limit 35 = .ok (.invokestatic 59, 3) := by decide +kernel
theorem dX6_limit_38 : decode cX6_limit 38 = .ok (.if_icmp .le 6, 3) := by decide +kernel
theorem dX6_limit_41 : decode cX6_limit 41 = .ok (.bipush (-2), 2) := by decide +kernel
theorem dX6_limit_43 : decode cX6_limit 43 = .ok (.ireturn, 1) := by decide +kernel
theorem dX6_limit_44 : decode cX6_limit 44 = .ok (.aload_n 0, 1) := by decide +kernel
theorem dX6_limit_45 : decode cX6_limit 45 = .ok (.getfield 12, 3) := by decide +kernel
theorem dX6_limit_48 : decode cX6_limit 48 = .ok (.iload_n 1, 1) := by decide +kernel
theorem dX6_limit_49 : decode cX6_limit 49 = .ok (.invokevirtual 65, 3) := by decide +kernel
theorem dX6_limit_52 : decode cX6_limit 52 = .ok (.checkcast 47, 3) := by decide +kernel
theorem dX6_limit_55 : decode cX6_limit 55 = .ok (.astore 5, 2) := by decide +kernel
theorem dX6_limit_57 : decode cX6_limit 57 = .ok (.aload 5, 2) := by decide +kernel
theorem dX6_limit_59 : decode cX6_limit 59 = .ok (.iload_n 2, 1) := by decide +kernel
theorem dX6_limit_60 : decode cX6_limit 60 = .ok (.iload_n 3, 1) := by decide +kernel
theorem dX6_limit_61 : decode cX6_limit 61 = .ok (.iload 4, 2) := by decide +kernel
theorem dX6_limit_63 : decode cX6_limit 63 = .ok (.invokevirtual 69, 3) := by decide +kernel
theorem dX6_limit_66 : decode cX6_limit 66 = .ok (.aload_n 0, 1) := by decide +kernel
theorem dX6_limit_67 : decode cX6_limit 67 = .ok (.getfield 19, 3) := by decide +kernel
theorem dX6_limit_70 : decode cX6_limit 70 = .ok (.invokevirtual 73, 3) := by decide +kernel
theorem dX6_limit_73 : decode cX6_limit 73 = .ok (.aload_n 0, 1) := by decide +kernel
theorem dX6_limit_74 : decode cX6_limit 74 = .ok (.aload 5, 2) := by decide +kernel
theorem dX6_limit_76 : decode cX6_limit 76 = .ok (.invokevirtual 76, 3) := by decide +kernel
theorem dX6_limit_79 : decode cX6_limit 79 = .ok (.ireturn, 1) := by decide +kernel
theorem dX6_remove_0 : decode cX6_remove 0 = .ok (.aload_n 0, 1) := by decide +kernel
theorem dX6_remove_1 : decode cX6_remove 1 = .ok (.iload_n 1, 1) := by decide +kernel
theorem dX6_remove_2 : decode cX6_remove 2 = .ok (.invokevirtual 56, 3) := by decide +kernel
theorem dX6_remove_5 : decode cX6_remove 5 = .ok (.ifCond .ne 5, 3) := by decide +kernel
theorem dX6_remove_8 : decode cX6_remove 8 = .ok (.iconst (-1), 1) := by decide +kernel
theorem dX6_remove_9 : decode cX6_remove 9 = .ok (.ireturn, 1) := by decide +kernel
theorem dX6_remove_10 : decode cX6_remove 10 = .ok (.aload_n 0, 1) := by decide +kernel
theorem dX6_remove_11 : decode cX6_remove 11 = .ok (.getfield 12, 3) := by decide +kernel
theorem dX6_remove_14 : decode cX6_remove 14 = .ok (.iload_n 1, 1) := by decide +kernel
theorem dX6_remove_15 : decode cX6_remove 15 = .ok (.invokevirtual 79, 3) := by decide +kernel
theorem dX6_remove_18 : decode cX6_remove 18 = .ok (.pop, 1) := by decide +kernel
theorem dX6_remove_19 : decode cX6_remove 19 = .ok (.aload_n 0, 1) := by decide +kernel
theorem dX6_remove_20 : decode cX6_remove 20 = .ok (.getfield 19, 3) := by decide +kernel
theorem dX6_remove_23 : decode cX6_remove 23 = .ok (.invokevirtual 73, 3) := by decide +kernel
theorem dX6_remove_26 : decode cX6_remove 26 = .ok (.aload_n 0, 1) := by decide +kernel
theorem dX6_remove_27 : decode cX6_remove 27 = .ok (.getfield 12, 3) := by decide +kernel
theorem dX6_remove_30 : decode cX6_remove 30 = .ok (.invokevirtual 82, 3) := by decide +kernel
theorem dX6_remove_33 : decode cX6_remove 33 = .ok (.ireturn, 1) := by decide +kernel
theorem dX6_move_0 : decode cX6_move 0 = .ok (.aload_n 0, 1) := by decide +kernel
theorem dX6_move_1 : decode cX6_move 1 = .ok (.iload_n 1, 1) := by decide +kernel
theorem dX6_move_2 : decode cX6_move 2 = .ok (.invokevirtual 56, 3) := by decide +kernel
theorem dX6_move_5 : decode cX6_move 5 = .ok (.ifCond .eq 11, 3) := by decide +kernel
theorem dX6_move_8 : decode cX6_move 8 = .ok (.aload_n 0, 1) := by decide +kernel
theorem dX6_move_9 : decode cX6_move 9 = .ok (.iload_n 2, 1) := by decide +kernel
theorem dX6_move_10 : decode cX6_move 10 = .ok (.invokevirtual 56, 3) := by decide +kernel
theorem dX6_move_13 : decode cX6_move 13 = .ok (.ifCond .ne 5, 3) := by decide +kernel
theorem dX6_move_16 : decode cX6_move 16 = .ok (.iconst (-1), 1) := by decide +kernel
theorem dX6_move_17 : decode cX6_move 17 = .ok (.ireturn, 1) := by decide +kernel
theorem dX6_move_18 : decode cX6_move 18 = .ok (.aload_n 0, 1) := by decide +kernel
theorem dX6_move_19 : decode cX6_move 19 = .ok (.getfield 12, 3) := by decide +kernel
theorem dX6_move_22 : decode cX6_move 22 = .ok (.iload_n 1, 1) := by decide +kernel
theorem dX6_move_23 : decode cX6_move 23 = .ok (.invokevirtual 65, 3) := by decide +kernel
theorem dX6_move_26 : decode cX6_move 26 = .ok (.checkcast 47, 3) := by decide +kernel
theorem dX6_move_29 : decode cX6_move 29 = .ok (.astore_n 3, 1) := by decide +kernel
theorem dX6_move_30 : decode cX6_move 30 = .ok (.aload_n 0, 1) := by decide +kernel
theorem dX6_move_31 : decode cX6_move 31 = .ok (.getfield 12, 3) := by decide +kernel
theorem dX6_move_34 : decode cX6_move 34 = .ok (.iload_n 1, 1) := by decide +kernel
theorem dX6_move_35 : decode cX6_move 35 = .ok (.invokevirtual 79, 3) := by decide +kernel
theorem dX6_move_38 : decode cX6_move 38 = .ok (.pop, 1) := by decide +kernel
theorem dX6_move_39 : decode cX6_move 39 = .ok (.aload_n 0, 1) := by decide +kernel
theorem dX6_move_40 : decode cX6_move 40 = .ok (.getfield 12, 3) := by decide +kernel
theorem dX6_move_43 : decode cX6_move 43 = .ok (.iload_n 2, 1) := by decide +kernel
theorem dX6_move_44 : decode cX6_move 44 = .ok (.aload_n 3, 1) := by decide +kernel
theorem dX6_move_45 : decode cX6_move 45 = .ok (.invokevirtual 86, 3) := by decide +kernel
theorem dX6_move_48 : decode cX6_move 48 = .ok (.aload_n 0, 1) := by decide +kernel
theorem dX6_move_49 : decode cX6_move 49 = .ok (.getfield 19, 3) := by decide +kernel
theorem dX6_move_52 : decode cX6_move 52 = .ok (.invokevirtual 73, 3) := by decide +kernel
theorem dX6_move_55 : decode cX6_move 55 = .ok (.aload_n 3, 1) := by decide +kernel
theorem dX6_move_56 : decode cX6_move 56 = .ok (.getfield 90, 3) := by decide +kernel
theorem dX6_move_59 : decode cX6_move 59 = .ok (.ireturn, 1) := by decide +kernel
theorem dX6_part_0 : decode cX6_part 0 = .ok (.aload_n 0, 1) := by decide +kernel
theorem dX6_part_1 : decode cX6_part 1 = .ok (.iload_n 1, 1) := by decide +kernel
theorem dX6_part_2 : decode cX6_part 2 = .ok (.invokevirtual 56, 3) := by decide +kernel
theorem dX6_part_5 : decode cX6_part 5 = .ok (.ifCond .ne 5, 3) := by decide +kernel
theorem dX6_part_8 : decode cX6_part 8 = .ok (.iconst (-1), 1) := by decide +kernel
theorem dX6_part_9 : decode cX6_part 9 = .ok (.ireturn, 1) := by decide +kernel
theorem dX6_part_10 : decode cX6_part 10 = .ok (.iload_n 2, 1) := by decide +kernel
theorem dX6_part_11 : decode cX6_part 11 = .ok (.ifCond .lt 9, 3) := by decide +kernel
theorem dX6_part_14 : decode cX6_part 14 = .ok (.iload_n 2, 1) := by decide +kernel
theorem dX6_part_15 : decode cX6_part 15 = .ok (.bipush 14, 2) := by decide +kernel
theorem dX6_part_17 : decode cX6_part 17 = .ok (.if_icmp .lt 6, 3) := by decide +kernel
theorem dX6_part_20 : decode cX6_part 20 = .ok (.bipush (-2), 2) := by decide +kernel
theorem dX6_part_22 : decode cX6_part 22 = .ok (.ireturn, 1) := by decide +kernel
theorem dX6_part_23 : decode cX6_part 23 = .ok (.aload_n 0, 1) := by decide +kernel
theorem dX6_part_24 : decode cX6_part 24 = .ok (.getfield 12, 3) := by decide +kernel
theorem dX6_part_27 : decode cX6_part 27 = .ok (.iload_n 1, 1) := by decide +kernel
theorem dX6_part_28 : decode cX6_part 28 = .ok (.invokevirtual 65, 3) := by decide +kernel
theorem dX6_part_31 : decode cX6_part 31 = .ok (.checkcast 47, 3) := by decide +kernel
theorem dX6_part_34 : decode cX6_part 34 = .ok (.iload_n 2, 1) := by decide +kernel
theorem dX6_part_35 : decode cX6_part 35 = .ok (.invokevirtual 93, 3) := by decide +kernel
theorem dX6_part_38 : decode cX6_part 38 = .ok (.ireturn, 1) := by decide +kernel
theorem dX6_give_0 : decode cX6_give 0 = .ok (.iload_n 1, 1) := by decide +kernel
theorem dX6_give_1 : decode cX6_give 1 = .ok (.invokestatic 96, 3) := by decide +kernel
theorem dX6_give_4 : decode cX6_give 4 = .ok (.ifCond .ne 5, 3) := by decide +kernel
theorem dX6_give_7 : decode cX6_give 7 = .ok (.iconst (-1), 1) := by decide +kernel
theorem dX6_give_8 : decode cX6_give 8 = .ok (.ireturn, 1) := by decide +kernel
theorem dX6_give_9 : decode cX6_give 9 = .ok (.iload_n 2, 1) := by decide +kernel
theorem dX6_give_10 : decode cX6_give 10 = .ok (.invokestatic 99, 3) := by decide +kernel
theorem dX6_give_13 : decode cX6_give 13 = .ok (.ifCond .ne 6, 3) := by decide +kernel
theorem dX6_give_16 : decode cX6_give 16 = .ok (.bipush (-2), 2) := by decide +kernel
theorem dX6_give_18 : decode cX6_give 18 = .ok (.ireturn, 1) := by decide +kernel
theorem dX6_give_19 : decode cX6_give 19 = .ok (.iload_n 2, 1) := by decide +kernel
theorem dX6_give_20 : decode cX6_give 20 = .ok (.aload_n 0, 1) := by decide +kernel
theorem dX6_give_21 : decode cX6_give 21 = .ok (.iconst 1, 1) := by decide +kernel
theorem dX6_give_22 : decode cX6_give 22 = .ok (.iload_n 1, 1) := by decide +kernel
theorem dX6_give_23 : decode cX6_give 23 = .ok (.isub, 1) := by decide +kernel
theorem dX6_give_24 : decode cX6_give 24 = .ok (.invokevirtual 102, 3) := by decide +kernel
theorem dX6_give_27 : decode cX6_give 27 = .ok (.iand, 1) := by decide +kernel
theorem dX6_give_28 : decode cX6_give 28 = .ok (.ifCond .eq 6, 3) := by decide +kernel
theorem dX6_give_31 : decode cX6_give 31 = .ok (.bipush (-5), 2) := by decide +kernel
theorem dX6_give_33 : decode cX6_give 33 = .ok (.ireturn, 1) := by decide +kernel
theorem dX6_give_34 : decode cX6_give 34 = .ok (.aload_n 0, 1) := by decide +kernel
theorem dX6_give_35 : decode cX6_give 35 = .ok (.iload_n 1, 1) := by decide +kernel
theorem dX6_give_36 : decode cX6_give 36 = .ok (.invokevirtual 102, 3) := by decide +kernel
theorem dX6_give_39 : decode cX6_give 39 = .ok (.istore_n 3, 1) := by decide +kernel
theorem dX6_give_40 : decode cX6_give 40 = .ok (.iload_n 1, 1) := by decide +kernel
theorem dX6_give_41 : decode cX6_give 41 = .ok (.ifCond .ne 11, 3) := by decide +kernel
theorem dX6_give_44 : decode cX6_give 44 = .ok (.aload_n 0, 1) := by decide +kernel
theorem dX6_give_45 : decode cX6_give 45 = .ok (.iload_n 2, 1) := by decide +kernel
theorem dX6_give_46 : decode cX6_give 46 = .ok (.putfield 30, 3) := by decide +kernel
theorem dX6_give_49 : decode cX6_give 49 = .ok (.goto 8, 3) := by decide +kernel
theorem dX6_give_52 : decode cX6_give 52 = .ok (.aload_n 0, 1) := by decide +kernel
theorem dX6_give_53 : decode cX6_give 53 = .ok (.iload_n 2, 1) := by decide +kernel
theorem dX6_give_54 : decode cX6_give 54 = .ok (.putfield 34, 3) := by decide +kernel
theorem dX6_give_57 : decode cX6_give 57 = .ok (.aload_n 0, 1) := by decide +kernel
theorem dX6_give_58 : decode cX6_give 58 = .ok (.getfield 19, 3) := by decide +kernel
theorem dX6_give_61 : decode cX6_give 61 = .ok (.invokevirtual 73, 3) := by decide +kernel
theorem dX6_give_64 : decode cX6_give 64 = .ok (.iload_n 3, 1) := by decide +kernel
theorem dX6_give_65 : decode cX6_give 65 = .ok (.ireturn, 1) := by decide +kernel
theorem dX6_draw_0 : decode cX6_draw 0 = .ok (.iload_n 1, 1) := by decide +kernel
theorem dX6_draw_1 : decode cX6_draw 1 = .ok (.ifCond .lt 9, 3) := by decide +kernel
theorem dX6_draw_4 : decode cX6_draw 4 = .ok (.iload_n 1, 1) := by decide +kernel
theorem dX6_draw_5 : decode cX6_draw 5 = .ok (.ldc 105, 2) := by decide +kernel
theorem dX6_draw_7 : decode cX6_draw 7 = .ok (.if_icmp .le 6, 3) := by decide +kernel
theorem dX6_draw_10 : decode cX6_draw 10 = .ok (.bipush (-2), 2) := by decide +kernel
theorem dX6_draw_12 : decode cX6_draw 12 = .ok (.ireturn, 1) := by decide +kernel
theorem dX6_draw_13 : decode cX6_draw 13 = .ok (.iload_n 1, 1) := by decide +kernel
theorem dX6_draw_14 : decode cX6_draw 14 = .ok (.istore_n 2, 1) := by decide +kernel
theorem dX6_draw_15 : decode cX6_draw 15 = .ok (.ldc 106, 2) := by decide +kernel
theorem dX6_draw_17 : decode cX6_draw 17 = .ok (.istore_n 3, 1) := by decide +kernel
theorem dX6_draw_18 : decode cX6_draw 18 = .ok (.iconst 0, 1) := by decide +kernel
theorem dX6_draw_19 : decode cX6_draw 19 = .ok (.istore 4, 2) := by decide +kernel
theorem dX6_draw_21 : decode cX6_draw 21 = .ok (.iconst 0, 1) := by decide +kernel
theorem dX6_draw_22 : decode cX6_draw 22 = .ok (.istore 5, 2) := by decide +kernel
theorem dX6_draw_24 : decode cX6_draw 24 = .ok (.iload 5, 2) := by decide +kernel
theorem dX6_draw_26 : decode cX6_draw 26 = .ok (.bipush 10, 2) := by decide +kernel
theorem dX6_draw_28 : decode cX6_draw 28 = .ok (.if_icmp .ge 48, 3) := by decide +kernel
theorem dX6_draw_31 : decode cX6_draw 31 = .ok (.iload_n 2, 1) := by decide +kernel
theorem dX6_draw_32 : decode cX6_draw 32 = .ok (.sipush 1103, 3) := by decide +kernel
theorem dX6_draw_35 : decode cX6_draw 35 = .ok (.imul, 1) := by decide +kernel
theorem dX6_draw_36 : decode cX6_draw 36 = .ok (.sipush 12345, 3) := by decide +kernel
theorem dX6_draw_39 : decode cX6_draw 39 = .ok (.iadd, 1) := by decide +kernel
theorem dX6_draw_40 : decode cX6_draw 40 = .ok (.ldc 107, 2) := by decide +kernel
theorem dX6_draw_42 : decode cX6_draw 42 = .ok (.irem, 1) := by decide +kernel
theorem dX6_draw_43 : decode cX6_draw 43 = .ok (.istore_n 2, 1) := by decide +kernel
theorem dX6_draw_44 : decode cX6_draw 44 = .ok (.iload_n 3, 1) := by decide +kernel
theorem dX6_draw_45 : decode cX6_draw 45 = .ok (.iload_n 3, 1) := by decide +kernel
theorem dX6_draw_46 : decode cX6_draw 46 = .ok (.iload_n 2, 1) := by decide +kernel
theorem dX6_draw_47 : decode cX6_draw 47 = .ok (.bipush 20, 2) := by decide +kernel
theorem dX6_draw_49 : decode cX6_draw 49 = .ok (.iload 5, 2) := by decide +kernel
theorem dX6_draw_51 : decode cX6_draw 51 = .ok (.isub, 1) := by decide +kernel
theorem dX6_draw_52 : decode cX6_draw 52 = .ok (.irem, 1) := by decide +kernel
theorem dX6_draw_53 : decode cX6_draw 53 = .ok (.invokestatic 108, 3) := by decide +kernel
theorem dX6_draw_56 : decode cX6_draw 56 = .ok (.isub, 1) := by decide +kernel
theorem dX6_draw_57 : decode cX6_draw 57 = .ok (.istore_n 3, 1) := by decide +kernel
theorem dX6_draw_58 : decode cX6_draw 58 = .ok (.iload 5, 2) := by decide +kernel
theorem dX6_draw_60 : decode cX6_draw 60 = .ok (.iconst 4, 1) := by decide +kernel
theorem dX6_draw_61 : decode cX6_draw 61 = .ok (.if_icmp .ne 9, 3) := by decide +kernel
theorem dX6_draw_64 : decode cX6_draw 64 = .ok (.ldc 106, 2) := by decide +kernel
theorem dX6_draw_66 : decode cX6_draw 66 = .ok (.iload_n 3, 1) := by decide +kernel
theorem dX6_draw_67 : decode cX6_draw 67 = .ok (.isub, 1) := by decide +kernel
theorem dX6_draw_68 : decode cX6_draw 68 = .ok (.istore 4, 2) := by decide +kernel
theorem dX6_draw_70 : decode cX6_draw 70 = .ok (.iinc 5 1, 3) := by decide +kernel
theorem dX6_draw_73 : decode cX6_draw 73 = .ok (.goto (-49), 3) := by decide +kernel
theorem dX6_draw_76 : decode cX6_draw 76 = .ok (.aload_n 0, 1) := by decide +kernel
theorem dX6_draw_77 : decode cX6_draw 77 = .ok (.iload 4, 2) := by decide +kernel
theorem dX6_draw_79 : decode cX6_draw 79 = .ok (.putfield 30, 3) := by decide +kernel
theorem dX6_draw_82 : decode cX6_draw 82 = .ok (.aload_n 0, 1) := by decide +kernel
theorem dX6_draw_83 : decode cX6_draw 83 = .ok (.ldc 106, 2) := by decide +kernel
theorem dX6_draw_85 : decode cX6_draw 85 = .ok (.iload_n 3, 1) := by decide +kernel
theorem dX6_draw_86 : decode cX6_draw 86 = .ok (.isub, 1) := by decide +kernel
theorem dX6_draw_87 : decode cX6_draw 87 = .ok (.iload 4, 2) := by decide +kernel
theorem dX6_draw_89 : decode cX6_draw 89 = .ok (.isub, 1) := by decide +kernel
theorem dX6_draw_90 : decode cX6_draw 90 = .ok (.putfield 34, 3) := by decide +kernel
theorem dX6_draw_93 : decode cX6_draw 93 = .ok (.aload_n 0, 1) := by decide +kernel
theorem dX6_draw_94 : decode cX6_draw 94 = .ok (.getfield 19, 3) := by decide +kernel
theorem dX6_draw_97 : decode cX6_draw 97 = .ok (.invokevirtual 73, 3) := by decide +kernel
theorem dX6_draw_100 : decode cX6_draw 100 = .ok (.iload 4, 2) := by decide +kernel
theorem dX6_draw_102 : decode cX6_draw 102 = .ok (.ireturn, 1) := by decide +kernel
theorem dX6_hand_0 : decode cX6_hand 0 = .ok (.iload_n 1, 1) := by decide +kernel
theorem dX6_hand_1 : decode cX6_hand 1 = .ok (.invokestatic 96, 3) := by decide +kernel
theorem dX6_hand_4 : decode cX6_hand 4 = .ok (.ifCond .ne 5, 3) := by decide +kernel
theorem dX6_hand_7 : decode cX6_hand 7 = .ok (.iconst (-1), 1) := by decide +kernel
theorem dX6_hand_8 : decode cX6_hand 8 = .ok (.ireturn, 1) := by decide +kernel
theorem dX6_hand_9 : decode cX6_hand 9 = .ok (.iload_n 2, 1) := by decide +kernel
theorem dX6_hand_10 : decode cX6_hand 10 = .ok (.ifCond .lt 8, 3) := by decide +kernel
theorem dX6_hand_13 : decode cX6_hand 13 = .ok (.iload_n 2, 1) := by decide +kernel
theorem dX6_hand_14 : decode cX6_hand 14 = .ok (.iconst 5, 1) := by decide +kernel
theorem dX6_hand_15 : decode cX6_hand 15 = .ok (.if_icmp .le 6, 3) := by decide +kernel
theorem dX6_hand_18 : decode cX6_hand 18 = .ok (.bipush (-2), 2) := by decide +kernel
theorem dX6_hand_20 : decode cX6_hand 20 = .ok (.ireturn, 1) := by decide +kernel
theorem dX6_hand_21 : decode cX6_hand 21 = .ok (.iload_n 2, 1) := by decide +kernel
theorem dX6_hand_22 : decode cX6_hand 22 = .ok (.ifCond .ne 11, 3) := by decide +kernel
theorem dX6_hand_25 : decode cX6_hand 25 = .ok (.aload_n 0, 1) := by decide +kernel
theorem dX6_hand_26 : decode cX6_hand 26 = .ok (.iload_n 1, 1) := by decide +kernel
theorem dX6_hand_27 : decode cX6_hand 27 = .ok (.invokevirtual 102, 3) := by decide +kernel
theorem dX6_hand_30 : decode cX6_hand 30 = .ok (.goto 14, 3) := by decide +kernel
theorem dX6_hand_33 : decode cX6_hand 33 = .ok (.aload_n 0, 1) := by decide +kernel
theorem dX6_hand_34 : decode cX6_hand 34 = .ok (.iload_n 1, 1) := by decide +kernel
theorem dX6_hand_35 : decode cX6_hand 35 = .ok (.invokevirtual 102, 3) := by decide +kernel
theorem dX6_hand_38 : decode cX6_hand 38 = .ok (.iload_n 2, 1) := by decide +kernel
theorem dX6_hand_39 : decode cX6_hand 39 = .ok (.iconst 1, 1) := by decide +kernel
theorem dX6_hand_40 : decode cX6_hand 40 = .ok (.isub, 1) := by decide +kernel
theorem dX6_hand_41 : decode cX6_hand 41 = .ok (.invokestatic 112, 3) := by decide +kernel
theorem dX6_hand_44 : decode cX6_hand 44 = .ok (.ireturn, 1) := by decide +kernel
theorem dX6_begin_0 : decode cX6_begin 0 = .ok (.aload_n 0, 1) := by decide +kernel
theorem dX6_begin_1 : decode cX6_begin 1 = .ok (.getfield 19, 3) := by decide +kernel
theorem dX6_begin_4 : decode cX6_begin 4 = .ok (.getfield 115, 3) := by decide +kernel
theorem dX6_begin_7 : decode cX6_begin 7 = .ok (.invokevirtual 82, 3) := by decide +kernel
theorem dX6_begin_10 : decode cX6_begin 10 = .ok (.istore_n 1, 1) := by decide +kernel
theorem dX6_begin_11 : decode cX6_begin 11 = .ok (.aload_n 0, 1) := by decide +kernel
theorem dX6_begin_12 : decode cX6_begin 12 = .ok (.getfield 19, 3) := by decide +kernel
theorem dX6_begin_15 : decode cX6_begin 15 = .ok (.invokevirtual 73, 3) := by decide +kernel
theorem dX6_begin_18 : decode cX6_begin 18 = .ok (.iload_n 1, 1) := by decide +kernel
theorem dX6_begin_19 : decode cX6_begin 19 = .ok (.ireturn, 1) := by decide +kernel
theorem dX6_call_0 : decode cX6_call 0 = .ok (.aload_n 0, 1) := by decide +kernel
theorem dX6_call_1 : decode cX6_call 1 = .ok (.getfield 19, 3) := by decide +kernel
theorem dX6_call_4 : decode cX6_call 4 = .ok (.invokevirtual 118, 3) := by decide +kernel
theorem dX6_call_7 : decode cX6_call 7 = .ok (.ifCond .eq 6, 3) := by decide +kernel
theorem dX6_call_10 : decode cX6_call 10 = .ok (.bipush (-5), 2) := by decide +kernel
theorem dX6_call_12 : decode cX6_call 12 = .ok (.ireturn, 1) := by decide +kernel
theorem dX6_call_13 : decode cX6_call 13 = .ok (.aload_n 0, 1) := by decide +kernel
theorem dX6_call_14 : decode cX6_call 14 = .ok (.aload_n 0, 1) := by decide +kernel
theorem dX6_call_15 : decode cX6_call 15 = .ok (.getfield 19, 3) := by decide +kernel
theorem dX6_call_18 : decode cX6_call 18 = .ok (.getfield 122, 3) := by decide +kernel
theorem dX6_call_21 : decode cX6_call 21 = .ok (.aload_n 0, 1) := by decide +kernel
theorem dX6_call_22 : decode cX6_call 22 = .ok (.aload_n 0, 1) := by decide +kernel
theorem dX6_call_23 : decode cX6_call 23 = .ok (.getfield 19, 3) := by decide +kernel
theorem dX6_call_26 : decode cX6_call 26 = .ok (.invokevirtual 126, 3) := by decide +kernel
theorem dX6_call_29 : decode cX6_call 29 = .ok (.invokevirtual 102, 3) := by decide +kernel
theorem dX6_call_32 : decode cX6_call 32 = .ok (.invokestatic 129, 3) := by decide +kernel
theorem dX6_call_35 : decode cX6_call 35 = .ok (.invokevirtual 132, 3) := by decide +kernel
theorem dX6_call_38 : decode cX6_call 38 = .ok (.istore_n 1, 1) := by decide +kernel
theorem dX6_call_39 : decode cX6_call 39 = .ok (.aload_n 0, 1) := by decide +kernel
theorem dX6_call_40 : decode cX6_call 40 = .ok (.iload_n 1, 1) := by decide +kernel
theorem dX6_call_41 : decode cX6_call 41 = .ok (.invokevirtual 56, 3) := by decide +kernel
theorem dX6_call_44 : decode cX6_call 44 = .ok (.ifCond .ne 14, 3) := by decide +kernel
theorem dX6_call_47 : decode cX6_call 47 = .ok (.aload_n 0, 1) := by decide +kernel
theorem dX6_call_48 : decode cX6_call 48 = .ok (.getfield 19, 3) := by decide +kernel
theorem dX6_call_51 : decode cX6_call 51 = .ok (.iconst 1, 1) := by decide +kernel
theorem dX6_call_52 : decode cX6_call 52 = .ok (.putfield 136, 3) := by decide +kernel
theorem dX6_call_55 : decode cX6_call 55 = .ok (.bipush (-6), 2) := by decide +kernel
theorem dX6_call_57 : decode cX6_call 57 = .ok (.ireturn, 1) := by decide +kernel
theorem dX6_call_58 : decode cX6_call 58 = .ok (.aload_n 0, 1) := by decide +kernel
theorem dX6_call_59 : decode cX6_call 59 = .ok (.getfield 12, 3) := by decide +kernel
theorem dX6_call_62 : decode cX6_call 62 = .ok (.iload_n 1, 1) := by decide +kernel
theorem dX6_call_63 : decode cX6_call 63 = .ok (.invokevirtual 65, 3) := by decide +kernel
theorem dX6_call_66 : decode cX6_call 66 = .ok (.checkcast 47, 3) := by decide +kernel
theorem dX6_call_69 : decode cX6_call 69 = .ok (.astore_n 2, 1) := by decide +kernel
theorem dX6_call_70 : decode cX6_call 70 = .ok (.aload_n 0, 1) := by decide +kernel
theorem dX6_call_71 : decode cX6_call 71 = .ok (.getfield 19, 3) := by decide +kernel
theorem dX6_call_74 : decode cX6_call 74 = .ok (.aload_n 2, 1) := by decide +kernel
theorem dX6_call_75 : decode cX6_call 75 = .ok (.iload_n 1, 1) := by decide +kernel
theorem dX6_call_76 : decode cX6_call 76 = .ok (.invokevirtual 140, 3) := by decide +kernel
theorem dX6_call_79 : decode cX6_call 79 = .ok (.aload_n 2, 1) := by decide +kernel
theorem dX6_call_80 : decode cX6_call 80 = .ok (.getfield 90, 3) := by decide +kernel
theorem dX6_call_83 : decode cX6_call 83 = .ok (.ireturn, 1) := by decide +kernel
theorem dX6_make_0 : decode cX6_make 0 = .ok (.iload_n 1, 1) := by decide +kernel
theorem dX6_make_1 : decode cX6_make 1 = .ok (.invokestatic 41, 3) := by decide +kernel
theorem dX6_make_4 : decode cX6_make 4 = .ok (.ifCond .ne 6, 3) := by decide +kernel
theorem dX6_make_7 : decode cX6_make 7 = .ok (.bipush (-2), 2) := by decide +kernel
theorem dX6_make_9 : decode cX6_make 9 = .ok (.ireturn, 1) := by decide +kernel
theorem dX6_make_10 : decode cX6_make 10 = .ok (.aload_n 0, 1) := by decide +kernel
theorem dX6_make_11 : decode cX6_make 11 = .ok (.getfield 19, 3) := by decide +kernel
theorem dX6_make_14 : decode cX6_make 14 = .ok (.invokevirtual 118, 3) := by decide +kernel
theorem dX6_make_17 : decode cX6_make 17 = .ok (.ifCond .eq 6, 3) := by decide +kernel
theorem dX6_make_20 : decode cX6_make 20 = .ok (.bipush (-5), 2) := by decide +kernel
theorem dX6_make_22 : decode cX6_make 22 = .ok (.ireturn, 1) := by decide +kernel
theorem dX6_make_23 : decode cX6_make 23 = .ok (.aload_n 0, 1) := by decide +kernel
theorem dX6_make_24 : decode cX6_make 24 = .ok (.iload_n 1, 1) := by decide +kernel
theorem dX6_make_25 : decode cX6_make 25 = .ok (.invokevirtual 143, 3) := by decide +kernel
theorem dX6_make_28 : decode cX6_make 28 = .ok (.istore_n 2, 1) := by decide +kernel
theorem dX6_make_29 : decode cX6_make 29 = .ok (.aload_n 0, 1) := by decide +kernel
theorem dX6_make_30 : decode cX6_make 30 = .ok (.iload_n 2, 1) := by decide +kernel
theorem dX6_make_31 : decode cX6_make 31 = .ok (.invokevirtual 56, 3) := by decide +kernel
theorem dX6_make_34 : decode cX6_make 34 = .ok (.ifCond .ne 6, 3) := by decide +kernel
theorem dX6_make_37 : decode cX6_make 37 = .ok (.bipush (-5), 2) := by decide +kernel
theorem dX6_make_39 : decode cX6_make 39 = .ok (.ireturn, 1) := by decide +kernel
theorem dX6_make_40 : decode cX6_make 40 = .ok (.aload_n 0, 1) := by decide +kernel
theorem dX6_make_41 : decode cX6_make 41 = .ok (.getfield 19, 3) := by decide +kernel
theorem dX6_make_44 : decode cX6_make 44 = .ok (.aload_n 0, 1) := by decide +kernel
theorem dX6_make_45 : decode cX6_make 45 = .ok (.getfield 12, 3) := by decide +kernel
theorem dX6_make_48 : decode cX6_make 48 = .ok (.iload_n 2, 1) := by decide +kernel
theorem dX6_make_49 : decode cX6_make 49 = .ok (.invokevirtual 65, 3) := by decide +kernel
theorem dX6_make_52 : decode cX6_make 52 = .ok (.checkcast 47, 3) := by decide +kernel
theorem dX6_make_55 : decode cX6_make 55 = .ok (.iload_n 2, 1) := by decide +kernel
theorem dX6_make_56 : decode cX6_make 56 = .ok (.invokevirtual 140, 3) := by decide +kernel
theorem dX6_make_59 : decode cX6_make 59 = .ok (.aload_n 0, 1) := by decide +kernel
theorem dX6_make_60 : decode cX6_make 60 = .ok (.getfield 19, 3) := by decide +kernel
theorem dX6_make_63 : decode cX6_make 63 = .ok (.getfield 115, 3) := by decide +kernel
theorem dX6_make_66 : decode cX6_make 66 = .ok (.invokevirtual 82, 3) := by decide +kernel
theorem dX6_make_69 : decode cX6_make 69 = .ok (.ireturn, 1) := by decide +kernel
theorem dX6_back_0 : decode cX6_back 0 = .ok (.aload_n 0, 1) := by decide +kernel
theorem dX6_back_1 : decode cX6_back 1 = .ok (.getfield 19, 3) := by decide +kernel
theorem dX6_back_4 : decode cX6_back 4 = .ok (.invokevirtual 146, 3) := by decide +kernel
theorem dX6_back_7 : decode cX6_back 7 = .ok (.ifCond .ne 6, 3) := by decide +kernel
theorem dX6_back_10 : decode cX6_back 10 = .ok (.bipush (-5), 2) := by decide +kernel
theorem dX6_back_12 : decode cX6_back 12 = .ok (.ireturn, 1) := by decide +kernel
theorem dX6_back_13 : decode cX6_back 13 = .ok (.aload_n 0, 1) := by decide +kernel
theorem dX6_back_14 : decode cX6_back 14 = .ok (.getfield 19, 3) := by decide +kernel
theorem dX6_back_17 : decode cX6_back 17 = .ok (.getfield 115, 3) := by decide +kernel
theorem dX6_back_20 : decode cX6_back 20 = .ok (.invokevirtual 82, 3) := by decide +kernel
theorem dX6_back_23 : decode cX6_back 23 = .ok (.ireturn, 1) := by decide +kernel
theorem dX6_made_0 : decode cX6_made 0 = .ok (.iload_n 2, 1) := by decide +kernel
theorem dX6_made_1 : decode cX6_made 1 = .ok (.ifCond .lt 8, 3) := by decide +kernel
theorem dX6_made_4 : decode cX6_made 4 = .ok (.iload_n 2, 1) := by decide +kernel
theorem dX6_made_5 : decode cX6_made 5 = .ok (.iconst 3, 1) := by decide +kernel
theorem dX6_made_6 : decode cX6_made 6 = .ok (.if_icmp .le 6, 3) := by decide +kernel
theorem dX6_made_9 : decode cX6_made 9 = .ok (.bipush (-2), 2) := by decide +kernel
theorem dX6_made_11 : decode cX6_made 11 = .ok (.ireturn, 1) := by decide +kernel
theorem dX6_made_12 : decode cX6_made 12 = .ok (.iload_n 1, 1) := by decide +kernel
theorem dX6_made_13 : decode cX6_made 13 = .ok (.ifCond .lt 17, 3) := by decide +kernel
theorem dX6_made_16 : decode cX6_made 16 = .ok (.iload_n 1, 1) := by decide +kernel
theorem dX6_made_17 : decode cX6_made 17 = .ok (.aload_n 0, 1) := by decide +kernel
theorem dX6_made_18 : decode cX6_made 18 = .ok (.getfield 19, 3) := by decide +kernel
theorem dX6_made_21 : decode cX6_made 21 = .ok (.getfield 115, 3) := by decide +kernel
theorem dX6_made_24 : decode cX6_made 24 = .ok (.invokevirtual 82, 3) := by decide +kernel
theorem dX6_made_27 : decode cX6_made 27 = .ok (.if_icmp .lt 6, 3) := by decide +kernel
theorem dX6_made_30 : decode cX6_made 30 = .ok (.bipush (-6), 2) := by decide +kernel
theorem dX6_made_32 : decode cX6_made 32 = .ok (.ireturn, 1) := by decide +kernel
theorem dX6_made_33 : decode cX6_made 33 = .ok (.aload_n 0, 1) := by decide +kernel
theorem dX6_made_34 : decode cX6_made 34 = .ok (.getfield 19, 3) := by decide +kernel
theorem dX6_made_37 : decode cX6_made 37 = .ok (.getfield 115, 3) := by decide +kernel
theorem dX6_made_40 : decode cX6_made 40 = .ok (.iload_n 1, 1) := by decide +kernel
theorem dX6_made_41 : decode cX6_made 41 = .ok (.invokevirtual 65, 3) := by decide +kernel
theorem dX6_made_44 : decode cX6_made 44 = .ok (.checkcast 149, 3) := by decide +kernel
theorem dX6_made_47 : decode cX6_made 47 = .ok (.iload_n 2, 1) := by decide +kernel
theorem dX6_made_48 : decode cX6_made 48 = .ok (.invokevirtual 151, 3) := by decide +kernel
theorem dX6_made_51 : decode cX6_made 51 = .ok (.ireturn, 1) := by decide +kernel
theorem dX6_state_0 : decode cX6_state 0 = .ok (.iload_n 1, 1) := by decide +kernel
theorem dX6_state_1 : decode cX6_state 1 = .ok (.tableswitch 123 0 7 #[47, 58, 69, 80, 91, 99, 107, 115], 47) := by decide +kernel
theorem dX6_state_48 : decode cX6_state 48 = .ok (.aload_n 0, 1) := by decide +kernel
theorem dX6_state_49 : decode cX6_state 49 = .ok (.getfield 19, 3) := by decide +kernel
theorem dX6_state_52 : decode cX6_state 52 = .ok (.getfield 115, 3) := by decide +kernel
theorem dX6_state_55 : decode cX6_state 55 = .ok (.invokevirtual 82, 3) := by decide +kernel
theorem dX6_state_58 : decode cX6_state 58 = .ok (.ireturn, 1) := by decide +kernel
theorem dX6_state_59 : decode cX6_state 59 = .ok (.aload_n 0, 1) := by decide +kernel
theorem dX6_state_60 : decode cX6_state 60 = .ok (.getfield 19, 3) := by decide +kernel
theorem dX6_state_63 : decode cX6_state 63 = .ok (.getfield 122, 3) := by decide +kernel
theorem dX6_state_66 : decode cX6_state 66 = .ok (.getfield 152, 3) := by decide +kernel
theorem dX6_state_69 : decode cX6_state 69 = .ok (.ireturn, 1) := by decide +kernel
theorem dX6_state_70 : decode cX6_state 70 = .ok (.aload_n 0, 1) := by decide +kernel
theorem dX6_state_71 : decode cX6_state 71 = .ok (.getfield 19, 3) := by decide +kernel
theorem dX6_state_74 : decode cX6_state 74 = .ok (.getfield 122, 3) := by decide +kernel
theorem dX6_state_77 : decode cX6_state 77 = .ok (.getfield 157, 3) := by decide +kernel
theorem dX6_state_80 : decode cX6_state 80 = .ok (.ireturn, 1) := by decide +kernel
theorem dX6_state_81 : decode cX6_state 81 = .ok (.aload_n 0, 1) := by decide +kernel
theorem dX6_state_82 : decode cX6_state 82 = .ok (.getfield 19, 3) := by decide +kernel
theorem dX6_state_85 : decode cX6_state 85 = .ok (.getfield 122, 3) := by decide +kernel
theorem dX6_state_88 : decode cX6_state 88 = .ok (.getfield 160, 3) := by decide +kernel
theorem dX6_state_91 : decode cX6_state 91 = .ok (.ireturn, 1) := by decide +kernel
theorem dX6_state_92 : decode cX6_state 92 = .ok (.aload_n 0, 1) := by decide +kernel
theorem dX6_state_93 : decode cX6_state 93 = .ok (.getfield 19, 3) := by decide +kernel
theorem dX6_state_96 : decode cX6_state 96 = .ok (.invokevirtual 126, 3) := by decide +kernel
theorem dX6_state_99 : decode cX6_state 99 = .ok (.ireturn, 1) := by decide +kernel
theorem dX6_state_100 : decode cX6_state 100 = .ok (.aload_n 0, 1) := by decide +kernel
theorem dX6_state_101 : decode cX6_state 101 = .ok (.getfield 19, 3) := by decide +kernel
theorem dX6_state_104 : decode cX6_state 104 = .ok (.invokevirtual 163, 3) := by decide +kernel
theorem dX6_state_107 : decode cX6_state 107 = .ok (.ireturn, 1) := by decide +kernel
theorem dX6_state_108 : decode cX6_state 108 = .ok (.aload_n 0, 1) := by decide +kernel
theorem dX6_state_109 : decode cX6_state 109 = .ok (.getfield 12, 3) := by decide +kernel
theorem dX6_state_112 : decode cX6_state 112 = .ok (.invokevirtual 82, 3) := by decide +kernel
theorem dX6_state_115 : decode cX6_state 115 = .ok (.ireturn, 1) := by decide +kernel
theorem dX6_state_116 : decode cX6_state 116 = .ok (.aload_n 0, 1) := by decide +kernel
theorem dX6_state_117 : decode cX6_state 117 = .ok (.getfield 26, 3) := by decide +kernel
theorem dX6_state_120 : decode cX6_state 120 = .ok (.invokevirtual 166, 3) := by decide +kernel
theorem dX6_state_123 : decode cX6_state 123 = .ok (.ireturn, 1) := by decide +kernel
theorem dX6_state_124 : decode cX6_state 124 = .ok (.bipush (-2), 2) := by decide +kernel
theorem dX6_state_126 : decode cX6_state 126 = .ok (.ireturn, 1) := by decide +kernel
theorem dX6_hands_0 : decode cX6_hands 0 = .ok (.iload_n 1, 1) := by decide +kernel
theorem dX6_hands_1 : decode cX6_hands 1 = .ok (.invokestatic 96, 3) := by decide +kernel
theorem dX6_hands_4 : decode cX6_hands 4 = .ok (.ifCond .ne 5, 3) := by decide +kernel
theorem dX6_hands_7 : decode cX6_hands 7 = .ok (.iconst (-1), 1) := by decide +kernel
theorem dX6_hands_8 : decode cX6_hands 8 = .ok (.ireturn, 1) := by decide +kernel
theorem dX6_hands_9 : decode cX6_hands 9 = .ok (.iload_n 2, 1) := by decide +kernel
theorem dX6_hands_10 : decode cX6_hands 10 = .ok (.invokestatic 169, 3) := by decide +kernel
theorem dX6_hands_13 : decode cX6_hands 13 = .ok (.ifCond .ne 6, 3) := by decide +kernel
theorem dX6_hands_16 : decode cX6_hands 16 = .ok (.bipush (-2), 2) := by decide +kernel
theorem dX6_hands_18 : decode cX6_hands 18 = .ok (.ireturn, 1) := by decide +kernel
theorem dX6_hands_19 : decode cX6_hands 19 = .ok (.aload_n 0, 1) := by decide +kernel
theorem dX6_hands_20 : decode cX6_hands 20 = .ok (.iload_n 1, 1) := by decide +kernel
theorem dX6_hands_21 : decode cX6_hands 21 = .ok (.iload_n 2, 1) := by decide +kernel
theorem dX6_hands_22 : decode cX6_hands 22 = .ok (.invokevirtual 172, 3) := by decide +kernel
theorem dX6_hands_25 : decode cX6_hands 25 = .ok (.ireturn, 1) := by decide +kernel
theorem dX6_shown_0 : decode cX6_shown 0 = .ok (.iload_n 1, 1) := by decide +kernel
theorem dX6_shown_1 : decode cX6_shown 1 = .ok (.invokestatic 96, 3) := by decide +kernel
theorem dX6_shown_4 : decode cX6_shown 4 = .ok (.ifCond .ne 5, 3) := by decide +kernel
theorem dX6_shown_7 : decode cX6_shown 7 = .ok (.iconst (-1), 1) := by decide +kernel
theorem dX6_shown_8 : decode cX6_shown 8 = .ok (.ireturn, 1) := by decide +kernel
theorem dX6_shown_9 : decode cX6_shown 9 = .ok (.iload_n 2, 1) := by decide +kernel
theorem dX6_shown_10 : decode cX6_shown 10 = .ok (.invokestatic 169, 3) := by decide +kernel
theorem dX6_shown_13 : decode cX6_shown 13 = .ok (.ifCond .eq 13, 3) := by decide +kernel
theorem dX6_shown_16 : decode cX6_shown 16 = .ok (.iload_n 3, 1) := by decide +kernel
theorem dX6_shown_17 : decode cX6_shown 17 = .ok (.ifCond .lt 9, 3) := by decide +kernel
theorem dX6_shown_20 : decode cX6_shown 20 = .ok (.iload_n 3, 1) := by decide +kernel
theorem dX6_shown_21 : decode cX6_shown 21 = .ok (.bipush 11, 2) := by decide +kernel
theorem dX6_shown_23 : decode cX6_shown 23 = .ok (.if_icmp .le 6, 3) := by decide +kernel
theorem dX6_shown_26 : decode cX6_shown 26 = .ok (.bipush (-2), 2) := by decide +kernel
theorem dX6_shown_28 : decode cX6_shown 28 = .ok (.ireturn, 1) := by decide +kernel
theorem dX6_shown_29 : decode cX6_shown 29 = .ok (.bipush (-6), 2) := by decide +kernel
theorem dX6_shown_31 : decode cX6_shown 31 = .ok (.istore 4, 2) := by decide +kernel
theorem dX6_shown_33 : decode cX6_shown 33 = .ok (.iconst 0, 1) := by decide +kernel
theorem dX6_shown_34 : decode cX6_shown 34 = .ok (.istore 5, 2) := by decide +kernel
theorem dX6_shown_36 : decode cX6_shown 36 = .ok (.bipush 31, 2) := by decide +kernel
theorem dX6_shown_38 : decode cX6_shown 38 = .ok (.istore 6, 2) := by decide +kernel
theorem dX6_shown_40 : decode cX6_shown 40 = .ok (.iload 5, 2) := by decide +kernel
theorem dX6_shown_42 : decode cX6_shown 42 = .ok (.sipush 15504, 3) := by decide +kernel
theorem dX6_shown_45 : decode cX6_shown 45 = .ok (.if_icmp .ge 57, 3) := by decide +kernel
theorem dX6_shown_48 : decode cX6_shown 48 = .ok (.aload_n 0, 1) := by decide +kernel
theorem dX6_shown_49 : decode cX6_shown 49 = .ok (.iload_n 1, 1) := by decide +kernel
theorem dX6_shown_50 : decode cX6_shown 50 = .ok (.iload_n 2, 1) := by decide +kernel
theorem dX6_shown_51 : decode cX6_shown 51 = .ok (.iload 6, 2) := by decide +kernel
theorem dX6_shown_53 : decode cX6_shown 53 = .ok (.invokevirtual 175, 3) := by decide +kernel
theorem dX6_shown_56 : decode cX6_shown 56 = .ok (.ifCond .eq 33, 3) := by decide +kernel
theorem dX6_shown_59 : decode cX6_shown 59 = .ok (.iload 6, 2) := by decide +kernel
theorem dX6_shown_61 : decode cX6_shown 61 = .ok (.iload_n 3, 1) := by decide +kernel
theorem dX6_shown_62 : decode cX6_shown 62 = .ok (.invokestatic 179, 3) := by decide +kernel
theorem dX6_shown_65 : decode cX6_shown 65 = .ok (.istore 7, 2) := by decide +kernel
theorem dX6_shown_67 : decode cX6_shown 67 = .ok (.iload 4, 2) := by decide +kernel
theorem dX6_shown_69 : decode cX6_shown 69 = .ok (.bipush (-6), 2) := by decide +kernel
theorem dX6_shown_71 : decode cX6_shown 71 = .ok (.if_icmp .ne 8, 3) := by decide +kernel
theorem dX6_shown_74 : decode cX6_shown 74 = .ok (.iload 7, 2) := by decide +kernel
theorem dX6_shown_76 : decode cX6_shown 76 = .ok (.goto 11, 3) := by decide +kernel
theorem dX6_shown_79 : decode cX6_shown 79 = .ok (.iload 4, 2) := by decide +kernel
theorem dX6_shown_81 : decode cX6_shown 81 = .ok (.iload 7, 2) := by decide +kernel
theorem dX6_shown_83 : decode cX6_shown 83 = .ok (.iload_n 3, 1) := by decide +kernel
theorem dX6_shown_84 : decode cX6_shown 84 = .ok (.invokestatic 182, 3) := by decide +kernel
theorem dX6_shown_87 : decode cX6_shown 87 = .ok (.istore 4, 2) := by decide +kernel
theorem dX6_shown_89 : decode cX6_shown 89 = .ok (.iinc 5 1, 3) := by decide +kernel
theorem dX6_shown_92 : decode cX6_shown 92 = .ok (.iload 6, 2) := by decide +kernel
theorem dX6_shown_94 : decode cX6_shown 94 = .ok (.invokestatic 186, 3) := by decide +kernel
theorem dX6_shown_97 : decode cX6_shown 97 = .ok (.istore 6, 2) := by decide +kernel
theorem dX6_shown_99 : decode cX6_shown 99 = .ok (.goto (-59), 3) := by decide +kernel
theorem dX6_shown_102 : decode cX6_shown 102 = .ok (.iload 4, 2) := by decide +kernel
theorem dX6_shown_104 : decode cX6_shown 104 = .ok (.ireturn, 1) := by decide +kernel
theorem dX6_fits_0 : decode cX6_fits 0 = .ok (.iload_n 1, 1) := by decide +kernel
theorem dX6_fits_1 : decode cX6_fits 1 = .ok (.invokestatic 96, 3) := by decide +kernel
theorem dX6_fits_4 : decode cX6_fits 4 = .ok (.ifCond .ne 5, 3) := by decide +kernel
theorem dX6_fits_7 : decode cX6_fits 7 = .ok (.iconst (-1), 1) := by decide +kernel
theorem dX6_fits_8 : decode cX6_fits 8 = .ok (.ireturn, 1) := by decide +kernel
theorem dX6_fits_9 : decode cX6_fits 9 = .ok (.iload_n 2, 1) := by decide +kernel
theorem dX6_fits_10 : decode cX6_fits 10 = .ok (.invokestatic 99, 3) := by decide +kernel
theorem dX6_fits_13 : decode cX6_fits 13 = .ok (.ifCond .ne 6, 3) := by decide +kernel
theorem dX6_fits_16 : decode cX6_fits 16 = .ok (.bipush (-2), 2) := by decide +kernel
theorem dX6_fits_18 : decode cX6_fits 18 = .ok (.ireturn, 1) := by decide +kernel
theorem dX6_fits_19 : decode cX6_fits 19 = .ok (.aload_n 0, 1) := by decide +kernel
theorem dX6_fits_20 : decode cX6_fits 20 = .ok (.iload_n 1, 1) := by decide +kernel
theorem dX6_fits_21 : decode cX6_fits 21 = .ok (.iload_n 2, 1) := by decide +kernel
theorem dX6_fits_22 : decode cX6_fits 22 = .ok (.invokevirtual 189, 3) := by decide +kernel
theorem dX6_fits_25 : decode cX6_fits 25 = .ok (.ifCond .eq 7, 3) := by decide +kernel
theorem dX6_fits_28 : decode cX6_fits 28 = .ok (.iconst 1, 1) := by decide +kernel
theorem dX6_fits_29 : decode cX6_fits 29 = .ok (.goto 4, 3) := by decide +kernel
theorem dX6_fits_32 : decode cX6_fits 32 = .ok (.iconst 0, 1) := by decide +kernel
theorem dX6_fits_33 : decode cX6_fits 33 = .ok (.ireturn, 1) := by decide +kernel
theorem dX6_ruleOf_0 : decode cX6_ruleOf 0 = .ok (.iload_n 1, 1) := by decide +kernel
theorem dX6_ruleOf_1 : decode cX6_ruleOf 1 = .ok (.invokestatic 99, 3) := by decide +kernel
theorem dX6_ruleOf_4 : decode cX6_ruleOf 4 = .ok (.ifCond .ne 6, 3) := by decide +kernel
theorem dX6_ruleOf_7 : decode cX6_ruleOf 7 = .ok (.bipush (-2), 2) := by decide +kernel
theorem dX6_ruleOf_9 : decode cX6_ruleOf 9 = .ok (.ireturn, 1) := by decide +kernel
theorem dX6_ruleOf_10 : decode cX6_ruleOf 10 = .ok (.aload_n 0, 1) := by decide +kernel
theorem dX6_ruleOf_11 : decode cX6_ruleOf 11 = .ok (.getfield 19, 3) := by decide +kernel
theorem dX6_ruleOf_14 : decode cX6_ruleOf 14 = .ok (.invokevirtual 118, 3) := by decide +kernel
theorem dX6_ruleOf_17 : decode cX6_ruleOf 17 = .ok (.ifCond .eq 6, 3) := by decide +kernel
theorem dX6_ruleOf_20 : decode cX6_ruleOf 20 = .ok (.bipush (-5), 2) := by decide +kernel
theorem dX6_ruleOf_22 : decode cX6_ruleOf 22 = .ok (.ireturn, 1) := by decide +kernel
theorem dX6_ruleOf_23 : decode cX6_ruleOf 23 = .ok (.aload_n 0, 1) := by decide +kernel
theorem dX6_ruleOf_24 : decode cX6_ruleOf 24 = .ok (.aload_n 0, 1) := by decide +kernel
theorem dX6_ruleOf_25 : decode cX6_ruleOf 25 = .ok (.getfield 19, 3) := by decide +kernel
theorem dX6_ruleOf_28 : decode cX6_ruleOf 28 = .ok (.getfield 122, 3) := by decide +kernel
theorem dX6_ruleOf_31 : decode cX6_ruleOf 31 = .ok (.iload_n 1, 1) := by decide +kernel
theorem dX6_ruleOf_32 : decode cX6_ruleOf 32 = .ok (.invokestatic 129, 3) := by decide +kernel
theorem dX6_ruleOf_35 : decode cX6_ruleOf 35 = .ok (.invokevirtual 132, 3) := by decide +kernel
theorem dX6_ruleOf_38 : decode cX6_ruleOf 38 = .ok (.ireturn, 1) := by decide +kernel
theorem dX6_reach_0 : decode cX6_reach 0 = .ok (.aload_n 0, 1) := by decide +kernel
theorem dX6_reach_1 : decode cX6_reach 1 = .ok (.iload_n 1, 1) := by decide +kernel
theorem dX6_reach_2 : decode cX6_reach 2 = .ok (.invokevirtual 56, 3) := by decide +kernel
theorem dX6_reach_5 : decode cX6_reach 5 = .ok (.ifCond .ne 5, 3) := by decide +kernel
theorem dX6_reach_8 : decode cX6_reach 8 = .ok (.iconst (-1), 1) := by decide +kernel
theorem dX6_reach_9 : decode cX6_reach 9 = .ok (.ireturn, 1) := by decide +kernel
theorem dX6_reach_10 : decode cX6_reach 10 = .ok (.aload_n 0, 1) := by decide +kernel
theorem dX6_reach_11 : decode cX6_reach 11 = .ok (.new 153, 3) := by decide +kernel
theorem dX6_reach_14 : decode cX6_reach 14 = .ok (.dup, 1) := by decide +kernel
theorem dX6_reach_15 : decode cX6_reach 15 = .ok (.aload_n 0, 1) := by decide +kernel
theorem dX6_reach_16 : decode cX6_reach 16 = .ok (.getfield 12, 3) := by decide +kernel
theorem dX6_reach_19 : decode cX6_reach 19 = .ok (.iload_n 1, 1) := by decide +kernel
theorem dX6_reach_20 : decode cX6_reach 20 = .ok (.invokevirtual 65, 3) := by decide +kernel
theorem dX6_reach_23 : decode cX6_reach 23 = .ok (.checkcast 47, 3) := by decide +kernel
theorem dX6_reach_26 : decode cX6_reach 26 = .ok (.getfield 193, 3) := by decide +kernel
theorem dX6_reach_29 : decode cX6_reach 29 = .ok (.bipush (-6), 2) := by decide +kernel
theorem dX6_reach_31 : decode cX6_reach 31 = .ok (.iconst 0, 1) := by decide +kernel
theorem dX6_reach_32 : decode cX6_reach 32 = .ok (.invokespecial 194, 3) := by decide +kernel
theorem dX6_reach_35 : decode cX6_reach 35 = .ok (.iload_n 1, 1) := by decide +kernel
theorem dX6_reach_36 : decode cX6_reach 36 = .ok (.invokevirtual 196, 3) := by decide +kernel
theorem dX6_reach_39 : decode cX6_reach 39 = .ok (.ireturn, 1) := by decide +kernel
theorem dX6_holes_0 : decode cX6_holes 0 = .ok (.iload_n 1, 1) := by decide +kernel
theorem dX6_holes_1 : decode cX6_holes 1 = .ok (.invokestatic 37, 3) := by decide +kernel
theorem dX6_holes_4 : decode cX6_holes 4 = .ok (.ifCond .eq 10, 3) := by decide +kernel
theorem dX6_holes_7 : decode cX6_holes 7 = .ok (.iload_n 3, 1) := by decide +kernel
theorem dX6_holes_8 : decode cX6_holes 8 = .ok (.invokestatic 44, 3) := by decide +kernel
theorem dX6_holes_11 : decode cX6_holes 11 = .ok (.ifCond .ne 6, 3) := by decide +kernel
theorem dX6_holes_14 : decode cX6_holes 14 = .ok (.bipush (-2), 2) := by decide +kernel
theorem dX6_holes_16 : decode cX6_holes 16 = .ok (.ireturn, 1) := by decide +kernel
theorem dX6_holes_17 : decode cX6_holes 17 = .ok (.iload_n 2, 1) := by decide +kernel
theorem dX6_holes_18 : decode cX6_holes 18 = .ok (.bipush (-6), 2) := by decide +kernel
theorem dX6_holes_20 : decode cX6_holes 20 = .ok (.if_icmp .eq 16, 3) := by decide +kernel
theorem dX6_holes_23 : decode cX6_holes 23 = .ok (.iload_n 2, 1) := by decide +kernel
theorem dX6_holes_24 : decode cX6_holes 24 = .ok (.ifCond .lt 9, 3) := by decide +kernel
theorem dX6_holes_27 : decode cX6_holes 27 = .ok (.iload_n 2, 1) := by decide +kernel
theorem dX6_holes_28 : decode cX6_holes 28 = .ok (.bipush 25, 2) := by decide +kernel
theorem dX6_holes_30 : decode cX6_holes 30 = .ok (.if_icmp .lt 6, 3) := by decide +kernel
theorem dX6_holes_33 : decode cX6_holes 33 = .ok (.bipush (-2), 2) := by decide +kernel
theorem dX6_holes_35 : decode cX6_holes 35 = .ok (.ireturn, 1) := by decide +kernel
theorem dX6_holes_36 : decode cX6_holes 36 = .ok (.aload_n 0, 1) := by decide +kernel
theorem dX6_holes_37 : decode cX6_holes 37 = .ok (.new 153, 3) := by decide +kernel
theorem dX6_holes_40 : decode cX6_holes 40 = .ok (.dup, 1) := by decide +kernel
theorem dX6_holes_41 : decode cX6_holes 41 = .ok (.iload_n 1, 1) := by decide +kernel
theorem dX6_holes_42 : decode cX6_holes 42 = .ok (.iload_n 2, 1) := by decide +kernel
theorem dX6_holes_43 : decode cX6_holes 43 = .ok (.iload_n 3, 1) := by decide +kernel
theorem dX6_holes_44 : decode cX6_holes 44 = .ok (.invokespecial 194, 3) := by decide +kernel
theorem dX6_holes_47 : decode cX6_holes 47 = .ok (.bipush (-6), 2) := by decide +kernel
theorem dX6_holes_49 : decode cX6_holes 49 = .ok (.invokevirtual 196, 3) := by decide +kernel
theorem dX6_holes_52 : decode cX6_holes 52 = .ok (.ireturn, 1) := by decide +kernel
theorem dX6_tricks_0 : decode cX6_tricks 0 = .ok (.iload_n 1, 1) := by decide +kernel
theorem dX6_tricks_1 : decode cX6_tricks 1 = .ok (.invokestatic 199, 3) := by decide +kernel
theorem dX6_tricks_4 : decode cX6_tricks 4 = .ok (.ifCond .eq 23, 3) := by decide +kernel
theorem dX6_tricks_7 : decode cX6_tricks 7 = .ok (.iload_n 2, 1) := by decide +kernel
theorem dX6_tricks_8 : decode cX6_tricks 8 = .ok (.invokestatic 99, 3) := by decide +kernel
theorem dX6_tricks_11 : decode cX6_tricks 11 = .ok (.ifCond .eq 16, 3) := by decide +kernel
theorem dX6_tricks_14 : decode cX6_tricks 14 = .ok (.iload_n 3, 1) := by decide +kernel
theorem dX6_tricks_15 : decode cX6_tricks 15 = .ok (.invokestatic 99, 3) := by decide +kernel
theorem dX6_tricks_18 : decode cX6_tricks 18 = .ok (.ifCond .eq 9, 3) := by decide +kernel
theorem dX6_tricks_21 : decode cX6_tricks 21 = .ok (.iload_n 2, 1) := by decide +kernel
theorem dX6_tricks_22 : decode cX6_tricks 22 = .ok (.iload_n 3, 1) := by decide +kernel
theorem dX6_tricks_23 : decode cX6_tricks 23 = .ok (.iand, 1) := by decide +kernel
theorem dX6_tricks_24 : decode cX6_tricks 24 = .ok (.ifCond .eq 6, 3) := by decide +kernel
theorem dX6_tricks_27 : decode cX6_tricks 27 = .ok (.bipush (-2), 2) := by decide +kernel
theorem dX6_tricks_29 : decode cX6_tricks 29 = .ok (.ireturn, 1) := by decide +kernel
theorem dX6_tricks_30 : decode cX6_tricks 30 = .ok (.iload_n 1, 1) := by decide +kernel
theorem dX6_tricks_31 : decode cX6_tricks 31 = .ok (.iload_n 2, 1) := by decide +kernel
theorem dX6_tricks_32 : decode cX6_tricks 32 = .ok (.iload_n 3, 1) := by decide +kernel
theorem dX6_tricks_33 : decode cX6_tricks 33 = .ok (.invokestatic 202, 3) := by decide +kernel
theorem dX6_tricks_36 : decode cX6_tricks 36 = .ok (.ireturn, 1) := by decide +kernel
theorem dX6_expected_0 : decode cX6_expected 0 = .ok (.iload_n 1, 1) := by decide +kernel
theorem dX6_expected_1 : decode cX6_expected 1 = .ok (.invokestatic 96, 3) := by decide +kernel
theorem dX6_expected_4 : decode cX6_expected 4 = .ok (.ifCond .ne 7, 3) := by decide +kernel
theorem dX6_expected_7 : decode cX6_expected 7 = .ok (.ldc2_w 205, 3) := by decide +kernel
theorem dX6_expected_10 : decode cX6_expected 10 = .ok (.lreturn, 1) := by decide +kernel
theorem dX6_expected_11 : decode cX6_expected 11 = .ok (.iload_n 2, 1) := by decide +kernel
theorem dX6_expected_12 : decode cX6_expected 12 = .ok (.invokestatic 199, 3) := by decide +kernel
theorem dX6_expected_15 : decode cX6_expected 15 = .ok (.ifCond .ne 7, 3) := by decide +kernel
theorem dX6_expected_18 : decode cX6_expected 18 = .ok (.ldc2_w 207, 3) := by decide +kernel
theorem dX6_expected_21 : decode cX6_expected 21 = .ok (.lreturn, 1) := by decide +kernel
theorem dX6_expected_22 : decode cX6_expected 22 = .ok (.aload_n 0, 1) := by decide +kernel
theorem dX6_expected_23 : decode cX6_expected 23 = .ok (.iload_n 1, 1) := by decide +kernel
theorem dX6_expected_24 : decode cX6_expected 24 = .ok (.iload_n 2, 1) := by decide +kernel
theorem dX6_expected_25 : decode cX6_expected 25 = .ok (.invokevirtual 209, 3) := by decide +kernel
theorem dX6_expected_28 : decode cX6_expected 28 = .ok (.lreturn, 1) := by decide +kernel
theorem dX6_contract_0 : decode cX6_contract 0 = .ok (.iload_n 1, 1) := by decide +kernel
theorem dX6_contract_1 : decode cX6_contract 1 = .ok (.invokestatic 96, 3) := by decide +kernel
theorem dX6_contract_4 : decode cX6_contract 4 = .ok (.ifCond .ne 5, 3) := by decide +kernel
theorem dX6_contract_7 : decode cX6_contract 7 = .ok (.iconst (-1), 1) := by decide +kernel
theorem dX6_contract_8 : decode cX6_contract 8 = .ok (.ireturn, 1) := by decide +kernel
theorem dX6_contract_9 : decode cX6_contract 9 = .ok (.aload_n 0, 1) := by decide +kernel
theorem dX6_contract_10 : decode cX6_contract 10 = .ok (.iconst 1, 1) := by decide +kernel
theorem dX6_contract_11 : decode cX6_contract 11 = .ok (.iload_n 1, 1) := by decide +kernel
theorem dX6_contract_12 : decode cX6_contract 12 = .ok (.isub, 1) := by decide +kernel
theorem dX6_contract_13 : decode cX6_contract 13 = .ok (.aload_n 0, 1) := by decide +kernel
theorem dX6_contract_14 : decode cX6_contract 14 = .ok (.iload_n 1, 1) := by decide +kernel
theorem dX6_contract_15 : decode cX6_contract 15 = .ok (.invokevirtual 102, 3) := by decide +kernel
theorem dX6_contract_18 : decode cX6_contract 18 = .ok (.invokevirtual 172, 3) := by decide +kernel
theorem dX6_contract_21 : decode cX6_contract 21 = .ok (.istore_n 2, 1) := by decide +kernel
theorem dX6_contract_22 : decode cX6_contract 22 = .ok (.iload_n 2, 1) := by decide +kernel
theorem dX6_contract_23 : decode cX6_contract 23 = .ok (.ifCond .ne 6, 3) := by decide +kernel
theorem dX6_contract_26 : decode cX6_contract 26 = .ok (.bipush (-6), 2) := by decide +kernel
theorem dX6_contract_28 : decode cX6_contract 28 = .ok (.ireturn, 1) := by decide +kernel
theorem dX6_contract_29 : decode cX6_contract 29 = .ok (.lconst 0, 1) := by decide +kernel
theorem dX6_contract_30 : decode cX6_contract 30 = .ok (.lstore_n 3, 1) := by decide +kernel
theorem dX6_contract_31 : decode cX6_contract 31 = .ok (.iconst 0, 1) := by decide +kernel
theorem dX6_contract_32 : decode cX6_contract 32 = .ok (.istore 5, 2) := by decide +kernel
theorem dX6_contract_34 : decode cX6_contract 34 = .ok (.iconst 0, 1) := by decide +kernel
theorem dX6_contract_35 : decode cX6_contract 35 = .ok (.istore 6, 2) := by decide +kernel
theorem dX6_contract_37 : decode cX6_contract 37 = .ok (.iload 6, 2) := by decide +kernel
theorem dX6_contract_39 : decode cX6_contract 39 = .ok (.iconst 4, 1) := by decide +kernel
theorem dX6_contract_40 : decode cX6_contract 40 = .ok (.if_icmp .gt 32, 3) := by decide +kernel
theorem dX6_contract_43 : decode cX6_contract 43 = .ok (.aload_n 0, 1) := by decide +kernel
theorem dX6_contract_44 : decode cX6_contract 44 = .ok (.iload_n 1, 1) := by decide +kernel
theorem dX6_contract_45 : decode cX6_contract 45 = .ok (.iload 6, 2) := by decide +kernel
theorem dX6_contract_47 : decode cX6_contract 47 = .ok (.invokevirtual 209, 3) := by decide +kernel
theorem dX6_contract_50 : decode cX6_contract 50 = .ok (.lstore 7, 2) := by decide +kernel
theorem dX6_contract_52 : decode cX6_contract 52 = .ok (.lload 7, 2) := by decide +kernel
theorem dX6_contract_54 : decode cX6_contract 54 = .ok (.lload_n 3, 1) := by decide +kernel
theorem dX6_contract_55 : decode cX6_contract 55 = .ok (.lcmp, 1) := by decide +kernel
theorem dX6_contract_56 : decode cX6_contract 56 = .ok (.ifCond .lt 10, 3) := by decide +kernel
theorem dX6_contract_59 : decode cX6_contract 59 = .ok (.lload 7, 2) := by decide +kernel
theorem dX6_contract_61 : decode cX6_contract 61 = .ok (.lstore_n 3, 1) := by decide +kernel
theorem dX6_contract_62 : decode cX6_contract 62 = .ok (.iload 6, 2) := by decide +kernel
theorem dX6_contract_64 : decode cX6_contract 64 = .ok (.istore 5, 2) := by decide +kernel
theorem dX6_contract_66 : decode cX6_contract 66 = .ok (.iinc 6 1, 3) := by decide +kernel
theorem dX6_contract_69 : decode cX6_contract 69 = .ok (.goto (-32), 3) := by decide +kernel
theorem dX6_contract_72 : decode cX6_contract 72 = .ok (.lload_n 3, 1) := by decide +kernel
theorem dX6_contract_73 : decode cX6_contract 73 = .ok (.iload_n 2, 1) := by decide +kernel
theorem dX6_contract_74 : decode cX6_contract 74 = .ok (.i2l, 1) := by decide +kernel
theorem dX6_contract_75 : decode cX6_contract 75 = .ok (.ldiv, 1) := by decide +kernel
theorem dX6_contract_76 : decode cX6_contract 76 = .ok (.l2i, 1) := by decide +kernel
theorem dX6_contract_77 : decode cX6_contract 77 = .ok (.istore 6, 2) := by decide +kernel
theorem dX6_contract_79 : decode cX6_contract 79 = .ok (.iload 6, 2) := by decide +kernel
theorem dX6_contract_81 : decode cX6_contract 81 = .ok (.ifCond .ne 8, 3) := by decide +kernel
theorem dX6_contract_84 : decode cX6_contract 84 = .ok (.bipush (-6), 2) := by decide +kernel
theorem dX6_contract_86 : decode cX6_contract 86 = .ok (.goto 12, 3) := by decide +kernel
theorem dX6_contract_89 : decode cX6_contract 89 = .ok (.iload 6, 2) := by decide +kernel
theorem dX6_contract_91 : decode cX6_contract 91 = .ok (.iconst 1, 1) := by decide +kernel
theorem dX6_contract_92 : decode cX6_contract 92 = .ok (.isub, 1) := by decide +kernel
theorem dX6_contract_93 : decode cX6_contract 93 = .ok (.iconst 5, 1) := by decide +kernel
theorem dX6_contract_94 : decode cX6_contract 94 = .ok (.imul, 1) := by decide +kernel
theorem dX6_contract_95 : decode cX6_contract 95 = .ok (.iload 5, 2) := by decide +kernel
theorem dX6_contract_97 : decode cX6_contract 97 = .ok (.iadd, 1) := by decide +kernel
theorem dX6_contract_98 : decode cX6_contract 98 = .ok (.ireturn, 1) := by decide +kernel
theorem dX6_put_0 : decode cX6_put 0 = .ok (.iconst 0, 1) := by decide +kernel
theorem dX6_put_1 : decode cX6_put 1 = .ok (.istore_n 3, 1) := by decide +kernel
theorem dX6_put_2 : decode cX6_put 2 = .ok (.lload_n 1, 1) := by decide +kernel
theorem dX6_put_3 : decode cX6_put 3 = .ok (.lstore 4, 2) := by decide +kernel
theorem dX6_put_5 : decode cX6_put 5 = .ok (.iload_n 3, 1) := by decide +kernel
theorem dX6_put_6 : decode cX6_put 6 = .ok (.bipush 8, 2) := by decide +kernel
theorem dX6_put_8 : decode cX6_put 8 = .ok (.if_icmp .ge 39, 3) := by decide +kernel
theorem dX6_put_11 : decode cX6_put 11 = .ok (.lload 4, 2) := by decide +kernel
theorem dX6_put_13 : decode cX6_put 13 = .ok (.lconst 0, 1) := by decide +kernel
theorem dX6_put_14 : decode cX6_put 14 = .ok (.lcmp, 1) := by decide +kernel
theorem dX6_put_15 : decode cX6_put 15 = .ok (.ifCond .eq 32, 3) := by decide +kernel
theorem dX6_put_18 : decode cX6_put 18 = .ok (.lload 4, 2) := by decide +kernel
theorem dX6_put_20 : decode cX6_put 20 = .ok (.ldc2_w 213, 3) := by decide +kernel
theorem dX6_put_23 : decode cX6_put 23 = .ok (.land, 1) := by decide +kernel
theorem dX6_put_24 : decode cX6_put 24 = .ok (.l2i, 1) := by decide +kernel
theorem dX6_put_25 : decode cX6_put 25 = .ok (.invokestatic 215, 3) := by decide +kernel
theorem dX6_put_28 : decode cX6_put 28 = .ok (.ifCond .ne 6, 3) := by decide +kernel
theorem dX6_put_31 : decode cX6_put 31 = .ok (.bipush (-2), 2) := by decide +kernel
theorem dX6_put_33 : decode cX6_put 33 = .ok (.ireturn, 1) := by decide +kernel
theorem dX6_put_34 : decode cX6_put 34 = .ok (.lload 4, 2) := by decide +kernel
theorem dX6_put_36 : decode cX6_put 36 = .ok (.bipush 8, 2) := by decide +kernel
theorem dX6_put_38 : decode cX6_put 38 = .ok (.lushr, 1) := by decide +kernel
theorem dX6_put_39 : decode cX6_put 39 = .ok (.lstore 4, 2) := by decide +kernel
theorem dX6_put_41 : decode cX6_put 41 = .ok (.iinc 3 1, 3) := by decide +kernel
theorem dX6_put_44 : decode cX6_put 44 = .ok (.goto (-39), 3) := by decide +kernel
theorem dX6_put_47 : decode cX6_put 47 = .ok (.iload_n 3, 1) := by decide +kernel
theorem dX6_put_48 : decode cX6_put 48 = .ok (.ifCond .ne 6, 3) := by decide +kernel
theorem dX6_put_51 : decode cX6_put 51 = .ok (.bipush (-2), 2) := by decide +kernel
theorem dX6_put_53 : decode cX6_put 53 = .ok (.ireturn, 1) := by decide +kernel
theorem dX6_put_54 : decode cX6_put 54 = .ok (.aload_n 0, 1) := by decide +kernel
theorem dX6_put_55 : decode cX6_put 55 = .ok (.getfield 26, 3) := by decide +kernel
theorem dX6_put_58 : decode cX6_put 58 = .ok (.invokevirtual 166, 3) := by decide +kernel
theorem dX6_put_61 : decode cX6_put 61 = .ok (.iload_n 3, 1) := by decide +kernel
theorem dX6_put_62 : decode cX6_put 62 = .ok (.iadd, 1) := by decide +kernel
theorem dX6_put_63 : decode cX6_put 63 = .ok (.bipush 60, 2) := by decide +kernel
theorem dX6_put_65 : decode cX6_put 65 = .ok (.if_icmp .le 6, 3) := by decide +kernel
theorem dX6_put_68 : decode cX6_put 68 = .ok (.bipush (-4), 2) := by decide +kernel
theorem dX6_put_70 : decode cX6_put 70 = .ok (.ireturn, 1) := by decide +kernel
theorem dX6_put_71 : decode cX6_put 71 = .ok (.iload_n 3, 1) := by decide +kernel
theorem dX6_put_72 : decode cX6_put 72 = .ok (.iconst 1, 1) := by decide +kernel
theorem dX6_put_73 : decode cX6_put 73 = .ok (.isub, 1) := by decide +kernel
theorem dX6_put_74 : decode cX6_put 74 = .ok (.istore 6, 2) := by decide +kernel
theorem dX6_put_76 : decode cX6_put 76 = .ok (.iload 6, 2) := by decide +kernel
theorem dX6_put_78 : decode cX6_put 78 = .ok (.ifCond .lt 30, 3) := by decide +kernel
theorem dX6_put_81 : decode cX6_put 81 = .ok (.aload_n 0, 1) := by decide +kernel
theorem dX6_put_82 : decode cX6_put 82 = .ok (.getfield 26, 3) := by decide +kernel
theorem dX6_put_85 : decode cX6_put 85 = .ok (.lload_n 1, 1) := by decide +kernel
theorem dX6_put_86 : decode cX6_put 86 = .ok (.bipush 8, 2) := by decide +kernel
theorem dX6_put_88 : decode cX6_put 88 = .ok (.iload 6, 2) := by decide +kernel
theorem dX6_put_90 : decode cX6_put 90 = .ok (.imul, 1) := by decide +kernel
theorem dX6_put_91 : decode cX6_put 91 = .ok (.lushr, 1) := by decide +kernel
theorem dX6_put_92 : decode cX6_put 92 = .ok (.ldc2_w 213, 3) := by decide +kernel
theorem dX6_put_95 : decode cX6_put 95 = .ok (.land, 1) := by decide +kernel
theorem dX6_put_96 : decode cX6_put 96 = .ok (.l2i, 1) := by decide +kernel
theorem dX6_put_97 : decode cX6_put 97 = .ok (.i2c, 1) := by decide +kernel
theorem dX6_put_98 : decode cX6_put 98 = .ok (.invokevirtual 218, 3) := by decide +kernel
theorem dX6_put_101 : decode cX6_put 101 = .ok (.pop, 1) := by decide +kernel
theorem dX6_put_102 : decode cX6_put 102 = .ok (.iinc 6 (-1), 3) := by decide +kernel
theorem dX6_put_105 : decode cX6_put 105 = .ok (.goto (-29), 3) := by decide +kernel
theorem dX6_put_108 : decode cX6_put 108 = .ok (.aload_n 0, 1) := by decide +kernel
theorem dX6_put_109 : decode cX6_put 109 = .ok (.getfield 26, 3) := by decide +kernel
theorem dX6_put_112 : decode cX6_put 112 = .ok (.invokevirtual 166, 3) := by decide +kernel
theorem dX6_put_115 : decode cX6_put 115 = .ok (.ireturn, 1) := by decide +kernel
theorem dX6_wipe_0 : decode cX6_wipe 0 = .ok (.aload_n 0, 1) := by decide +kernel
theorem dX6_wipe_1 : decode cX6_wipe 1 = .ok (.getfield 26, 3) := by decide +kernel
theorem dX6_wipe_4 : decode cX6_wipe 4 = .ok (.invokevirtual 166, 3) := by decide +kernel
theorem dX6_wipe_7 : decode cX6_wipe 7 = .ok (.istore_n 1, 1) := by decide +kernel
theorem dX6_wipe_8 : decode cX6_wipe 8 = .ok (.aload_n 0, 1) := by decide +kernel
theorem dX6_wipe_9 : decode cX6_wipe 9 = .ok (.getfield 26, 3) := by decide +kernel
theorem dX6_wipe_12 : decode cX6_wipe 12 = .ok (.iconst 0, 1) := by decide +kernel
theorem dX6_wipe_13 : decode cX6_wipe 13 = .ok (.invokevirtual 222, 3) := by decide +kernel
theorem dX6_wipe_16 : decode cX6_wipe 16 = .ok (.iload_n 1, 1) := by decide +kernel
theorem dX6_wipe_17 : decode cX6_wipe 17 = .ok (.ireturn, 1) := by decide +kernel
theorem dX6_fault_0 : decode cX6_fault 0 = .ok (.new 226, 3) := by decide +kernel
theorem dX6_fault_3 : decode cX6_fault 3 = .ok (.dup, 1) := by decide +kernel
theorem dX6_fault_4 : decode cX6_fault 4 = .ok (.aload_n 0, 1) := by decide +kernel
theorem dX6_fault_5 : decode cX6_fault 5 = .ok (.getfield 26, 3) := by decide +kernel
theorem dX6_fault_8 : decode cX6_fault 8 = .ok (.invokespecial 228, 3) := by decide +kernel
theorem dX6_fault_11 : decode cX6_fault 11 = .ok (.astore_n 1, 1) := by decide +kernel
theorem dX6_fault_12 : decode cX6_fault 12 = .ok (.aload_n 1, 1) := by decide +kernel
theorem dX6_fault_13 : decode cX6_fault 13 = .ok (.invokevirtual 231, 3) := by decide +kernel
theorem dX6_fault_16 : decode cX6_fault 16 = .ok (.ifCond .eq 8, 3) := by decide +kernel
theorem dX6_fault_19 : decode cX6_fault 19 = .ok (.bipush (-6), 2) := by decide +kernel
theorem dX6_fault_21 : decode cX6_fault 21 = .ok (.goto 7, 3) := by decide +kernel
theorem dX6_fault_24 : decode cX6_fault 24 = .ok (.aload_n 1, 1) := by decide +kernel
theorem dX6_fault_25 : decode cX6_fault 25 = .ok (.getfield 234, 3) := by decide +kernel
theorem dX6_fault_28 : decode cX6_fault 28 = .ok (.ireturn, 1) := by decide +kernel
theorem dX6_load_0 : decode cX6_load 0 = .ok (.new 226, 3) := by decide +kernel
theorem dX6_load_3 : decode cX6_load 3 = .ok (.dup, 1) := by decide +kernel
theorem dX6_load_4 : decode cX6_load 4 = .ok (.aload_n 0, 1) := by decide +kernel
theorem dX6_load_5 : decode cX6_load 5 = .ok (.getfield 26, 3) := by decide +kernel
theorem dX6_load_8 : decode cX6_load 8 = .ok (.invokespecial 228, 3) := by decide +kernel
theorem dX6_load_11 : decode cX6_load 11 = .ok (.astore_n 1, 1) := by decide +kernel
theorem dX6_load_12 : decode cX6_load 12 = .ok (.aload_n 1, 1) := by decide +kernel
theorem dX6_load_13 : decode cX6_load 13 = .ok (.invokevirtual 231, 3) := by decide +kernel
theorem dX6_load_16 : decode cX6_load 16 = .ok (.ifCond .ne 6, 3) := by decide +kernel
theorem dX6_load_19 : decode cX6_load 19 = .ok (.bipush (-3), 2) := by decide +kernel
theorem dX6_load_21 : decode cX6_load 21 = .ok (.ireturn, 1) := by decide +kernel
theorem dX6_load_22 : decode cX6_load 22 = .ok (.aload_n 0, 1) := by decide +kernel
theorem dX6_load_23 : decode cX6_load 23 = .ok (.aload_n 1, 1) := by decide +kernel
theorem dX6_load_24 : decode cX6_load 24 = .ok (.getfield 237, 3) := by decide +kernel
theorem dX6_load_27 : decode cX6_load 27 = .ok (.invokevirtual 52, 3) := by decide +kernel
theorem dX6_load_30 : decode cX6_load 30 = .ok (.istore_n 2, 1) := by decide +kernel
theorem dX6_load_31 : decode cX6_load 31 = .ok (.iload_n 2, 1) := by decide +kernel
theorem dX6_load_32 : decode cX6_load 32 = .ok (.ifCond .lt 11, 3) := by decide +kernel
theorem dX6_load_35 : decode cX6_load 35 = .ok (.aload_n 0, 1) := by decide +kernel
theorem dX6_load_36 : decode cX6_load 36 = .ok (.getfield 26, 3) := by decide +kernel
theorem dX6_load_39 : decode cX6_load 39 = .ok (.iconst 0, 1) := by decide +kernel
theorem dX6_load_40 : decode cX6_load 40 = .ok (.invokevirtual 222, 3) := by decide +kernel
theorem dX6_load_43 : decode cX6_load 43 = .ok (.iload_n 2, 1) := by decide +kernel
theorem dX6_load_44 : decode cX6_load 44 = .ok (.ireturn, 1) := by decide +kernel
theorem dX6_isState_0 : decode cX6_isState 0 = .ok (.iload_n 0, 1) := by decide +kernel
theorem dX6_isState_1 : decode cX6_isState 1 = .ok (.ifCond .lt 13, 3) := by decide +kernel
theorem dX6_isState_4 : decode cX6_isState 4 = .ok (.iload_n 0, 1) := by decide +kernel
theorem dX6_isState_5 : decode cX6_isState 5 = .ok (.bipush 7, 2) := by decide +kernel
theorem dX6_isState_7 : decode cX6_isState 7 = .ok (.if_icmp .gt 7, 3) := by decide +kernel
theorem dX6_isState_10 : decode cX6_isState 10 = .ok (.iconst 1, 1) := by decide +kernel
theorem dX6_isState_11 : decode cX6_isState 11 = .ok (.goto 4, 3) := by decide +kernel
theorem dX6_isState_14 : decode cX6_isState 14 = .ok (.iconst 0, 1) := by decide +kernel
theorem dX6_isState_15 : decode cX6_isState 15 = .ok (.ireturn, 1) := by decide +kernel
theorem dX6_isCall_0 : decode cX6_isCall 0 = .ok (.iload_n 0, 1) := by decide +kernel
theorem dX6_isCall_1 : decode cX6_isCall 1 = .ok (.ifCond .lt 13, 3) := by decide +kernel
theorem dX6_isCall_4 : decode cX6_isCall 4 = .ok (.iload_n 0, 1) := by decide +kernel
theorem dX6_isCall_5 : decode cX6_isCall 5 = .ok (.bipush 25, 2) := by decide +kernel
theorem dX6_isCall_7 : decode cX6_isCall 7 = .ok (.if_icmp .gt 7, 3) := by decide +kernel
theorem dX6_isCall_10 : decode cX6_isCall 10 = .ok (.iconst 1, 1) := by decide +kernel
theorem dX6_isCall_11 : decode cX6_isCall 11 = .ok (.goto 4, 3) := by decide +kernel
theorem dX6_isCall_14 : decode cX6_isCall 14 = .ok (.iconst 0, 1) := by decide +kernel
theorem dX6_isCall_15 : decode cX6_isCall 15 = .ok (.ireturn, 1) := by decide +kernel
theorem dX6_isFlag_0 : decode cX6_isFlag 0 = .ok (.iload_n 0, 1) := by decide +kernel
theorem dX6_isFlag_1 : decode cX6_isFlag 1 = .ok (.ifCond .eq 8, 3) := by decide +kernel
theorem dX6_isFlag_4 : decode cX6_isFlag 4 = .ok (.iload_n 0, 1) := by decide +kernel
theorem dX6_isFlag_5 : decode cX6_isFlag 5 = .ok (.iconst 1, 1) := by decide +kernel
theorem dX6_isFlag_6 : decode cX6_isFlag 6 = .ok (.if_icmp .ne 7, 3) := by decide +kernel
theorem dX6_isFlag_9 : decode cX6_isFlag 9 = .ok (.iconst 1, 1) := by decide +kernel
theorem dX6_isFlag_10 : decode cX6_isFlag 10 = .ok (.goto 4, 3) := by decide +kernel
theorem dX6_isFlag_13 : decode cX6_isFlag 13 = .ok (.iconst 0, 1) := by decide +kernel
theorem dX6_isFlag_14 : decode cX6_isFlag 14 = .ok (.ireturn, 1) := by decide +kernel
theorem dX6_isPartner_0 : decode cX6_isPartner 0 = .ok (.iload_n 0, 1) := by decide +kernel
theorem dX6_isPartner_1 : decode cX6_isPartner 1 = .ok (.ifCond .eq 8, 3) := by decide +kernel
theorem dX6_isPartner_4 : decode cX6_isPartner 4 = .ok (.iload_n 0, 1) := by decide +kernel
theorem dX6_isPartner_5 : decode cX6_isPartner 5 = .ok (.iconst 1, 1) := by decide +kernel
theorem dX6_isPartner_6 : decode cX6_isPartner 6 = .ok (.if_icmp .ne 7, 3) := by decide +kernel
theorem dX6_isPartner_9 : decode cX6_isPartner 9 = .ok (.iconst 1, 1) := by decide +kernel
theorem dX6_isPartner_10 : decode cX6_isPartner 10 = .ok (.goto 4, 3) := by decide +kernel
theorem dX6_isPartner_13 : decode cX6_isPartner 13 = .ok (.iconst 0, 1) := by decide +kernel
theorem dX6_isPartner_14 : decode cX6_isPartner 14 = .ok (.ireturn, 1) := by decide +kernel
theorem dX6_isStrain_0 : decode cX6_isStrain 0 = .ok (.iload_n 0, 1) := by decide +kernel
theorem dX6_isStrain_1 : decode cX6_isStrain 1 = .ok (.ifCond .lt 12, 3) := by decide +kernel
theorem dX6_isStrain_4 : decode cX6_isStrain 4 = .ok (.iload_n 0, 1) := by decide +kernel
theorem dX6_isStrain_5 : decode cX6_isStrain 5 = .ok (.iconst 4, 1) := by decide +kernel
theorem dX6_isStrain_6 : decode cX6_isStrain 6 = .ok (.if_icmp .gt 7, 3) := by decide +kernel
theorem dX6_isStrain_9 : decode cX6_isStrain 9 = .ok (.iconst 1, 1) := by decide +kernel
theorem dX6_isStrain_10 : decode cX6_isStrain 10 = .ok (.goto 4, 3) := by decide +kernel
theorem dX6_isStrain_13 : decode cX6_isStrain 13 = .ok (.iconst 0, 1) := by decide +kernel
theorem dX6_isStrain_14 : decode cX6_isStrain 14 = .ok (.ireturn, 1) := by decide +kernel
theorem dX6_isCharacter_0 : decode cX6_isCharacter 0 = .ok (.iload_n 0, 1) := by decide +kernel
theorem dX6_isCharacter_1 : decode cX6_isCharacter 1 = .ok (.bipush 33, 2) := by decide +kernel
theorem dX6_isCharacter_3 : decode cX6_isCharacter 3 = .ok (.if_icmp .lt 13, 3) := by decide +kernel
theorem dX6_isCharacter_6 : decode cX6_isCharacter 6 = .ok (.iload_n 0, 1) := by decide +kernel
theorem dX6_isCharacter_7 : decode cX6_isCharacter 7 = .ok (.bipush 126, 2) := by decide +kernel
theorem dX6_isCharacter_9 : decode cX6_isCharacter 9 = .ok (.if_icmp .gt 7, 3) := by decide +kernel
theorem dX6_isCharacter_12 : decode cX6_isCharacter 12 = .ok (.iconst 1, 1) := by decide +kernel
theorem dX6_isCharacter_13 : decode cX6_isCharacter 13 = .ok (.goto 4, 3) := by decide +kernel
theorem dX6_isCharacter_16 : decode cX6_isCharacter 16 = .ok (.iconst 0, 1) := by decide +kernel
theorem dX6_isCharacter_17 : decode cX6_isCharacter 17 = .ok (.ireturn, 1) := by decide +kernel
theorem dX6_isRule_0 : decode cX6_isRule 0 = .ok (.iload_n 1, 1) := by decide +kernel
theorem dX6_isRule_1 : decode cX6_isRule 1 = .ok (.ifCond .lt 18, 3) := by decide +kernel
theorem dX6_isRule_4 : decode cX6_isRule 4 = .ok (.iload_n 1, 1) := by decide +kernel
theorem dX6_isRule_5 : decode cX6_isRule 5 = .ok (.aload_n 0, 1) := by decide +kernel
theorem dX6_isRule_6 : decode cX6_isRule 6 = .ok (.getfield 12, 3) := by decide +kernel
theorem dX6_isRule_9 : decode cX6_isRule 9 = .ok (.invokevirtual 82, 3) := by decide +kernel
theorem dX6_isRule_12 : decode cX6_isRule 12 = .ok (.if_icmp .ge 7, 3) := by decide +kernel
theorem dX6_isRule_15 : decode cX6_isRule 15 = .ok (.iconst 1, 1) := by decide +kernel
theorem dX6_isRule_16 : decode cX6_isRule 16 = .ok (.goto 4, 3) := by decide +kernel
theorem dX6_isRule_19 : decode cX6_isRule 19 = .ok (.iconst 0, 1) := by decide +kernel
theorem dX6_isRule_20 : decode cX6_isRule 20 = .ok (.ireturn, 1) := by decide +kernel
theorem dX6_handOf_0 : decode cX6_handOf 0 = .ok (.iload_n 1, 1) := by decide +kernel
theorem dX6_handOf_1 : decode cX6_handOf 1 = .ok (.ifCond .ne 10, 3) := by decide +kernel
theorem dX6_handOf_4 : decode cX6_handOf 4 = .ok (.aload_n 0, 1) := by decide +kernel
theorem dX6_handOf_5 : decode cX6_handOf 5 = .ok (.getfield 30, 3) := by decide +kernel
theorem dX6_handOf_8 : decode cX6_handOf 8 = .ok (.goto 7, 3) := by decide +kernel
theorem dX6_handOf_11 : decode cX6_handOf 11 = .ok (.aload_n 0, 1) := by decide +kernel
theorem dX6_handOf_12 : decode cX6_handOf 12 = .ok (.getfield 34, 3) := by decide +kernel
theorem dX6_handOf_15 : decode cX6_handOf 15 = .ok (.ireturn, 1) := by decide +kernel
theorem dX6_addRule_0 : decode cX6_addRule 0 = .ok (.aload_n 0, 1) := by decide +kernel
theorem dX6_addRule_1 : decode cX6_addRule 1 = .ok (.getfield 12, 3) := by decide +kernel
theorem dX6_addRule_4 : decode cX6_addRule 4 = .ok (.invokevirtual 82, 3) := by decide +kernel
theorem dX6_addRule_7 : decode cX6_addRule 7 = .ok (.bipush 24, 2) := by decide +kernel
theorem dX6_addRule_9 : decode cX6_addRule 9 = .ok (.if_icmp .lt 6, 3) := by decide +kernel
theorem dX6_addRule_12 : decode cX6_addRule 12 = .ok (.bipush (-4), 2) := by decide +kernel
theorem dX6_addRule_14 : decode cX6_addRule 14 = .ok (.ireturn, 1) := by decide +kernel
theorem dX6_addRule_15 : decode cX6_addRule 15 = .ok (.iconst 0, 1) := by decide +kernel
theorem dX6_addRule_16 : decode cX6_addRule 16 = .ok (.istore_n 2, 1) := by decide +kernel
theorem dX6_addRule_17 : decode cX6_addRule 17 = .ok (.iload_n 2, 1) := by decide +kernel
theorem dX6_addRule_18 : decode cX6_addRule 18 = .ok (.aload_n 0, 1) := by decide +kernel
theorem dX6_addRule_19 : decode cX6_addRule 19 = .ok (.getfield 12, 3) := by decide +kernel
theorem dX6_addRule_22 : decode cX6_addRule 22 = .ok (.invokevirtual 82, 3) := by decide +kernel
theorem dX6_addRule_25 : decode cX6_addRule 25 = .ok (.if_icmp .ge 46, 3) := by decide +kernel
theorem dX6_addRule_28 : decode cX6_addRule 28 = .ok (.aload_n 0, 1) := by decide +kernel
theorem dX6_addRule_29 : decode cX6_addRule 29 = .ok (.getfield 12, 3) := by decide +kernel
theorem dX6_addRule_32 : decode cX6_addRule 32 = .ok (.iload_n 2, 1) := by decide +kernel
theorem dX6_addRule_33 : decode cX6_addRule 33 = .ok (.invokevirtual 65, 3) := by decide +kernel
theorem dX6_addRule_36 : decode cX6_addRule 36 = .ok (.checkcast 47, 3) := by decide +kernel
theorem dX6_addRule_39 : decode cX6_addRule 39 = .ok (.astore_n 3, 1) := by decide +kernel
theorem dX6_addRule_40 : decode cX6_addRule 40 = .ok (.aload_n 3, 1) := by decide +kernel
theorem dX6_addRule_41 : decode cX6_addRule 41 = .ok (.getfield 193, 3) := by decide +kernel
theorem dX6_addRule_44 : decode cX6_addRule 44 = .ok (.aload_n 1, 1) := by decide +kernel
theorem dX6_addRule_45 : decode cX6_addRule 45 = .ok (.getfield 193, 3) := by decide +kernel
theorem dX6_addRule_48 : decode cX6_addRule 48 = .ok (.if_icmp .ne 17, 3) := by decide +kernel
theorem dX6_addRule_51 : decode cX6_addRule 51 = .ok (.aload_n 3, 1) := by decide +kernel
theorem dX6_addRule_52 : decode cX6_addRule 52 = .ok (.getfield 90, 3) := by decide +kernel
theorem dX6_addRule_55 : decode cX6_addRule 55 = .ok (.aload_n 1, 1) := by decide +kernel
theorem dX6_addRule_56 : decode cX6_addRule 56 = .ok (.getfield 90, 3) := by decide +kernel
theorem dX6_addRule_59 : decode cX6_addRule 59 = .ok (.if_icmp .ne 6, 3) := by decide +kernel
theorem dX6_addRule_62 : decode cX6_addRule 62 = .ok (.bipush (-5), 2) := by decide +kernel
theorem dX6_addRule_64 : decode cX6_addRule 64 = .ok (.ireturn, 1) := by decide +kernel
theorem dX6_addRule_65 : decode cX6_addRule 65 = .ok (.iinc 2 1, 3) := by decide +kernel
theorem dX6_addRule_68 : decode cX6_addRule 68 = .ok (.goto (-51), 3) := by decide +kernel
theorem dX6_addRule_71 : decode cX6_addRule 71 = .ok (.aload_n 0, 1) := by decide +kernel
theorem dX6_addRule_72 : decode cX6_addRule 72 = .ok (.getfield 12, 3) := by decide +kernel
theorem dX6_addRule_75 : decode cX6_addRule 75 = .ok (.aload_n 1, 1) := by decide +kernel
theorem dX6_addRule_76 : decode cX6_addRule 76 = .ok (.invokevirtual 241, 3) := by decide +kernel
theorem dX6_addRule_79 : decode cX6_addRule 79 = .ok (.pop, 1) := by decide +kernel
theorem dX6_addRule_80 : decode cX6_addRule 80 = .ok (.aload_n 0, 1) := by decide +kernel
theorem dX6_addRule_81 : decode cX6_addRule 81 = .ok (.getfield 19, 3) := by decide +kernel
theorem dX6_addRule_84 : decode cX6_addRule 84 = .ok (.invokevirtual 73, 3) := by decide +kernel
theorem dX6_addRule_87 : decode cX6_addRule 87 = .ok (.aload_n 0, 1) := by decide +kernel
theorem dX6_addRule_88 : decode cX6_addRule 88 = .ok (.getfield 12, 3) := by decide +kernel
theorem dX6_addRule_91 : decode cX6_addRule 91 = .ok (.invokevirtual 82, 3) := by decide +kernel
theorem dX6_addRule_94 : decode cX6_addRule 94 = .ok (.iconst 1, 1) := by decide +kernel
theorem dX6_addRule_95 : decode cX6_addRule 95 = .ok (.isub, 1) := by decide +kernel
theorem dX6_addRule_96 : decode cX6_addRule 96 = .ok (.ireturn, 1) := by decide +kernel
theorem dX6_firstRule_0 : decode cX6_firstRule 0 = .ok (.iconst 0, 1) := by decide +kernel
theorem dX6_firstRule_1 : decode cX6_firstRule 1 = .ok (.istore_n 3, 1) := by decide +kernel
theorem dX6_firstRule_2 : decode cX6_firstRule 2 = .ok (.iload_n 3, 1) := by decide +kernel
theorem dX6_firstRule_3 : decode cX6_firstRule 3 = .ok (.aload_n 0, 1) := by decide +kernel
theorem dX6_firstRule_4 : decode cX6_firstRule 4 = .ok (.getfield 12, 3) := by decide +kernel
theorem dX6_firstRule_7 : decode cX6_firstRule 7 = .ok (.invokevirtual 82, 3) := by decide +kernel
theorem dX6_firstRule_10 : decode cX6_firstRule 10 = .ok (.if_icmp .ge 42, 3) := by decide +kernel
theorem dX6_firstRule_13 : decode cX6_firstRule 13 = .ok (.aload_n 0, 1) := by decide +kernel
theorem dX6_firstRule_14 : decode cX6_firstRule 14 = .ok (.getfield 12, 3) := by decide +kernel
theorem dX6_firstRule_17 : decode cX6_firstRule 17 = .ok (.iload_n 3, 1) := by decide +kernel
theorem dX6_firstRule_18 : decode cX6_firstRule 18 = .ok (.invokevirtual 65, 3) := by decide +kernel
theorem dX6_firstRule_21 : decode cX6_firstRule 21 = .ok (.checkcast 47, 3) := by decide +kernel
theorem dX6_firstRule_24 : decode cX6_firstRule 24 = .ok (.astore 4, 2) := by decide +kernel
theorem dX6_firstRule_26 : decode cX6_firstRule 26 = .ok (.aload 4, 2) := by decide +kernel
theorem dX6_firstRule_28 : decode cX6_firstRule 28 = .ok (.aload_n 1, 1) := by decide +kernel
theorem dX6_firstRule_29 : decode cX6_firstRule 29 = .ok (.invokevirtual 244, 3) := by decide +kernel
theorem dX6_firstRule_32 : decode cX6_firstRule 32 = .ok (.ifCond .eq 14, 3) := by decide +kernel
theorem dX6_firstRule_35 : decode cX6_firstRule 35 = .ok (.aload 4, 2) := by decide +kernel
theorem dX6_firstRule_37 : decode cX6_firstRule 37 = .ok (.iload_n 2, 1) := by decide +kernel
theorem dX6_firstRule_38 : decode cX6_firstRule 38 = .ok (.invokevirtual 248, 3) := by decide +kernel
theorem dX6_firstRule_41 : decode cX6_firstRule 41 = .ok (.ifCond .eq 5, 3) := by decide +kernel
theorem dX6_firstRule_44 : decode cX6_firstRule 44 = .ok (.iload_n 3, 1) := by decide +kernel
theorem dX6_firstRule_45 : decode cX6_firstRule 45 = .ok (.ireturn, 1) := by decide +kernel
theorem dX6_firstRule_46 : decode cX6_firstRule 46 = .ok (.iinc 3 1, 3) := by decide +kernel
theorem dX6_firstRule_49 : decode cX6_firstRule 49 = .ok (.goto (-47), 3) := by decide +kernel
theorem dX6_firstRule_52 : decode cX6_firstRule 52 = .ok (.bipush (-6), 2) := by decide +kernel
theorem dX6_firstRule_54 : decode cX6_firstRule 54 = .ok (.ireturn, 1) := by decide +kernel
theorem dX6_openRule_0 : decode cX6_openRule 0 = .ok (.iconst 0, 1) := by decide +kernel
theorem dX6_openRule_1 : decode cX6_openRule 1 = .ok (.istore_n 2, 1) := by decide +kernel
theorem dX6_openRule_2 : decode cX6_openRule 2 = .ok (.iload_n 2, 1) := by decide +kernel
theorem dX6_openRule_3 : decode cX6_openRule 3 = .ok (.aload_n 0, 1) := by decide +kernel
theorem dX6_openRule_4 : decode cX6_openRule 4 = .ok (.getfield 12, 3) := by decide +kernel
theorem dX6_openRule_7 : decode cX6_openRule 7 = .ok (.invokevirtual 82, 3) := by decide +kernel
theorem dX6_openRule_10 : decode cX6_openRule 10 = .ok (.if_icmp .ge 45, 3) := by decide +kernel
theorem dX6_openRule_13 : decode cX6_openRule 13 = .ok (.aload_n 0, 1) := by decide +kernel
theorem dX6_openRule_14 : decode cX6_openRule 14 = .ok (.getfield 12, 3) := by decide +kernel
theorem dX6_openRule_17 : decode cX6_openRule 17 = .ok (.iload_n 2, 1) := by decide +kernel
theorem dX6_openRule_18 : decode cX6_openRule 18 = .ok (.invokevirtual 65, 3) := by decide +kernel
theorem dX6_openRule_21 : decode cX6_openRule 21 = .ok (.checkcast 47, 3) := by decide +kernel
theorem dX6_openRule_24 : decode cX6_openRule 24 = .ok (.astore_n 3, 1) := by decide +kernel
theorem dX6_openRule_25 : decode cX6_openRule 25 = .ok (.aload_n 3, 1) := by decide +kernel
theorem dX6_openRule_26 : decode cX6_openRule 26 = .ok (.getfield 90, 3) := by decide +kernel
theorem dX6_openRule_29 : decode cX6_openRule 29 = .ok (.iload_n 1, 1) := by decide +kernel
theorem dX6_openRule_30 : decode cX6_openRule 30 = .ok (.if_icmp .ne 19, 3) := by decide +kernel
theorem dX6_openRule_33 : decode cX6_openRule 33 = .ok (.aload_n 3, 1) := by decide +kernel
theorem dX6_openRule_34 : decode cX6_openRule 34 = .ok (.aload_n 0, 1) := by decide +kernel
theorem dX6_openRule_35 : decode cX6_openRule 35 = .ok (.getfield 19, 3) := by decide +kernel
theorem dX6_openRule_38 : decode cX6_openRule 38 = .ok (.getfield 122, 3) := by decide +kernel
theorem dX6_openRule_41 : decode cX6_openRule 41 = .ok (.invokevirtual 244, 3) := by decide +kernel
theorem dX6_openRule_44 : decode cX6_openRule 44 = .ok (.ifCond .eq 5, 3) := by decide +kernel
theorem dX6_openRule_47 : decode cX6_openRule 47 = .ok (.iload_n 2, 1) := by decide +kernel
theorem dX6_openRule_48 : decode cX6_openRule 48 = .ok (.ireturn, 1) := by decide +kernel
theorem dX6_openRule_49 : decode cX6_openRule 49 = .ok (.iinc 2 1, 3) := by decide +kernel
theorem dX6_openRule_52 : decode cX6_openRule 52 = .ok (.goto (-50), 3) := by decide +kernel
theorem dX6_openRule_55 : decode cX6_openRule 55 = .ok (.bipush (-6), 2) := by decide +kernel
theorem dX6_openRule_57 : decode cX6_openRule 57 = .ok (.ireturn, 1) := by decide +kernel
theorem dX6_countAdmitted_0 : decode cX6_countAdmitted 0 = .ok (.iconst 0, 1) := by decide +kernel
theorem dX6_countAdmitted_1 : decode cX6_countAdmitted 1 = .ok (.istore_n 2, 1) := by decide +kernel
theorem dX6_countAdmitted_2 : decode cX6_countAdmitted 2 = .ok (.iconst 0, 1) := by decide +kernel
theorem dX6_countAdmitted_3 : decode cX6_countAdmitted 3 = .ok (.istore_n 3, 1) := by decide +kernel
theorem dX6_countAdmitted_4 : decode cX6_countAdmitted 4 = .ok (.bipush 31, 2) := by decide +kernel
theorem dX6_countAdmitted_6 : decode cX6_countAdmitted 6 = .ok (.istore 4, 2) := by decide +kernel
theorem dX6_countAdmitted_8 : decode cX6_countAdmitted 8 = .ok (.iload_n 3, 1) := by decide +kernel
theorem dX6_countAdmitted_9 : decode cX6_countAdmitted 9 = .ok (.sipush 15504, 3) := by decide +kernel
theorem dX6_countAdmitted_12 : decode cX6_countAdmitted 12 = .ok (.if_icmp .ge 31, 3) := by decide +kernel
theorem dX6_countAdmitted_15 : decode cX6_countAdmitted 15 = .ok (.aload_n 1, 1) := by decide +kernel
theorem dX6_countAdmitted_16 : decode cX6_countAdmitted 16 = .ok (.iload 4, 2) := by decide +kernel
theorem dX6_countAdmitted_18 : decode cX6_countAdmitted 18 = .ok (.invokestatic 129, 3) := by decide +kernel
theorem dX6_countAdmitted_21 : decode cX6_countAdmitted 21 = .ok (.invokevirtual 248, 3) := by decide +kernel
theorem dX6_countAdmitted_24 : decode cX6_countAdmitted 24 = .ok (.ifCond .eq 6, 3) := by decide +kernel
theorem dX6_countAdmitted_27 : decode cX6_countAdmitted 27 = .ok (.iinc 2 1, 3) := by decide +kernel
theorem dX6_countAdmitted_30 : decode cX6_countAdmitted 30 = .ok (.iinc 3 1, 3) := by decide +kernel
theorem dX6_countAdmitted_33 : decode cX6_countAdmitted 33 = .ok (.iload 4, 2) := by decide +kernel
theorem dX6_countAdmitted_35 : decode cX6_countAdmitted 35 = .ok (.invokestatic 186, 3) := by decide +kernel
theorem dX6_countAdmitted_38 : decode cX6_countAdmitted 38 = .ok (.istore 4, 2) := by decide +kernel
theorem dX6_countAdmitted_40 : decode cX6_countAdmitted 40 = .ok (.goto (-32), 3) := by decide +kernel
theorem dX6_countAdmitted_43 : decode cX6_countAdmitted 43 = .ok (.iload_n 2, 1) := by decide +kernel
theorem dX6_countAdmitted_44 : decode cX6_countAdmitted 44 = .ok (.ireturn, 1) := by decide +kernel
theorem dX6_countWithRule_0 : decode cX6_countWithRule 0 = .ok (.iconst 0, 1) := by decide +kernel
theorem dX6_countWithRule_1 : decode cX6_countWithRule 1 = .ok (.istore_n 3, 1) := by decide +kernel
theorem dX6_countWithRule_2 : decode cX6_countWithRule 2 = .ok (.iconst 0, 1) := by decide +kernel
theorem dX6_countWithRule_3 : decode cX6_countWithRule 3 = .ok (.istore 4, 2) := by decide +kernel
theorem dX6_countWithRule_5 : decode cX6_countWithRule 5 = .ok (.bipush 31, 2) := by decide +kernel
theorem dX6_countWithRule_7 : decode cX6_countWithRule 7 = .ok (.istore 5, 2) := by decide +kernel
theorem dX6_countWithRule_9 : decode cX6_countWithRule 9 = .ok (.iload 4, 2) := by decide +kernel
theorem dX6_countWithRule_11 : decode cX6_countWithRule 11 = .ok (.sipush 15504, 3) := by decide +kernel
theorem dX6_countWithRule_14 : decode cX6_countWithRule 14 = .ok (.if_icmp .ge 33, 3) := by decide +kernel
theorem dX6_countWithRule_17 : decode cX6_countWithRule 17 = .ok (.aload_n 0, 1) := by decide +kernel
theorem dX6_countWithRule_18 : decode cX6_countWithRule 18 = .ok (.aload_n 1, 1) := by decide +kernel
theorem dX6_countWithRule_19 : decode cX6_countWithRule 19 = .ok (.iload 5, 2) := by decide +kernel
theorem dX6_countWithRule_21 : decode cX6_countWithRule 21 = .ok (.invokestatic 129, 3) := by decide +kernel
theorem dX6_countWithRule_24 : decode cX6_countWithRule 24 = .ok (.invokevirtual 132, 3) := by decide +kernel
theorem dX6_countWithRule_27 : decode cX6_countWithRule 27 = .ok (.iload_n 2, 1) := by decide +kernel
theorem dX6_countWithRule_28 : decode cX6_countWithRule 28 = .ok (.if_icmp .ne 6, 3) := by decide +kernel
theorem dX6_countWithRule_31 : decode cX6_countWithRule 31 = .ok (.iinc 3 1, 3) := by decide +kernel
theorem dX6_countWithRule_34 : decode cX6_countWithRule 34 = .ok (.iinc 4 1, 3) := by decide +kernel
theorem dX6_countWithRule_37 : decode cX6_countWithRule 37 = .ok (.iload 5, 2) := by decide +kernel
theorem dX6_countWithRule_39 : decode cX6_countWithRule 39 = .ok (.invokestatic 186, 3) := by decide +kernel
theorem dX6_countWithRule_42 : decode cX6_countWithRule 42 = .ok (.istore 5, 2) := by decide +kernel
theorem dX6_countWithRule_44 : decode cX6_countWithRule 44 = .ok (.goto (-35), 3) := by decide +kernel
theorem dX6_countWithRule_47 : decode cX6_countWithRule 47 = .ok (.iload_n 3, 1) := by decide +kernel
theorem dX6_countWithRule_48 : decode cX6_countWithRule 48 = .ok (.ireturn, 1) := by decide +kernel
theorem dX6_fitsAuction_0 : decode cX6_fitsAuction 0 = .ok (.iload_n 2, 1) := by decide +kernel
theorem dX6_fitsAuction_1 : decode cX6_fitsAuction 1 = .ok (.invokestatic 129, 3) := by decide +kernel
theorem dX6_fitsAuction_4 : decode cX6_fitsAuction 4 = .ok (.istore_n 3, 1) := by decide +kernel
theorem dX6_fitsAuction_5 : decode cX6_fitsAuction 5 = .ok (.iload_n 1, 1) := by decide +kernel
theorem dX6_fitsAuction_6 : decode cX6_fitsAuction 6 = .ok (.istore 4, 2) := by decide +kernel
theorem dX6_fitsAuction_8 : decode cX6_fitsAuction 8 = .ok (.iload 4, 2) := by decide +kernel
theorem dX6_fitsAuction_10 : decode cX6_fitsAuction 10 = .ok (.aload_n 0, 1) := by decide +kernel
theorem dX6_fitsAuction_11 : decode cX6_fitsAuction 11 = .ok (.getfield 19, 3) := by decide +kernel
theorem dX6_fitsAuction_14 : decode cX6_fitsAuction 14 = .ok (.getfield 115, 3) := by decide +kernel
theorem dX6_fitsAuction_17 : decode cX6_fitsAuction 17 = .ok (.invokevirtual 82, 3) := by decide +kernel
theorem dX6_fitsAuction_20 : decode cX6_fitsAuction 20 = .ok (.if_icmp .ge 46, 3) := by decide +kernel
theorem dX6_fitsAuction_23 : decode cX6_fitsAuction 23 = .ok (.aload_n 0, 1) := by decide +kernel
theorem dX6_fitsAuction_24 : decode cX6_fitsAuction 24 = .ok (.getfield 19, 3) := by decide +kernel
theorem dX6_fitsAuction_27 : decode cX6_fitsAuction 27 = .ok (.getfield 115, 3) := by decide +kernel
theorem dX6_fitsAuction_30 : decode cX6_fitsAuction 30 = .ok (.iload 4, 2) := by decide +kernel
theorem dX6_fitsAuction_32 : decode cX6_fitsAuction 32 = .ok (.invokevirtual 65, 3) := by decide +kernel
theorem dX6_fitsAuction_35 : decode cX6_fitsAuction 35 = .ok (.checkcast 149, 3) := by decide +kernel
theorem dX6_fitsAuction_38 : decode cX6_fitsAuction 38 = .ok (.astore 5, 2) := by decide +kernel
theorem dX6_fitsAuction_40 : decode cX6_fitsAuction 40 = .ok (.aload_n 0, 1) := by decide +kernel
theorem dX6_fitsAuction_41 : decode cX6_fitsAuction 41 = .ok (.aload 5, 2) := by decide +kernel
theorem dX6_fitsAuction_43 : decode cX6_fitsAuction 43 = .ok (.getfield 251, 3) := by decide +kernel
theorem dX6_fitsAuction_46 : decode cX6_fitsAuction 46 = .ok (.iload_n 3, 1) := by decide +kernel
theorem dX6_fitsAuction_47 : decode cX6_fitsAuction 47 = .ok (.invokevirtual 132, 3) := by decide +kernel
theorem dX6_fitsAuction_50 : decode cX6_fitsAuction 50 = .ok (.aload 5, 2) := by decide +kernel
theorem dX6_fitsAuction_52 : decode cX6_fitsAuction 52 = .ok (.getfield 254, 3) := by decide +kernel
theorem dX6_fitsAuction_55 : decode cX6_fitsAuction 55 = .ok (.if_icmp .eq 5, 3) := by decide +kernel
theorem dX6_fitsAuction_58 : decode cX6_fitsAuction 58 = .ok (.iconst 0, 1) := by decide +kernel
theorem dX6_fitsAuction_59 : decode cX6_fitsAuction 59 = .ok (.ireturn, 1) := by decide +kernel
theorem dX6_fitsAuction_60 : decode cX6_fitsAuction 60 = .ok (.iinc 4 2, 3) := by decide +kernel
theorem dX6_fitsAuction_63 : decode cX6_fitsAuction 63 = .ok (.goto (-55), 3) := by decide +kernel
theorem dX6_fitsAuction_66 : decode cX6_fitsAuction 66 = .ok (.aload_n 0, 1) := by decide +kernel
theorem dX6_fitsAuction_67 : decode cX6_fitsAuction 67 = .ok (.getfield 19, 3) := by decide +kernel
theorem dX6_fitsAuction_70 : decode cX6_fitsAuction 70 = .ok (.getfield 136, 3) := by decide +kernel
theorem dX6_fitsAuction_73 : decode cX6_fitsAuction 73 = .ok (.ifCond .eq 37, 3) := by decide +kernel
theorem dX6_fitsAuction_76 : decode cX6_fitsAuction 76 = .ok (.aload_n 0, 1) := by decide +kernel
theorem dX6_fitsAuction_77 : decode cX6_fitsAuction 77 = .ok (.getfield 19, 3) := by decide +kernel
theorem dX6_fitsAuction_80 : decode cX6_fitsAuction 80 = .ok (.invokevirtual 126, 3) := by decide +kernel
theorem dX6_fitsAuction_83 : decode cX6_fitsAuction 83 = .ok (.iload_n 1, 1) := by decide +kernel
theorem dX6_fitsAuction_84 : decode cX6_fitsAuction 84 = .ok (.if_icmp .ne 26, 3) := by decide +kernel
theorem dX6_fitsAuction_87 : decode cX6_fitsAuction 87 = .ok (.aload_n 0, 1) := by decide +kernel
theorem dX6_fitsAuction_88 : decode cX6_fitsAuction 88 = .ok (.aload_n 0, 1) := by decide +kernel
theorem dX6_fitsAuction_89 : decode cX6_fitsAuction 89 = .ok (.getfield 19, 3) := by decide +kernel
theorem dX6_fitsAuction_92 : decode cX6_fitsAuction 92 = .ok (.getfield 122, 3) := by decide +kernel
theorem dX6_fitsAuction_95 : decode cX6_fitsAuction 95 = .ok (.iload_n 3, 1) := by decide +kernel
theorem dX6_fitsAuction_96 : decode cX6_fitsAuction 96 = .ok (.invokevirtual 132, 3) := by decide +kernel
theorem dX6_fitsAuction_99 : decode cX6_fitsAuction 99 = .ok (.bipush (-6), 2) := by decide +kernel
theorem dX6_fitsAuction_101 : decode cX6_fitsAuction 101 = .ok (.if_icmp .ne 7, 3) := by decide +kernel
theorem dX6_fitsAuction_104 : decode cX6_fitsAuction 104 = .ok (.iconst 1, 1) := by decide +kernel
theorem dX6_fitsAuction_105 : decode cX6_fitsAuction 105 = .ok (.goto 4, 3) := by decide +kernel
theorem dX6_fitsAuction_108 : decode cX6_fitsAuction 108 = .ok (.iconst 0, 1) := by decide +kernel
theorem dX6_fitsAuction_109 : decode cX6_fitsAuction 109 = .ok (.ireturn, 1) := by decide +kernel
theorem dX6_fitsAuction_110 : decode cX6_fitsAuction 110 = .ok (.iconst 1, 1) := by decide +kernel
theorem dX6_fitsAuction_111 : decode cX6_fitsAuction 111 = .ok (.ireturn, 1) := by decide +kernel
theorem dX6_isHidden_0 : decode cX6_isHidden 0 = .ok (.iload_n 3, 1) := by decide +kernel
theorem dX6_isHidden_1 : decode cX6_isHidden 1 = .ok (.iload_n 2, 1) := by decide +kernel
theorem dX6_isHidden_2 : decode cX6_isHidden 2 = .ok (.iand, 1) := by decide +kernel
theorem dX6_isHidden_3 : decode cX6_isHidden 3 = .ok (.ifCond .ne 16, 3) := by decide +kernel
theorem dX6_isHidden_6 : decode cX6_isHidden 6 = .ok (.aload_n 0, 1) := by decide +kernel
theorem dX6_isHidden_7 : decode cX6_isHidden 7 = .ok (.iload_n 1, 1) := by decide +kernel
theorem dX6_isHidden_8 : decode cX6_isHidden 8 = .ok (.iload_n 3, 1) := by decide +kernel
theorem dX6_isHidden_9 : decode cX6_isHidden 9 = .ok (.invokevirtual 189, 3) := by decide +kernel
theorem dX6_isHidden_12 : decode cX6_isHidden 12 = .ok (.ifCond .eq 7, 3) := by decide +kernel
theorem dX6_isHidden_15 : decode cX6_isHidden 15 = .ok (.iconst 1, 1) := by decide +kernel
theorem dX6_isHidden_16 : decode cX6_isHidden 16 = .ok (.goto 4, 3) := by decide +kernel
theorem dX6_isHidden_19 : decode cX6_isHidden 19 = .ok (.iconst 0, 1) := by decide +kernel
theorem dX6_isHidden_20 : decode cX6_isHidden 20 = .ok (.ireturn, 1) := by decide +kernel
theorem dX6_countHidden_0 : decode cX6_countHidden 0 = .ok (.iconst 0, 1) := by decide +kernel
theorem dX6_countHidden_1 : decode cX6_countHidden 1 = .ok (.istore_n 3, 1) := by decide +kernel
theorem dX6_countHidden_2 : decode cX6_countHidden 2 = .ok (.iconst 0, 1) := by decide +kernel
theorem dX6_countHidden_3 : decode cX6_countHidden 3 = .ok (.istore 4, 2) := by decide +kernel
theorem dX6_countHidden_5 : decode cX6_countHidden 5 = .ok (.bipush 31, 2) := by decide +kernel
theorem dX6_countHidden_7 : decode cX6_countHidden 7 = .ok (.istore 5, 2) := by decide +kernel
theorem dX6_countHidden_9 : decode cX6_countHidden 9 = .ok (.iload 4, 2) := by decide +kernel
theorem dX6_countHidden_11 : decode cX6_countHidden 11 = .ok (.sipush 15504, 3) := by decide +kernel
theorem dX6_countHidden_14 : decode cX6_countHidden 14 = .ok (.if_icmp .ge 30, 3) := by decide +kernel
theorem dX6_countHidden_17 : decode cX6_countHidden 17 = .ok (.aload_n 0, 1) := by decide +kernel
theorem dX6_countHidden_18 : decode cX6_countHidden 18 = .ok (.iload_n 1, 1) := by decide +kernel
theorem dX6_countHidden_19 : decode cX6_countHidden 19 = .ok (.iload_n 2, 1) := by decide +kernel
theorem dX6_countHidden_20 : decode cX6_countHidden 20 = .ok (.iload 5, 2) := by decide +kernel
theorem dX6_countHidden_22 : decode cX6_countHidden 22 = .ok (.invokevirtual 175, 3) := by decide +kernel
theorem dX6_countHidden_25 : decode cX6_countHidden 25 = .ok (.ifCond .eq 6, 3) := by decide +kernel
theorem dX6_countHidden_28 : decode cX6_countHidden 28 = .ok (.iinc 3 1, 3) := by decide +kernel
theorem dX6_countHidden_31 : decode cX6_countHidden 31 = .ok (.iinc 4 1, 3) := by decide +kernel
theorem dX6_countHidden_34 : decode cX6_countHidden 34 = .ok (.iload 5, 2) := by decide +kernel
theorem dX6_countHidden_36 : decode cX6_countHidden 36 = .ok (.invokestatic 186, 3) := by decide +kernel
theorem dX6_countHidden_39 : decode cX6_countHidden 39 = .ok (.istore 5, 2) := by decide +kernel
theorem dX6_countHidden_41 : decode cX6_countHidden 41 = .ok (.goto (-32), 3) := by decide +kernel
theorem dX6_countHidden_44 : decode cX6_countHidden 44 = .ok (.iload_n 3, 1) := by decide +kernel
theorem dX6_countHidden_45 : decode cX6_countHidden 45 = .ok (.ireturn, 1) := by decide +kernel
theorem dX6_sumOfTricks_0 : decode cX6_sumOfTricks 0 = .ok (.aload_n 0, 1) := by decide +kernel
theorem dX6_sumOfTricks_1 : decode cX6_sumOfTricks 1 = .ok (.iload_n 1, 1) := by decide +kernel
theorem dX6_sumOfTricks_2 : decode cX6_sumOfTricks 2 = .ok (.invokevirtual 102, 3) := by decide +kernel
theorem dX6_sumOfTricks_5 : decode cX6_sumOfTricks 5 = .ok (.istore_n 3, 1) := by decide +kernel
theorem dX6_sumOfTricks_6 : decode cX6_sumOfTricks 6 = .ok (.lconst 0, 1) := by decide +kernel
theorem dX6_sumOfTricks_7 : decode cX6_sumOfTricks 7 = .ok (.lstore 4, 2) := by decide +kernel
theorem dX6_sumOfTricks_9 : decode cX6_sumOfTricks 9 = .ok (.iconst 0, 1) := by decide +kernel
theorem dX6_sumOfTricks_10 : decode cX6_sumOfTricks 10 = .ok (.istore 6, 2) := by decide +kernel
theorem dX6_sumOfTricks_12 : decode cX6_sumOfTricks 12 = .ok (.bipush 31, 2) := by decide +kernel
theorem dX6_sumOfTricks_14 : decode cX6_sumOfTricks 14 = .ok (.istore 7, 2) := by decide +kernel
theorem dX6_sumOfTricks_16 : decode cX6_sumOfTricks 16 = .ok (.iload 6, 2) := by decide +kernel
theorem dX6_sumOfTricks_18 : decode cX6_sumOfTricks 18 = .ok (.sipush 15504, 3) := by decide +kernel
theorem dX6_sumOfTricks_21 : decode cX6_sumOfTricks 21 = .ok (.if_icmp .ge 42, 3) := by decide +kernel
theorem dX6_sumOfTricks_24 : decode cX6_sumOfTricks 24 = .ok (.aload_n 0, 1) := by decide +kernel
theorem dX6_sumOfTricks_25 : decode cX6_sumOfTricks 25 = .ok (.iconst 1, 1) := by decide +kernel
theorem dX6_sumOfTricks_26 : decode cX6_sumOfTricks 26 = .ok (.iload_n 1, 1) := by decide +kernel
theorem dX6_sumOfTricks_27 : decode cX6_sumOfTricks 27 = .ok (.isub, 1) := by decide +kernel
theorem dX6_sumOfTricks_28 : decode cX6_sumOfTricks 28 = .ok (.iload_n 3, 1) := by decide +kernel
theorem dX6_sumOfTricks_29 : decode cX6_sumOfTricks 29 = .ok (.iload 7, 2) := by decide +kernel
theorem dX6_sumOfTricks_31 : decode cX6_sumOfTricks 31 = .ok (.invokevirtual 175, 3) := by decide +kernel
theorem dX6_sumOfTricks_34 : decode cX6_sumOfTricks 34 = .ok (.ifCond .eq 16, 3) := by decide +kernel
theorem dX6_sumOfTricks_37 : decode cX6_sumOfTricks 37 = .ok (.lload 4, 2) := by decide +kernel
theorem dX6_sumOfTricks_39 : decode cX6_sumOfTricks 39 = .ok (.iload_n 2, 1) := by decide +kernel
theorem dX6_sumOfTricks_40 : decode cX6_sumOfTricks 40 = .ok (.iload_n 3, 1) := by decide +kernel
theorem dX6_sumOfTricks_41 : decode cX6_sumOfTricks 41 = .ok (.iload 7, 2) := by decide +kernel
theorem dX6_sumOfTricks_43 : decode cX6_sumOfTricks 43 = .ok (.invokestatic 202, 3) := by decide +kernel
theorem dX6_sumOfTricks_46 : decode cX6_sumOfTricks 46 = .ok (.i2l, 1) := by decide +kernel
theorem dX6_sumOfTricks_47 : decode cX6_sumOfTricks 47 = .ok (.ladd, 1) := by decide +kernel
theorem dX6_sumOfTricks_48 : decode cX6_sumOfTricks 48 = .ok (.lstore 4, 2) := by decide +kernel
theorem dX6_sumOfTricks_50 : decode cX6_sumOfTricks 50 = .ok (.iinc 6 1, 3) := by decide +kernel
theorem dX6_sumOfTricks_53 : decode cX6_sumOfTricks 53 = .ok (.iload 7, 2) := by decide +kernel
theorem dX6_sumOfTricks_55 : decode cX6_sumOfTricks 55 = .ok (.invokestatic 186, 3) := by decide +kernel
theorem dX6_sumOfTricks_58 : decode cX6_sumOfTricks 58 = .ok (.istore 7, 2) := by decide +kernel
theorem dX6_sumOfTricks_60 : decode cX6_sumOfTricks 60 = .ok (.goto (-44), 3) := by decide +kernel
theorem dX6_sumOfTricks_63 : decode cX6_sumOfTricks 63 = .ok (.lload 4, 2) := by decide +kernel
theorem dX6_sumOfTricks_65 : decode cX6_sumOfTricks 65 = .ok (.lreturn, 1) := by decide +kernel
theorem dX7_init_0 : decode cX7_init 0 = .ok (.aload_n 0, 1) := by decide +kernel
theorem dX7_init_1 : decode cX7_init 1 = .ok (.invokespecial 1, 3) := by decide +kernel
theorem dX7_init_4 : decode cX7_init 4 = .ok (.aload_n 0, 1) := by decide +kernel
theorem dX7_init_5 : decode cX7_init 5 = .ok (.sipush 336, 3) := by decide +kernel
theorem dX7_init_8 : decode cX7_init 8 = .ok (.newarray .int, 2) := by decide +kernel
theorem dX7_init_10 : decode cX7_init 10 = .ok (.putfield 7, 3) := by decide +kernel
theorem dX7_init_13 : decode cX7_init 13 = .ok (.aload_n 0, 1) := by decide +kernel
theorem dX7_init_14 : decode cX7_init 14 = .ok (.iconst 2, 1) := by decide +kernel
theorem dX7_init_15 : decode cX7_init 15 = .ok (.newarray .int, 2) := by decide +kernel
theorem dX7_init_17 : decode cX7_init 17 = .ok (.putfield 13, 3) := by decide +kernel
theorem dX7_init_20 : decode cX7_init 20 = .ok (.aload_n 0, 1) := by decide +kernel
theorem dX7_init_21 : decode cX7_init 21 = .ok (.bipush 32, 2) := by decide +kernel
theorem dX7_init_23 : decode cX7_init 23 = .ok (.newarray .int, 2) := by decide +kernel
theorem dX7_init_25 : decode cX7_init 25 = .ok (.putfield 16, 3) := by decide +kernel
theorem dX7_init_28 : decode cX7_init 28 = .ok (.aload_n 0, 1) := by decide +kernel
theorem dX7_init_29 : decode cX7_init 29 = .ok (.bipush 32, 2) := by decide +kernel
theorem dX7_init_31 : decode cX7_init 31 = .ok (.newarray .int, 2) := by decide +kernel
theorem dX7_init_33 : decode cX7_init 33 = .ok (.putfield 19, 3) := by decide +kernel
theorem dX7_init_36 : decode cX7_init 36 = .ok (.aload_n 0, 1) := by decide +kernel
theorem dX7_init_37 : decode cX7_init 37 = .ok (.bipush 12, 2) := by decide +kernel
theorem dX7_init_39 : decode cX7_init 39 = .ok (.newarray .int, 2) := by decide +kernel
theorem dX7_init_41 : decode cX7_init 41 = .ok (.putfield 22, 3) := by decide +kernel
theorem dX7_init_44 : decode cX7_init 44 = .ok (.aload_n 0, 1) := by decide +kernel
theorem dX7_init_45 : decode cX7_init 45 = .ok (.bipush 12, 2) := by decide +kernel
theorem dX7_init_47 : decode cX7_init 47 = .ok (.newarray .int, 2) := by decide +kernel
theorem dX7_init_49 : decode cX7_init 49 = .ok (.putfield 25, 3) := by decide +kernel
theorem dX7_init_52 : decode cX7_init 52 = .ok (.aload_n 0, 1) := by decide +kernel
theorem dX7_init_53 : decode cX7_init 53 = .ok (.bipush 13, 2) := by decide +kernel
theorem dX7_init_55 : decode cX7_init 55 = .ok (.newarray .int, 2) := by decide +kernel
theorem dX7_init_57 : decode cX7_init 57 = .ok (.putfield 28, 3) := by decide +kernel
theorem dX7_init_60 : decode cX7_init 60 = .ok (.aload_n 0, 1) := by decide +kernel
theorem dX7_init_61 : decode cX7_init 61 = .ok (.bipush 13, 2) := by decide +kernel
theorem dX7_init_63 : decode cX7_init 63 = .ok (.newarray .int, 2) := by decide +kernel
theorem dX7_init_65 : decode cX7_init 65 = .ok (.putfield 31, 3) := by decide +kernel
theorem dX7_init_68 : decode cX7_init 68 = .ok (.aload_n 0, 1) := by decide +kernel
theorem dX7_init_69 : decode cX7_init 69 = .ok (.bipush 13, 2) := by decide +kernel
theorem dX7_init_71 : decode cX7_init 71 = .ok (.newarray .int, 2) := by decide +kernel
theorem dX7_init_73 : decode cX7_init 73 = .ok (.putfield 34, 3) := by decide +kernel
theorem dX7_init_76 : decode cX7_init 76 = .ok (.aload_n 0, 1) := by decide +kernel
theorem dX7_init_77 : decode cX7_init 77 = .ok (.bipush 60, 2) := by decide +kernel
theorem dX7_init_79 : decode cX7_init 79 = .ok (.newarray .int, 2) := by decide +kernel
theorem dX7_init_81 : decode cX7_init 81 = .ok (.putfield 37, 3) := by decide +kernel
theorem dX7_init_84 : decode cX7_init 84 = .ok (.aload_n 0, 1) := by decide +kernel
theorem dX7_init_85 : decode cX7_init 85 = .ok (.bipush 14, 2) := by decide +kernel
theorem dX7_init_87 : decode cX7_init 87 = .ok (.newarray .int, 2) := by decide +kernel
theorem dX7_init_89 : decode cX7_init 89 = .ok (.putfield 40, 3) := by decide +kernel
theorem dX7_init_92 : decode cX7_init 92 = .ok (.aload_n 0, 1) := by decide +kernel
theorem dX7_init_93 : decode cX7_init 93 = .ok (.iconst 5, 1) := by decide +kernel
theorem dX7_init_94 : decode cX7_init 94 = .ok (.newarray .long, 2) := by decide +kernel
theorem dX7_init_96 : decode cX7_init 96 = .ok (.putfield 43, 3) := by decide +kernel
theorem dX7_init_99 : decode cX7_init 99 = .ok (.aload_n 0, 1) := by decide +kernel
theorem dX7_init_100 : decode cX7_init 100 = .ok (.getfield 13, 3) := by decide +kernel
theorem dX7_init_103 : decode cX7_init 103 = .ok (.iconst 0, 1) := by decide +kernel
theorem dX7_init_104 : decode cX7_init 104 = .ok (.bipush 31, 2) := by decide +kernel
theorem dX7_init_106 : decode cX7_init 106 = .ok (.iastore, 1) := by decide +kernel
theorem dX7_init_107 : decode cX7_init 107 = .ok (.aload_n 0, 1) := by decide +kernel
theorem dX7_init_108 : decode cX7_init 108 = .ok (.getfield 13, 3) := by decide +kernel
theorem dX7_init_111 : decode cX7_init 111 = .ok (.iconst 1, 1) := by decide +kernel
theorem dX7_init_112 : decode cX7_init 112 = .ok (.sipush 992, 3) := by decide +kernel
theorem dX7_init_115 : decode cX7_init 115 = .ok (.iastore, 1) := by decide +kernel
theorem dX7_init_116 : decode cX7_init 116 = .ok (.iconst 0, 1) := by decide +kernel
theorem dX7_init_117 : decode cX7_init 117 = .ok (.istore_n 1, 1) := by decide +kernel
theorem dX7_init_118 : decode cX7_init 118 = .ok (.iload_n 1, 1) := by decide +kernel
theorem dX7_init_119 : decode cX7_init 119 = .ok (.bipush 32, 2) := by decide +kernel
theorem dX7_init_121 : decode cX7_init 121 = .ok (.if_icmp .ge 52, 3) := by decide +kernel
theorem dX7_init_124 : decode cX7_init 124 = .ok (.iconst 0, 1) := by decide +kernel
theorem dX7_init_125 : decode cX7_init 125 = .ok (.istore_n 2, 1) := by decide +kernel
theorem dX7_init_126 : decode cX7_init 126 = .ok (.iload_n 2, 1) := by decide +kernel
theorem dX7_init_127 : decode cX7_init 127 = .ok (.iconst 5, 1) := by decide +kernel
theorem dX7_init_128 : decode cX7_init 128 = .ok (.if_icmp .ge 39, 3) := by decide +kernel
theorem dX7_init_131 : decode cX7_init 131 = .ok (.aload_n 0, 1) := by decide +kernel
theorem dX7_init_132 : decode cX7_init 132 = .ok (.getfield 16, 3) := by decide +kernel
theorem dX7_init_135 : decode cX7_init 135 = .ok (.iload_n 1, 1) := by decide +kernel
theorem dX7_init_136 : decode cX7_init 136 = .ok (.dup2, 1) := by decide +kernel
theorem dX7_init_137 : decode cX7_init 137 = .ok (.iaload, 1) := by decide +kernel
theorem dX7_init_138 : decode cX7_init 138 = .ok (.iload_n 1, 1) := by decide +kernel
theorem dX7_init_139 : decode cX7_init 139 = .ok (.iload_n 2, 1) := by decide +kernel
theorem dX7_init_140 : decode cX7_init 140 = .ok (.ishr, 1) := by decide +kernel
theorem dX7_init_141 : decode cX7_init 141 = .ok (.iconst 1, 1) := by decide +kernel
theorem dX7_init_142 : decode cX7_init 142 = .ok (.iand, 1) := by decide +kernel
theorem dX7_init_143 : decode cX7_init 143 = .ok (.iadd, 1) := by decide +kernel
theorem dX7_init_144 : decode cX7_init 144 = .ok (.iastore, 1) := by decide +kernel
theorem dX7_init_145 : decode cX7_init 145 = .ok (.aload_n 0, 1) := by decide +kernel
theorem dX7_init_146 : decode cX7_init 146 = .ok (.getfield 19, 3) := by decide +kernel
theorem dX7_init_149 : decode cX7_init 149 = .ok (.iload_n 1, 1) := by decide +kernel
theorem dX7_init_150 : decode cX7_init 150 = .ok (.dup2, 1) := by decide +kernel
theorem dX7_init_151 : decode cX7_init 151 = .ok (.iaload, 1) := by decide +kernel
theorem dX7_init_152 : decode cX7_init 152 = .ok (.iload_n 1, 1) := by decide +kernel
theorem dX7_init_153 : decode cX7_init 153 = .ok (.iload_n 2, 1) := by decide +kernel
theorem dX7_init_154 : decode cX7_init 154 = .ok (.ishr, 1) := by decide +kernel
theorem dX7_init_155 : decode cX7_init 155 = .ok (.iconst 1, 1) := by decide +kernel
theorem dX7_init_156 : decode cX7_init 156 = .ok (.iand, 1) := by decide +kernel
theorem dX7_init_157 : decode cX7_init 157 = .ok (.iload_n 2, 1) := by decide +kernel
theorem dX7_init_158 : decode cX7_init 158 = .ok (.imul, 1) := by decide +kernel
theorem dX7_init_159 : decode cX7_init 159 = .ok (.iadd, 1) := by decide +kernel
theorem dX7_init_160 : decode cX7_init 160 = .ok (.iastore, 1) := by decide +kernel
theorem dX7_init_161 : decode cX7_init 161 = .ok (.iinc 2 1, 3) := by decide +kernel
theorem dX7_init_164 : decode cX7_init 164 = .ok (.goto (-38), 3) := by decide +kernel
theorem dX7_init_167 : decode cX7_init 167 = .ok (.iinc 1 1, 3) := by decide +kernel
theorem dX7_init_170 : decode cX7_init 170 = .ok (.goto (-52), 3) := by decide +kernel
theorem dX7_init_173 : decode cX7_init 173 = .ok (.aload_n 0, 1) := by decide +kernel
theorem dX7_init_174 : decode cX7_init 174 = .ok (.invokevirtual 47, 3) := by decide +kernel
theorem dX7_init_177 : decode cX7_init 177 = .ok (.return_, 1) := by decide +kernel
theorem dX7_in_0 : decode cX7_in 0 = .ok (.iload_n 0, 1) := by decide +kernel
theorem dX7_in_1 : decode cX7_in 1 = .ok (.iload_n 1, 1) := by decide +kernel
theorem dX7_in_2 : decode cX7_in 2 = .ok (.if_icmp .lt 12, 3) := by decide +kernel
theorem dX7_in_5 : decode cX7_in 5 = .ok (.iload_n 0, 1) := by decide +kernel
theorem dX7_in_6 : decode cX7_in 6 = .ok (.iload_n 2, 1) := by decide +kernel
theorem dX7_in_7 : decode cX7_in 7 = .ok (.if_icmp .gt 7, 3) := by decide +kernel
theorem dX7_in_10 : decode cX7_in 10 = .ok (.iconst 1, 1) := by decide +kernel
theorem dX7_in_11 : decode cX7_in 11 = .ok (.goto 4, 3) := by decide +kernel
theorem dX7_in_14 : decode cX7_in 14 = .ok (.iconst 0, 1) := by decide +kernel
theorem dX7_in_15 : decode cX7_in 15 = .ok (.ireturn, 1) := by decide +kernel
theorem dX7_length_0 : decode cX7_length 0 = .ok (.aload_n 0, 1) := by decide +kernel
theorem dX7_length_1 : decode cX7_length 1 = .ok (.getfield 16, 3) := by decide +kernel
theorem dX7_length_4 : decode cX7_length 4 = .ok (.iload_n 1, 1) := by decide +kernel
theorem dX7_length_5 : decode cX7_length 5 = .ok (.iconst 5, 1) := by decide +kernel
theorem dX7_length_6 : decode cX7_length 6 = .ok (.iload_n 2, 1) := by decide +kernel
theorem dX7_length_7 : decode cX7_length 7 = .ok (.imul, 1) := by decide +kernel
theorem dX7_length_8 : decode cX7_length 8 = .ok (.ishr, 1) := by decide +kernel
theorem dX7_length_9 : decode cX7_length 9 = .ok (.bipush 31, 2) := by decide +kernel
theorem dX7_length_11 : decode cX7_length 11 = .ok (.iand, 1) := by decide +kernel
theorem dX7_length_12 : decode cX7_length 12 = .ok (.iaload, 1) := by decide +kernel
theorem dX7_length_13 : decode cX7_length 13 = .ok (.ireturn, 1) := by decide +kernel
theorem dX7_strength_0 : decode cX7_strength 0 = .ok (.iconst 0, 1) := by decide +kernel
theorem dX7_strength_1 : decode cX7_strength 1 = .ok (.istore_n 2, 1) := by decide +kernel
theorem dX7_strength_2 : decode cX7_strength 2 = .ok (.iconst 0, 1) := by decide +kernel
theorem dX7_strength_3 : decode cX7_strength 3 = .ok (.istore_n 3, 1) := by decide +kernel
theorem dX7_strength_4 : decode cX7_strength 4 = .ok (.iload_n 3, 1) := by decide +kernel
theorem dX7_strength_5 : decode cX7_strength 5 = .ok (.iconst 4, 1) := by decide +kernel
theorem dX7_strength_6 : decode cX7_strength 6 = .ok (.if_icmp .ge 25, 3) := by decide +kernel
theorem dX7_strength_9 : decode cX7_strength 9 = .ok (.iload_n 2, 1) := by decide +kernel
theorem dX7_strength_10 : decode cX7_strength 10 = .ok (.aload_n 0, 1) := by decide +kernel
theorem dX7_strength_11 : decode cX7_strength 11 = .ok (.getfield 19, 3) := by decide +kernel
theorem dX7_strength_14 : decode cX7_strength 14 = .ok (.iload_n 1, 1) := by decide +kernel
theorem dX7_strength_15 : decode cX7_strength 15 = .ok (.iconst 5, 1) := by decide +kernel
theorem dX7_strength_16 : decode cX7_strength 16 = .ok (.iload_n 3, 1) := by decide +kernel
theorem dX7_strength_17 : decode cX7_strength 17 = .ok (.imul, 1) := by decide +kernel
theorem dX7_strength_18 : decode cX7_strength 18 = .ok (.ishr, 1) := by decide +kernel
theorem dX7_strength_19 : decode cX7_strength 19 = .ok (.bipush 31, 2) := by decide +kernel
theorem dX7_strength_21 : decode cX7_strength 21 = .ok (.iand, 1) := by decide +kernel
theorem dX7_strength_22 : decode cX7_strength 22 = .ok (.iaload, 1) := by decide +kernel
theorem dX7_strength_23 : decode cX7_strength 23 = .ok (.iadd, 1) := by decide +kernel
theorem dX7_strength_24 : decode cX7_strength 24 = .ok (.istore_n 2, 1) := by decide +kernel
theorem dX7_strength_25 : decode cX7_strength 25 = .ok (.iinc 3 1, 3) := by decide +kernel
theorem dX7_strength_28 : decode cX7_strength 28 = .ok (.goto (-24), 3) := by decide +kernel
theorem dX7_strength_31 : decode cX7_strength 31 = .ok (.iload_n 2, 1) := by decide +kernel
theorem dX7_strength_32 : decode cX7_strength 32 = .ok (.ireturn, 1) := by decide +kernel
theorem dX7_size_0 : decode cX7_size 0 = .ok (.iconst 0, 1) := by decide +kernel
theorem dX7_size_1 : decode cX7_size 1 = .ok (.istore_n 2, 1) := by decide +kernel
theorem dX7_size_2 : decode cX7_size 2 = .ok (.iconst 0, 1) := by decide +kernel
theorem dX7_size_3 : decode cX7_size 3 = .ok (.istore_n 3, 1) := by decide +kernel
theorem dX7_size_4 : decode cX7_size 4 = .ok (.iload_n 3, 1) := by decide +kernel
theorem dX7_size_5 : decode cX7_size 5 = .ok (.iconst 4, 1) := by decide +kernel
theorem dX7_size_6 : decode cX7_size 6 = .ok (.if_icmp .ge 18, 3) := by decide +kernel
theorem dX7_size_9 : decode cX7_size 9 = .ok (.iload_n 2, 1) := by decide +kernel
theorem dX7_size_10 : decode cX7_size 10 = .ok (.aload_n 0, 1) := by decide +kernel
theorem dX7_size_11 : decode cX7_size 11 = .ok (.iload_n 1, 1) := by decide +kernel
theorem dX7_size_12 : decode cX7_size 12 = .ok (.iload_n 3, 1) := by decide +kernel
theorem dX7_size_13 : decode cX7_size 13 = .ok (.invokevirtual 50, 3) := by decide +kernel
theorem dX7_size_16 : decode cX7_size 16 = .ok (.iadd, 1) := by decide +kernel
theorem dX7_size_17 : decode cX7_size 17 = .ok (.istore_n 2, 1) := by decide +kernel
theorem dX7_size_18 : decode cX7_size 18 = .ok (.iinc 3 1, 3) := by decide +kernel
theorem dX7_size_21 : decode cX7_size 21 = .ok (.goto (-17), 3) := by decide +kernel
theorem dX7_size_24 : decode cX7_size 24 = .ok (.iload_n 2, 1) := by decide +kernel
theorem dX7_size_25 : decode cX7_size 25 = .ok (.ireturn, 1) := by decide +kernel
theorem dX7_isHand_0 : decode cX7_isHand 0 = .ok (.iload_n 1, 1) := by decide +kernel
theorem dX7_isHand_1 : decode cX7_isHand 1 = .ok (.iconst 0, 1) := by decide +kernel
theorem dX7_isHand_2 : decode cX7_isHand 2 = .ok (.ldc 54, 2) := by decide +kernel
theorem dX7_isHand_4 : decode cX7_isHand 4 = .ok (.invokestatic 55, 3) := by decide +kernel
theorem dX7_isHand_7 : decode cX7_isHand 7 = .ok (.ifCond .eq 16, 3) := by decide +kernel
theorem dX7_isHand_10 : decode cX7_isHand 10 = .ok (.aload_n 0, 1) := by decide +kernel
theorem dX7_isHand_11 : decode cX7_isHand 11 = .ok (.iload_n 1, 1) := by decide +kernel
theorem dX7_isHand_12 : decode cX7_isHand 12 = .ok (.invokevirtual 59, 3) := by decide +kernel
theorem dX7_isHand_15 : decode cX7_isHand 15 = .ok (.iconst 5, 1) := by decide +kernel
theorem dX7_isHand_16 : decode cX7_isHand 16 = .ok (.if_icmp .ne 7, 3) := by decide +kernel
theorem dX7_isHand_19 : decode cX7_isHand 19 = .ok (.iconst 1, 1) := by decide +kernel
theorem dX7_isHand_20 : decode cX7_isHand 20 = .ok (.goto 4, 3) := by decide +kernel
theorem dX7_isHand_23 : decode cX7_isHand 23 = .ok (.iconst 0, 1) := by decide +kernel
theorem dX7_isHand_24 : decode cX7_isHand 24 = .ok (.ireturn, 1) := by decide +kernel
theorem dX7_nextHand_0 : decode cX7_nextHand 0 = .ok (.iload_n 0, 1) := by decide +kernel
theorem dX7_nextHand_1 : decode cX7_nextHand 1 = .ok (.iload_n 0, 1) := by decide +kernel
theorem dX7_nextHand_2 : decode cX7_nextHand 2 = .ok (.ineg, 1) := by decide +kernel
theorem dX7_nextHand_3 : decode cX7_nextHand 3 = .ok (.iand, 1) := by decide +kernel
theorem dX7_nextHand_4 : decode cX7_nextHand 4 = .ok (.istore_n 1, 1) := by decide +kernel
theorem dX7_nextHand_5 : decode cX7_nextHand 5 = .ok (.iload_n 0, 1) := by decide +kernel
theorem dX7_nextHand_6 : decode cX7_nextHand 6 = .ok (.iload_n 1, 1) := by decide +kernel
theorem dX7_nextHand_7 : decode cX7_nextHand 7 = .ok (.iadd, 1) := by decide +kernel
theorem dX7_nextHand_8 : decode cX7_nextHand 8 = .ok (.istore_n 2, 1) := by decide +kernel
theorem dX7_nextHand_9 : decode cX7_nextHand 9 = .ok (.iload_n 2, 1) := by decide +kernel
theorem dX7_nextHand_10 : decode cX7_nextHand 10 = .ok (.iload_n 0, 1) := by decide +kernel
theorem dX7_nextHand_11 : decode cX7_nextHand 11 = .ok (.iload_n 2, 1) := by decide +kernel
theorem dX7_nextHand_12 : decode cX7_nextHand 12 = .ok (.ixor, 1) := by decide +kernel
theorem dX7_nextHand_13 : decode cX7_nextHand 13 = .ok (.iload_n 1, 1) := by decide +kernel
theorem dX7_nextHand_14 : decode cX7_nextHand 14 = .ok (.idiv, 1) := by decide +kernel
theorem dX7_nextHand_15 : decode cX7_nextHand 15 = .ok (.iconst 2, 1) := by decide +kernel
theorem dX7_nextHand_16 : decode cX7_nextHand 16 = .ok (.ishr, 1) := by decide +kernel
theorem dX7_nextHand_17 : decode cX7_nextHand 17 = .ok (.ior, 1) := by decide +kernel
theorem dX7_nextHand_18 : decode cX7_nextHand 18 = .ok (.ireturn, 1) := by decide +kernel
theorem dX7_of_0 : decode cX7_of 0 = .ok (.aload_n 0, 1) := by decide +kernel
theorem dX7_of_1 : decode cX7_of 1 = .ok (.getfield 7, 3) := by decide +kernel
theorem dX7_of_4 : decode cX7_of 4 = .ok (.bipush 14, 2) := by decide +kernel
theorem dX7_of_6 : decode cX7_of 6 = .ok (.iload_n 1, 1) := by decide +kernel
theorem dX7_of_7 : decode cX7_of 7 = .ok (.imul, 1) := by decide +kernel
theorem dX7_of_8 : decode cX7_of 8 = .ok (.iload_n 2, 1) := by decide +kernel
theorem dX7_of_9 : decode cX7_of 9 = .ok (.iadd, 1) := by decide +kernel
theorem dX7_of_10 : decode cX7_of 10 = .ok (.iaload, 1) := by decide +kernel
theorem dX7_of_11 : decode cX7_of 11 = .ok (.ireturn, 1) := by decide +kernel
theorem dX7_isRule_0 : decode cX7_isRule 0 = .ok (.iload_n 1, 1) := by decide +kernel
theorem dX7_isRule_1 : decode cX7_isRule 1 = .ok (.iconst 0, 1) := by decide +kernel
theorem dX7_isRule_2 : decode cX7_isRule 2 = .ok (.aload_n 0, 1) := by decide +kernel
theorem dX7_isRule_3 : decode cX7_isRule 3 = .ok (.getfield 63, 3) := by decide +kernel
theorem dX7_isRule_6 : decode cX7_isRule 6 = .ok (.iconst 1, 1) := by decide +kernel
theorem dX7_isRule_7 : decode cX7_isRule 7 = .ok (.isub, 1) := by decide +kernel
theorem dX7_isRule_8 : decode cX7_isRule 8 = .ok (.invokestatic 55, 3) := by decide +kernel
theorem dX7_isRule_11 : decode cX7_isRule 11 = .ok (.ireturn, 1) := by decide +kernel
theorem dX7_anew_0 : decode cX7_anew 0 = .ok (.aload_n 0, 1) := by decide +kernel
theorem dX7_anew_1 : decode cX7_anew 1 = .ok (.iconst 0, 1) := by decide +kernel
theorem dX7_anew_2 : decode cX7_anew 2 = .ok (.putfield 67, 3) := by decide +kernel
theorem dX7_anew_5 : decode cX7_anew 5 = .ok (.aload_n 0, 1) := by decide +kernel
theorem dX7_anew_6 : decode cX7_anew 6 = .ok (.iconst 0, 1) := by decide +kernel
theorem dX7_anew_7 : decode cX7_anew 7 = .ok (.putfield 70, 3) := by decide +kernel
theorem dX7_anew_10 : decode cX7_anew 10 = .ok (.aload_n 0, 1) := by decide +kernel
theorem dX7_anew_11 : decode cX7_anew 11 = .ok (.getfield 28, 3) := by decide +kernel
theorem dX7_anew_14 : decode cX7_anew 14 = .ok (.iconst 0, 1) := by decide +kernel
theorem dX7_anew_15 : decode cX7_anew 15 = .ok (.iconst 0, 1) := by decide +kernel
theorem dX7_anew_16 : decode cX7_anew 16 = .ok (.iastore, 1) := by decide +kernel
theorem dX7_anew_17 : decode cX7_anew 17 = .ok (.aload_n 0, 1) := by decide +kernel
theorem dX7_anew_18 : decode cX7_anew 18 = .ok (.getfield 31, 3) := by decide +kernel
theorem dX7_anew_21 : decode cX7_anew 21 = .ok (.iconst 0, 1) := by decide +kernel
theorem dX7_anew_22 : decode cX7_anew 22 = .ok (.iconst 0, 1) := by decide +kernel
theorem dX7_anew_23 : decode cX7_anew 23 = .ok (.iastore, 1) := by decide +kernel
theorem dX7_anew_24 : decode cX7_anew 24 = .ok (.aload_n 0, 1) := by decide +kernel
theorem dX7_anew_25 : decode cX7_anew 25 = .ok (.getfield 34, 3) := by decide +kernel
theorem dX7_anew_28 : decode cX7_anew 28 = .ok (.iconst 0, 1) := by decide +kernel
theorem dX7_anew_29 : decode cX7_anew 29 = .ok (.bipush (-6), 2) := by decide +kernel
theorem dX7_anew_31 : decode cX7_anew 31 = .ok (.iastore, 1) := by decide +kernel
theorem dX7_anew_32 : decode cX7_anew 32 = .ok (.return_, 1) := by decide +kernel
theorem dX7_fitsRule_0 : decode cX7_fitsRule 0 = .ok (.aload_n 0, 1) := by decide +kernel
theorem dX7_fitsRule_1 : decode cX7_fitsRule 1 = .ok (.iload_n 1, 1) := by decide +kernel
theorem dX7_fitsRule_2 : decode cX7_fitsRule 2 = .ok (.invokevirtual 74, 3) := by decide +kernel
theorem dX7_fitsRule_5 : decode cX7_fitsRule 5 = .ok (.aload_n 0, 1) := by decide +kernel
theorem dX7_fitsRule_6 : decode cX7_fitsRule 6 = .ok (.iload_n 2, 1) := by decide +kernel
theorem dX7_fitsRule_7 : decode cX7_fitsRule 7 = .ok (.bipush 12, 2) := by decide +kernel
theorem dX7_fitsRule_9 : decode cX7_fitsRule 9 = .ok (.invokevirtual 77, 3) := by decide +kernel
theorem dX7_fitsRule_12 : decode cX7_fitsRule 12 = .ok (.aload_n 0, 1) := by decide +kernel
theorem dX7_fitsRule_13 : decode cX7_fitsRule 13 = .ok (.iload_n 2, 1) := by decide +kernel
theorem dX7_fitsRule_14 : decode cX7_fitsRule 14 = .ok (.bipush 13, 2) := by decide +kernel
theorem dX7_fitsRule_16 : decode cX7_fitsRule 16 = .ok (.invokevirtual 77, 3) := by decide +kernel
theorem dX7_fitsRule_19 : decode cX7_fitsRule 19 = .ok (.invokestatic 55, 3) := by decide +kernel
theorem dX7_fitsRule_22 : decode cX7_fitsRule 22 = .ok (.istore_n 3, 1) := by decide +kernel
theorem dX7_fitsRule_23 : decode cX7_fitsRule 23 = .ok (.iconst 0, 1) := by decide +kernel
theorem dX7_fitsRule_24 : decode cX7_fitsRule 24 = .ok (.istore 4, 2) := by decide +kernel
theorem dX7_fitsRule_26 : decode cX7_fitsRule 26 = .ok (.iload 4, 2) := by decide +kernel
theorem dX7_fitsRule_28 : decode cX7_fitsRule 28 = .ok (.iconst 4, 1) := by decide +kernel
theorem dX7_fitsRule_29 : decode cX7_fitsRule 29 = .ok (.if_icmp .ge 48, 3) := by decide +kernel
theorem dX7_fitsRule_32 : decode cX7_fitsRule 32 = .ok (.iload_n 3, 1) := by decide +kernel
theorem dX7_fitsRule_33 : decode cX7_fitsRule 33 = .ok (.ifCond .eq 44, 3) := by decide +kernel
theorem dX7_fitsRule_36 : decode cX7_fitsRule 36 = .ok (.aload_n 0, 1) := by decide +kernel
theorem dX7_fitsRule_37 : decode cX7_fitsRule 37 = .ok (.iload_n 1, 1) := by decide +kernel
theorem dX7_fitsRule_38 : decode cX7_fitsRule 38 = .ok (.iload 4, 2) := by decide +kernel
theorem dX7_fitsRule_40 : decode cX7_fitsRule 40 = .ok (.invokevirtual 50, 3) := by decide +kernel
theorem dX7_fitsRule_43 : decode cX7_fitsRule 43 = .ok (.aload_n 0, 1) := by decide +kernel
theorem dX7_fitsRule_44 : decode cX7_fitsRule 44 = .ok (.iload_n 2, 1) := by decide +kernel
theorem dX7_fitsRule_45 : decode cX7_fitsRule 45 = .ok (.iconst 4, 1) := by decide +kernel
theorem dX7_fitsRule_46 : decode cX7_fitsRule 46 = .ok (.iconst 2, 1) := by decide +kernel
theorem dX7_fitsRule_47 : decode cX7_fitsRule 47 = .ok (.iload 4, 2) := by decide +kernel
theorem dX7_fitsRule_49 : decode cX7_fitsRule 49 = .ok (.imul, 1) := by decide +kernel
theorem dX7_fitsRule_50 : decode cX7_fitsRule 50 = .ok (.iadd, 1) := by decide +kernel
theorem dX7_fitsRule_51 : decode cX7_fitsRule 51 = .ok (.invokevirtual 77, 3) := by decide +kernel
theorem dX7_fitsRule_54 : decode cX7_fitsRule 54 = .ok (.aload_n 0, 1) := by decide +kernel
theorem dX7_fitsRule_55 : decode cX7_fitsRule 55 = .ok (.iload_n 2, 1) := by decide +kernel
theorem dX7_fitsRule_56 : decode cX7_fitsRule 56 = .ok (.iconst 4, 1) := by decide +kernel
theorem dX7_fitsRule_57 : decode cX7_fitsRule 57 = .ok (.iconst 2, 1) := by decide +kernel
theorem dX7_fitsRule_58 : decode cX7_fitsRule 58 = .ok (.iload 4, 2) := by decide +kernel
theorem dX7_fitsRule_60 : decode cX7_fitsRule 60 = .ok (.imul, 1) := by decide +kernel
theorem dX7_fitsRule_61 : decode cX7_fitsRule 61 = .ok (.iadd, 1) := by decide +kernel
theorem dX7_fitsRule_62 : decode cX7_fitsRule 62 = .ok (.iconst 1, 1) := by decide +kernel
theorem dX7_fitsRule_63 : decode cX7_fitsRule 63 = .ok (.iadd, 1) := by decide +kernel
theorem dX7_fitsRule_64 : decode cX7_fitsRule 64 = .ok (.invokevirtual 77, 3) := by decide +kernel
theorem dX7_fitsRule_67 : decode cX7_fitsRule 67 = .ok (.invokestatic 55, 3) := by decide +kernel
theorem dX7_fitsRule_70 : decode cX7_fitsRule 70 = .ok (.istore_n 3, 1) := by decide +kernel
theorem dX7_fitsRule_71 : decode cX7_fitsRule 71 = .ok (.iinc 4 1, 3) := by decide +kernel
theorem dX7_fitsRule_74 : decode cX7_fitsRule 74 = .ok (.goto (-48), 3) := by decide +kernel
theorem dX7_fitsRule_77 : decode cX7_fitsRule 77 = .ok (.iload_n 3, 1) := by decide +kernel
theorem dX7_fitsRule_78 : decode cX7_fitsRule 78 = .ok (.ireturn, 1) := by decide +kernel
theorem dX7_isThere_0 : decode cX7_isThere 0 = .ok (.iconst 0, 1) := by decide +kernel
theorem dX7_isThere_1 : decode cX7_isThere 1 = .ok (.istore_n 3, 1) := by decide +kernel
theorem dX7_isThere_2 : decode cX7_isThere 2 = .ok (.iconst 0, 1) := by decide +kernel
theorem dX7_isThere_3 : decode cX7_isThere 3 = .ok (.istore 4, 2) := by decide +kernel
theorem dX7_isThere_5 : decode cX7_isThere 5 = .ok (.iload 4, 2) := by decide +kernel
theorem dX7_isThere_7 : decode cX7_isThere 7 = .ok (.aload_n 0, 1) := by decide +kernel
theorem dX7_isThere_8 : decode cX7_isThere 8 = .ok (.getfield 63, 3) := by decide +kernel
theorem dX7_isThere_11 : decode cX7_isThere 11 = .ok (.if_icmp .ge 41, 3) := by decide +kernel
theorem dX7_isThere_14 : decode cX7_isThere 14 = .ok (.iload_n 3, 1) := by decide +kernel
theorem dX7_isThere_15 : decode cX7_isThere 15 = .ok (.ifCond .ne 25, 3) := by decide +kernel
theorem dX7_isThere_18 : decode cX7_isThere 18 = .ok (.aload_n 0, 1) := by decide +kernel
theorem dX7_isThere_19 : decode cX7_isThere 19 = .ok (.iload 4, 2) := by decide +kernel
theorem dX7_isThere_21 : decode cX7_isThere 21 = .ok (.iconst 0, 1) := by decide +kernel
theorem dX7_isThere_22 : decode cX7_isThere 22 = .ok (.invokevirtual 77, 3) := by decide +kernel
theorem dX7_isThere_25 : decode cX7_isThere 25 = .ok (.iload_n 1, 1) := by decide +kernel
theorem dX7_isThere_26 : decode cX7_isThere 26 = .ok (.if_icmp .ne 18, 3) := by decide +kernel
theorem dX7_isThere_29 : decode cX7_isThere 29 = .ok (.aload_n 0, 1) := by decide +kernel
theorem dX7_isThere_30 : decode cX7_isThere 30 = .ok (.iload 4, 2) := by decide +kernel
theorem dX7_isThere_32 : decode cX7_isThere 32 = .ok (.iconst 1, 1) := by decide +kernel
theorem dX7_isThere_33 : decode cX7_isThere 33 = .ok (.invokevirtual 77, 3) := by decide +kernel
theorem dX7_isThere_36 : decode cX7_isThere 36 = .ok (.iload_n 2, 1) := by decide +kernel
theorem dX7_isThere_37 : decode cX7_isThere 37 = .ok (.if_icmp .ne 7, 3) := by decide +kernel
theorem dX7_isThere_40 : decode cX7_isThere 40 = .ok (.iconst 1, 1) := by decide +kernel
theorem dX7_isThere_41 : decode cX7_isThere 41 = .ok (.goto 4, 3) := by decide +kernel
theorem dX7_isThere_44 : decode cX7_isThere 44 = .ok (.iconst 0, 1) := by decide +kernel
theorem dX7_isThere_45 : decode cX7_isThere 45 = .ok (.istore_n 3, 1) := by decide +kernel
theorem dX7_isThere_46 : decode cX7_isThere 46 = .ok (.iinc 4 1, 3) := by decide +kernel
theorem dX7_isThere_49 : decode cX7_isThere 49 = .ok (.goto (-44), 3) := by decide +kernel
theorem dX7_isThere_52 : decode cX7_isThere 52 = .ok (.iload_n 3, 1) := by decide +kernel
theorem dX7_isThere_53 : decode cX7_isThere 53 = .ok (.ireturn, 1) := by decide +kernel
theorem dX7_clearFresh_0 : decode cX7_clearFresh 0 = .ok (.iconst 4, 1) := by decide +kernel
theorem dX7_clearFresh_1 : decode cX7_clearFresh 1 = .ok (.istore_n 1, 1) := by decide +kernel
theorem dX7_clearFresh_2 : decode cX7_clearFresh 2 = .ok (.iload_n 1, 1) := by decide +kernel
theorem dX7_clearFresh_3 : decode cX7_clearFresh 3 = .ok (.bipush 14, 2) := by decide +kernel
theorem dX7_clearFresh_5 : decode cX7_clearFresh 5 = .ok (.if_icmp .ge 37, 3) := by decide +kernel
theorem dX7_clearFresh_8 : decode cX7_clearFresh 8 = .ok (.aload_n 0, 1) := by decide +kernel
theorem dX7_clearFresh_9 : decode cX7_clearFresh 9 = .ok (.getfield 40, 3) := by decide +kernel
theorem dX7_clearFresh_12 : decode cX7_clearFresh 12 = .ok (.iload_n 1, 1) := by decide +kernel
theorem dX7_clearFresh_13 : decode cX7_clearFresh 13 = .ok (.iload_n 1, 1) := by decide +kernel
theorem dX7_clearFresh_14 : decode cX7_clearFresh 14 = .ok (.iconst 2, 1) := by decide +kernel
theorem dX7_clearFresh_15 : decode cX7_clearFresh 15 = .ok (.irem, 1) := by decide +kernel
theorem dX7_clearFresh_16 : decode cX7_clearFresh 16 = .ok (.ifCond .ne 7, 3) := by decide +kernel
theorem dX7_clearFresh_19 : decode cX7_clearFresh 19 = .ok (.iconst 0, 1) := by decide +kernel
theorem dX7_clearFresh_20 : decode cX7_clearFresh 20 = .ok (.goto 15, 3) := by decide +kernel
theorem dX7_clearFresh_23 : decode cX7_clearFresh 23 = .ok (.iload_n 1, 1) := by decide +kernel
theorem dX7_clearFresh_24 : decode cX7_clearFresh 24 = .ok (.bipush 13, 2) := by decide +kernel
theorem dX7_clearFresh_26 : decode cX7_clearFresh 26 = .ok (.if_icmp .ne 8, 3) := by decide +kernel
theorem dX7_clearFresh_29 : decode cX7_clearFresh 29 = .ok (.bipush 20, 2) := by decide +kernel
theorem dX7_clearFresh_31 : decode cX7_clearFresh 31 = .ok (.goto 4, 3) := by decide +kernel
theorem dX7_clearFresh_34 : decode cX7_clearFresh 34 = .ok (.iconst 5, 1) := by decide +kernel
theorem dX7_clearFresh_35 : decode cX7_clearFresh 35 = .ok (.iastore, 1) := by decide +kernel
theorem dX7_clearFresh_36 : decode cX7_clearFresh 36 = .ok (.iinc 1 1, 3) := by decide +kernel
theorem dX7_clearFresh_39 : decode cX7_clearFresh 39 = .ok (.goto (-37), 3) := by decide +kernel
theorem dX7_clearFresh_42 : decode cX7_clearFresh 42 = .ok (.return_, 1) := by decide +kernel
theorem dX7_addFresh_0 : decode cX7_addFresh 0 = .ok (.aload_n 0, 1) := by decide +kernel
theorem dX7_addFresh_1 : decode cX7_addFresh 1 = .ok (.getfield 63, 3) := by decide +kernel
theorem dX7_addFresh_4 : decode cX7_addFresh 4 = .ok (.bipush 24, 2) := by decide +kernel
theorem dX7_addFresh_6 : decode cX7_addFresh 6 = .ok (.if_icmp .ne 6, 3) := by decide +kernel
theorem dX7_addFresh_9 : decode cX7_addFresh 9 = .ok (.bipush (-4), 2) := by decide +kernel
theorem dX7_addFresh_11 : decode cX7_addFresh 11 = .ok (.ireturn, 1) := by decide +kernel
theorem dX7_addFresh_12 : decode cX7_addFresh 12 = .ok (.aload_n 0, 1) := by decide +kernel
theorem dX7_addFresh_13 : decode cX7_addFresh 13 = .ok (.aload_n 0, 1) := by decide +kernel
theorem dX7_addFresh_14 : decode cX7_addFresh 14 = .ok (.getfield 40, 3) := by decide +kernel
theorem dX7_addFresh_17 : decode cX7_addFresh 17 = .ok (.iconst 0, 1) := by decide +kernel
theorem dX7_addFresh_18 : decode cX7_addFresh 18 = .ok (.iaload, 1) := by decide +kernel
theorem dX7_addFresh_19 : decode cX7_addFresh 19 = .ok (.aload_n 0, 1) := by decide +kernel
theorem dX7_addFresh_20 : decode cX7_addFresh 20 = .ok (.getfield 40, 3) := by decide +kernel
theorem dX7_addFresh_23 : decode cX7_addFresh 23 = .ok (.iconst 1, 1) := by decide +kernel
theorem dX7_addFresh_24 : decode cX7_addFresh 24 = .ok (.iaload, 1) := by decide +kernel
theorem dX7_addFresh_25 : decode cX7_addFresh 25 = .ok (.invokevirtual 80, 3) := by decide +kernel
theorem dX7_addFresh_28 : decode cX7_addFresh 28 = .ok (.ifCond .eq 6, 3) := by decide +kernel
theorem dX7_addFresh_31 : decode cX7_addFresh 31 = .ok (.bipush (-5), 2) := by decide +kernel
theorem dX7_addFresh_33 : decode cX7_addFresh 33 = .ok (.ireturn, 1) := by decide +kernel
theorem dX7_addFresh_34 : decode cX7_addFresh 34 = .ok (.iconst 0, 1) := by decide +kernel
theorem dX7_addFresh_35 : decode cX7_addFresh 35 = .ok (.istore_n 1, 1) := by decide +kernel
theorem dX7_addFresh_36 : decode cX7_addFresh 36 = .ok (.iload_n 1, 1) := by decide +kernel
theorem dX7_addFresh_37 : decode cX7_addFresh 37 = .ok (.bipush 14, 2) := by decide +kernel
theorem dX7_addFresh_39 : decode cX7_addFresh 39 = .ok (.if_icmp .ge 29, 3) := by decide +kernel
theorem dX7_addFresh_42 : decode cX7_addFresh 42 = .ok (.aload_n 0, 1) := by decide +kernel
theorem dX7_addFresh_43 : decode cX7_addFresh 43 = .ok (.getfield 7, 3) := by decide +kernel
theorem dX7_addFresh_46 : decode cX7_addFresh 46 = .ok (.bipush 14, 2) := by decide +kernel
theorem dX7_addFresh_48 : decode cX7_addFresh 48 = .ok (.aload_n 0, 1) := by decide +kernel
theorem dX7_addFresh_49 : decode cX7_addFresh 49 = .ok (.getfield 63, 3) := by decide +kernel
theorem dX7_addFresh_52 : decode cX7_addFresh 52 = .ok (.imul, 1) := by decide +kernel
theorem dX7_addFresh_53 : decode cX7_addFresh 53 = .ok (.iload_n 1, 1) := by decide +kernel
theorem dX7_addFresh_54 : decode cX7_addFresh 54 = .ok (.iadd, 1) := by decide +kernel
theorem dX7_addFresh_55 : decode cX7_addFresh 55 = .ok (.aload_n 0, 1) := by decide +kernel
theorem dX7_addFresh_56 : decode cX7_addFresh 56 = .ok (.getfield 40, 3) := by decide +kernel
theorem dX7_addFresh_59 : decode cX7_addFresh 59 = .ok (.iload_n 1, 1) := by decide +kernel
theorem dX7_addFresh_60 : decode cX7_addFresh 60 = .ok (.iaload, 1) := by decide +kernel
theorem dX7_addFresh_61 : decode cX7_addFresh 61 = .ok (.iastore, 1) := by decide +kernel
theorem dX7_addFresh_62 : decode cX7_addFresh 62 = .ok (.iinc 1 1, 3) := by decide +kernel
theorem dX7_addFresh_65 : decode cX7_addFresh 65 = .ok (.goto (-29), 3) := by decide +kernel
theorem dX7_addFresh_68 : decode cX7_addFresh 68 = .ok (.aload_n 0, 1) := by decide +kernel
theorem dX7_addFresh_69 : decode cX7_addFresh 69 = .ok (.dup, 1) := by decide +kernel
theorem dX7_addFresh_70 : decode cX7_addFresh 70 = .ok (.getfield 63, 3) := by decide +kernel
theorem dX7_addFresh_73 : decode cX7_addFresh 73 = .ok (.iconst 1, 1) := by decide +kernel
theorem dX7_addFresh_74 : decode cX7_addFresh 74 = .ok (.iadd, 1) := by decide +kernel
theorem dX7_addFresh_75 : decode cX7_addFresh 75 = .ok (.putfield 63, 3) := by decide +kernel
theorem dX7_addFresh_78 : decode cX7_addFresh 78 = .ok (.aload_n 0, 1) := by decide +kernel
theorem dX7_addFresh_79 : decode cX7_addFresh 79 = .ok (.invokevirtual 47, 3) := by decide +kernel
theorem dX7_addFresh_82 : decode cX7_addFresh 82 = .ok (.aload_n 0, 1) := by decide +kernel
theorem dX7_addFresh_83 : decode cX7_addFresh 83 = .ok (.getfield 63, 3) := by decide +kernel
theorem dX7_addFresh_86 : decode cX7_addFresh 86 = .ok (.iconst 1, 1) := by decide +kernel
theorem dX7_addFresh_87 : decode cX7_addFresh 87 = .ok (.isub, 1) := by decide +kernel
theorem dX7_addFresh_88 : decode cX7_addFresh 88 = .ok (.ireturn, 1) := by decide +kernel
theorem dX7_rule_0 : decode cX7_rule 0 = .ok (.iload_n 1, 1) := by decide +kernel
theorem dX7_rule_1 : decode cX7_rule 1 = .ok (.iconst 0, 1) := by decide +kernel
theorem dX7_rule_2 : decode cX7_rule 2 = .ok (.bipush 7, 2) := by decide +kernel
theorem dX7_rule_4 : decode cX7_rule 4 = .ok (.invokestatic 55, 3) := by decide +kernel
theorem dX7_rule_7 : decode cX7_rule 7 = .ok (.ifCond .eq 33, 3) := by decide +kernel
theorem dX7_rule_10 : decode cX7_rule 10 = .ok (.iload_n 2, 1) := by decide +kernel
theorem dX7_rule_11 : decode cX7_rule 11 = .ok (.iconst 0, 1) := by decide +kernel
theorem dX7_rule_12 : decode cX7_rule 12 = .ok (.bipush 25, 2) := by decide +kernel
theorem dX7_rule_14 : decode cX7_rule 14 = .ok (.invokestatic 55, 3) := by decide +kernel
theorem dX7_rule_17 : decode cX7_rule 17 = .ok (.ifCond .eq 23, 3) := by decide +kernel
theorem dX7_rule_20 : decode cX7_rule 20 = .ok (.iload_n 3, 1) := by decide +kernel
theorem dX7_rule_21 : decode cX7_rule 21 = .ok (.iconst 0, 1) := by decide +kernel
theorem dX7_rule_22 : decode cX7_rule 22 = .ok (.bipush 7, 2) := by decide +kernel
theorem dX7_rule_24 : decode cX7_rule 24 = .ok (.invokestatic 55, 3) := by decide +kernel
theorem dX7_rule_27 : decode cX7_rule 27 = .ok (.ifCond .eq 13, 3) := by decide +kernel
theorem dX7_rule_30 : decode cX7_rule 30 = .ok (.iload 4, 2) := by decide +kernel
theorem dX7_rule_32 : decode cX7_rule 32 = .ok (.iconst 0, 1) := by decide +kernel
theorem dX7_rule_33 : decode cX7_rule 33 = .ok (.iconst 1, 1) := by decide +kernel
theorem dX7_rule_34 : decode cX7_rule 34 = .ok (.invokestatic 55, 3) := by decide +kernel
theorem dX7_rule_37 : decode cX7_rule 37 = .ok (.ifCond .ne 6, 3) := by decide +kernel
theorem dX7_rule_40 : decode cX7_rule 40 = .ok (.bipush (-2), 2) := by decide +kernel
theorem dX7_rule_42 : decode cX7_rule 42 = .ok (.ireturn, 1) := by decide +kernel
theorem dX7_rule_43 : decode cX7_rule 43 = .ok (.aload_n 0, 1) := by decide +kernel
theorem dX7_rule_44 : decode cX7_rule 44 = .ok (.invokevirtual 84, 3) := by decide +kernel
theorem dX7_rule_47 : decode cX7_rule 47 = .ok (.aload_n 0, 1) := by decide +kernel
theorem dX7_rule_48 : decode cX7_rule 48 = .ok (.getfield 40, 3) := by decide +kernel
theorem dX7_rule_51 : decode cX7_rule 51 = .ok (.iconst 0, 1) := by decide +kernel
theorem dX7_rule_52 : decode cX7_rule 52 = .ok (.iload_n 1, 1) := by decide +kernel
theorem dX7_rule_53 : decode cX7_rule 53 = .ok (.iastore, 1) := by decide +kernel
theorem dX7_rule_54 : decode cX7_rule 54 = .ok (.aload_n 0, 1) := by decide +kernel
theorem dX7_rule_55 : decode cX7_rule 55 = .ok (.getfield 40, 3) := by decide +kernel
theorem dX7_rule_58 : decode cX7_rule 58 = .ok (.iconst 1, 1) := by decide +kernel
theorem dX7_rule_59 : decode cX7_rule 59 = .ok (.iload_n 2, 1) := by decide +kernel
theorem dX7_rule_60 : decode cX7_rule 60 = .ok (.iastore, 1) := by decide +kernel
theorem dX7_rule_61 : decode cX7_rule 61 = .ok (.aload_n 0, 1) := by decide +kernel
theorem dX7_rule_62 : decode cX7_rule 62 = .ok (.getfield 40, 3) := by decide +kernel
theorem dX7_rule_65 : decode cX7_rule 65 = .ok (.iconst 2, 1) := by decide +kernel
theorem dX7_rule_66 : decode cX7_rule 66 = .ok (.iload_n 3, 1) := by decide +kernel
theorem dX7_rule_67 : decode cX7_rule 67 = .ok (.iastore, 1) := by decide +kernel
theorem dX7_rule_68 : decode cX7_rule 68 = .ok (.aload_n 0, 1) := by decide +kernel
theorem dX7_rule_69 : decode cX7_rule 69 = .ok (.getfield 40, 3) := by decide +kernel
theorem dX7_rule_72 : decode cX7_rule 72 = .ok (.iconst 3, 1) := by decide +kernel
theorem dX7_rule_73 : decode cX7_rule 73 = .ok (.iload 4, 2) := by decide +kernel
theorem dX7_rule_75 : decode cX7_rule 75 = .ok (.iastore, 1) := by decide +kernel
theorem dX7_rule_76 : decode cX7_rule 76 = .ok (.aload_n 0, 1) := by decide +kernel
theorem dX7_rule_77 : decode cX7_rule 77 = .ok (.invokevirtual 87, 3) := by decide +kernel
theorem dX7_rule_80 : decode cX7_rule 80 = .ok (.ireturn, 1) := by decide +kernel
theorem dX7_limit_0 : decode cX7_limit 0 = .ok (.aload_n 0, 1) := by decide +kernel
theorem dX7_limit_1 : decode cX7_limit 1 = .ok (.iload_n 1, 1) := by decide +kernel
theorem dX7_limit_2 : decode cX7_limit 2 = .ok (.invokevirtual 91, 3) := by decide +kernel
theorem dX7_limit_5 : decode cX7_limit 5 = .ok (.ifCond .ne 5, 3) := by decide +kernel
theorem dX7_limit_8 : decode cX7_limit 8 = .ok (.iconst (-1), 1) := by decide +kernel
theorem dX7_limit_9 : decode cX7_limit 9 = .ok (.ireturn, 1) := by decide +kernel
theorem dX7_limit_10 : decode cX7_limit 10 = .ok (.iload_n 2, 1) := by decide +kernel
theorem dX7_limit_11 : decode cX7_limit 11 = .ok (.iconst 0, 1) := by decide +kernel
theorem dX7_limit_12 : decode cX7_limit 12 = .ok (.iconst 4, 1) := by decide +kernel
theorem dX7_limit_13 : decode cX7_limit 13 = .ok (.invokestatic 55, 3) := by decide +kernel
theorem dX7_limit_16 : decode cX7_limit 16 = .ok (.ifCond .eq 33, 3) := by decide +kernel
theorem dX7_limit_19 : decode cX7_limit 19 = .ok (.iload 4, 2) := by decide +kernel
theorem dX7_limit_21 : decode cX7_limit 21 = .ok (.iconst 0, 1) := by decide +kernel
theorem dX7_limit_22 : decode cX7_limit 22 = .ok (.iload_n 2, 1) := by decide +kernel
theorem dX7_limit_23 : decode cX7_limit 23 = .ok (.iconst 4, 1) := by decide +kernel
theorem dX7_limit_24 : decode cX7_limit 24 = .ok (.if_icmp .ne 8, 3) := by decide +kernel
theorem dX7_limit_27 : decode cX7_limit 27 = .ok (.bipush 20, 2) := by decide +kernel
theorem dX7_limit_29 : decode cX7_limit 29 = .ok (.goto 4, 3) := by decide +kernel
theorem dX7_limit_32 : decode cX7_limit 32 = .ok (.iconst 5, 1) := by decide +kernel
theorem dX7_limit_33 : decode cX7_limit 33 = .ok (.invokestatic 55, 3) := by decide +kernel
theorem dX7_limit_36 : decode cX7_limit 36 = .ok (.ifCond .eq 13, 3) := by decide +kernel
theorem dX7_limit_39 : decode cX7_limit 39 = .ok (.iload_n 3, 1) := by decide +kernel
theorem dX7_limit_40 : decode cX7_limit 40 = .ok (.iconst 0, 1) := by decide +kernel
theorem dX7_limit_41 : decode cX7_limit 41 = .ok (.iload 4, 2) := by decide +kernel
theorem dX7_limit_43 : decode cX7_limit 43 = .ok (.invokestatic 55, 3) := by decide +kernel
theorem dX7_limit_46 : decode cX7_limit 46 = .ok (.ifCond .ne 6, 3) := by decide +kernel
theorem dX7_limit_49 : decode cX7_limit 49 = .ok (.bipush (-2), 2) := by decide +kernel
theorem dX7_limit_51 : decode cX7_limit 51 = .ok (.ireturn, 1) := by decide +kernel
theorem dX7_limit_52 : decode cX7_limit 52 = .ok (.aload_n 0, 1) := by decide +kernel
theorem dX7_limit_53 : decode cX7_limit 53 = .ok (.getfield 7, 3) := by decide +kernel
theorem dX7_limit_56 : decode cX7_limit 56 = .ok (.bipush 14, 2) := by decide +kernel
theorem dX7_limit_58 : decode cX7_limit 58 = .ok (.iload_n 1, 1) := by decide +kernel
theorem dX7_limit_59 : decode cX7_limit 59 = .ok (.imul, 1) := by decide +kernel
theorem dX7_limit_60 : decode cX7_limit 60 = .ok (.iconst 4, 1) := by decide +kernel
theorem dX7_limit_61 : decode cX7_limit 61 = .ok (.iadd, 1) := by decide +kernel
theorem dX7_limit_62 : decode cX7_limit 62 = .ok (.iconst 2, 1) := by decide +kernel
theorem dX7_limit_63 : decode cX7_limit 63 = .ok (.iload_n 2, 1) := by decide +kernel
theorem dX7_limit_64 : decode cX7_limit 64 = .ok (.imul, 1) := by decide +kernel
theorem dX7_limit_65 : decode cX7_limit 65 = .ok (.iadd, 1) := by decide +kernel
theorem dX7_limit_66 : decode cX7_limit 66 = .ok (.iload_n 3, 1) := by decide +kernel
theorem dX7_limit_67 : decode cX7_limit 67 = .ok (.iastore, 1) := by decide +kernel
theorem dX7_limit_68 : decode cX7_limit 68 = .ok (.aload_n 0, 1) := by decide +kernel
theorem dX7_limit_69 : decode cX7_limit 69 = .ok (.getfield 7, 3) := by decide +kernel
theorem dX7_limit_72 : decode cX7_limit 72 = .ok (.bipush 14, 2) := by decide +kernel
theorem dX7_limit_74 : decode cX7_limit 74 = .ok (.iload_n 1, 1) := by decide +kernel
theorem dX7_limit_75 : decode cX7_limit 75 = .ok (.imul, 1) := by decide +kernel
theorem dX7_limit_76 : decode cX7_limit 76 = .ok (.iconst 4, 1) := by decide +kernel
theorem dX7_limit_77 : decode cX7_limit 77 = .ok (.iadd, 1) := by decide +kernel
theorem dX7_limit_78 : decode cX7_limit 78 = .ok (.iconst 2, 1) := by decide +kernel
theorem dX7_limit_79 : decode cX7_limit 79 = .ok (.iload_n 2, 1) := by decide +kernel
theorem dX7_limit_80 : decode cX7_limit 80 = .ok (.imul, 1) := by decide +kernel
theorem dX7_limit_81 : decode cX7_limit 81 = .ok (.iadd, 1) := by decide +kernel
theorem dX7_limit_82 : decode cX7_limit 82 = .ok (.iconst 1, 1) := by decide +kernel
theorem dX7_limit_83 : decode cX7_limit 83 = .ok (.iadd, 1) := by decide +kernel
theorem dX7_limit_84 : decode cX7_limit 84 = .ok (.iload 4, 2) := by decide +kernel
theorem dX7_limit_86 : decode cX7_limit 86 = .ok (.iastore, 1) := by decide +kernel
theorem dX7_limit_87 : decode cX7_limit 87 = .ok (.aload_n 0, 1) := by decide +kernel
theorem dX7_limit_88 : decode cX7_limit 88 = .ok (.invokevirtual 47, 3) := by decide +kernel
theorem dX7_limit_91 : decode cX7_limit 91 = .ok (.iconst 0, 1) := by decide +kernel
theorem dX7_limit_92 : decode cX7_limit 92 = .ok (.istore 5, 2) := by decide +kernel
theorem dX7_limit_94 : decode cX7_limit 94 = .ok (.bipush 31, 2) := by decide +kernel
theorem dX7_limit_96 : decode cX7_limit 96 = .ok (.istore 6, 2) := by decide +kernel
theorem dX7_limit_98 : decode cX7_limit 98 = .ok (.iload 6, 2) := by decide +kernel
theorem dX7_limit_100 : decode cX7_limit 100 = .ok (.ldc 54, 2) := by decide +kernel
theorem dX7_limit_102 : decode cX7_limit 102 = .ok (.if_icmp .gt 33, 3) := by decide +kernel
theorem dX7_limit_105 : decode cX7_limit 105 = .ok (.iload 5, 2) := by decide +kernel
theorem dX7_limit_107 : decode cX7_limit 107 = .ok (.aload_n 0, 1) := by decide +kernel
theorem dX7_limit_108 : decode cX7_limit 108 = .ok (.iload 6, 2) := by decide +kernel
theorem dX7_limit_110 : decode cX7_limit 110 = .ok (.iload_n 1, 1) := by decide +kernel
theorem dX7_limit_111 : decode cX7_limit 111 = .ok (.invokevirtual 95, 3) := by decide +kernel
theorem dX7_limit_114 : decode cX7_limit 114 = .ok (.ifCond .eq 7, 3) := by decide +kernel
theorem dX7_limit_117 : decode cX7_limit 117 = .ok (.iconst 1, 1) := by decide +kernel
theorem dX7_limit_118 : decode cX7_limit 118 = .ok (.goto 4, 3) := by decide +kernel
theorem dX7_limit_121 : decode cX7_limit 121 = .ok (.iconst 0, 1) := by decide +kernel
theorem dX7_limit_122 : decode cX7_limit 122 = .ok (.iadd, 1) := by decide +kernel
theorem dX7_limit_123 : decode cX7_limit 123 = .ok (.istore 5, 2) := by decide +kernel
theorem dX7_limit_125 : decode cX7_limit 125 = .ok (.iload 6, 2) := by decide +kernel
theorem dX7_limit_127 : decode cX7_limit 127 = .ok (.invokestatic 98, 3) := by decide +kernel
theorem dX7_limit_130 : decode cX7_limit 130 = .ok (.istore 6, 2) := by decide +kernel
theorem dX7_limit_132 : decode cX7_limit 132 = .ok (.goto (-34), 3) := by decide +kernel
theorem dX7_limit_135 : decode cX7_limit 135 = .ok (.iload 5, 2) := by decide +kernel
theorem dX7_limit_137 : decode cX7_limit 137 = .ok (.ireturn, 1) := by decide +kernel
theorem dX7_takeOut_0 : decode cX7_takeOut 0 = .ok (.aload_n 0, 1) := by decide +kernel
theorem dX7_takeOut_1 : decode cX7_takeOut 1 = .ok (.dup, 1) := by decide +kernel
theorem dX7_takeOut_2 : decode cX7_takeOut 2 = .ok (.getfield 63, 3) := by decide +kernel
theorem dX7_takeOut_5 : decode cX7_takeOut 5 = .ok (.iconst 1, 1) := by decide +kernel
theorem dX7_takeOut_6 : decode cX7_takeOut 6 = .ok (.isub, 1) := by decide +kernel
theorem dX7_takeOut_7 : decode cX7_takeOut 7 = .ok (.putfield 63, 3) := by decide +kernel
theorem dX7_takeOut_10 : decode cX7_takeOut 10 = .ok (.bipush 14, 2) := by decide +kernel
theorem dX7_takeOut_12 : decode cX7_takeOut 12 = .ok (.iload_n 1, 1) := by decide +kernel
theorem dX7_takeOut_13 : decode cX7_takeOut 13 = .ok (.imul, 1) := by decide +kernel
theorem dX7_takeOut_14 : decode cX7_takeOut 14 = .ok (.istore_n 2, 1) := by decide +kernel
theorem dX7_takeOut_15 : decode cX7_takeOut 15 = .ok (.iload_n 2, 1) := by decide +kernel
theorem dX7_takeOut_16 : decode cX7_takeOut 16 = .ok (.bipush 14, 2) := by decide +kernel
theorem dX7_takeOut_18 : decode cX7_takeOut 18 = .ok (.aload_n 0, 1) := by decide +kernel
theorem dX7_takeOut_19 : decode cX7_takeOut 19 = .ok (.getfield 63, 3) := by decide +kernel
theorem dX7_takeOut_22 : decode cX7_takeOut 22 = .ok (.imul, 1) := by decide +kernel
theorem dX7_takeOut_23 : decode cX7_takeOut 23 = .ok (.if_icmp .ge 24, 3) := by decide +kernel
theorem dX7_takeOut_26 : decode cX7_takeOut 26 = .ok (.aload_n 0, 1) := by decide +kernel
theorem dX7_takeOut_27 : decode cX7_takeOut 27 = .ok (.getfield 7, 3) := by decide +kernel
theorem dX7_takeOut_30 : decode cX7_takeOut 30 = .ok (.iload_n 2, 1) := by decide +kernel
theorem dX7_takeOut_31 : decode cX7_takeOut 31 = .ok (.aload_n 0, 1) := by decide +kernel
theorem dX7_takeOut_32 : decode cX7_takeOut 32 = .ok (.getfield 7, 3) := by decide +kernel
theorem dX7_takeOut_35 : decode cX7_takeOut 35 = .ok (.iload_n 2, 1) := by decide +kernel
theorem dX7_takeOut_36 : decode cX7_takeOut 36 = .ok (.bipush 14, 2) := by decide +kernel
theorem dX7_takeOut_38 : decode cX7_takeOut 38 = .ok (.iadd, 1) := by decide +kernel
theorem dX7_takeOut_39 : decode cX7_takeOut 39 = .ok (.iaload, 1) := by decide +kernel
theorem dX7_takeOut_40 : decode cX7_takeOut 40 = .ok (.iastore, 1) := by decide +kernel
theorem dX7_takeOut_41 : decode cX7_takeOut 41 = .ok (.iinc 2 1, 3) := by decide +kernel
theorem dX7_takeOut_44 : decode cX7_takeOut 44 = .ok (.goto (-29), 3) := by decide +kernel
theorem dX7_takeOut_47 : decode cX7_takeOut 47 = .ok (.return_, 1) := by decide +kernel
theorem dX7_remove_0 : decode cX7_remove 0 = .ok (.aload_n 0, 1) := by decide +kernel
theorem dX7_remove_1 : decode cX7_remove 1 = .ok (.iload_n 1, 1) := by decide +kernel
theorem dX7_remove_2 : decode cX7_remove 2 = .ok (.invokevirtual 91, 3) := by decide +kernel
theorem dX7_remove_5 : decode cX7_remove 5 = .ok (.ifCond .ne 5, 3) := by decide +kernel
theorem dX7_remove_8 : decode cX7_remove 8 = .ok (.iconst (-1), 1) := by decide +kernel
theorem dX7_remove_9 : decode cX7_remove 9 = .ok (.ireturn, 1) := by decide +kernel
theorem dX7_remove_10 : decode cX7_remove 10 = .ok (.aload_n 0, 1) := by decide +kernel
theorem dX7_remove_11 : decode cX7_remove 11 = .ok (.iload_n 1, 1) := by decide +kernel
theorem dX7_remove_12 : decode cX7_remove 12 = .ok (.invokevirtual 101, 3) := by decide +kernel
theorem dX7_remove_15 : decode cX7_remove 15 = .ok (.aload_n 0, 1) := by decide +kernel
theorem dX7_remove_16 : decode cX7_remove 16 = .ok (.invokevirtual 47, 3) := by decide +kernel
theorem dX7_remove_19 : decode cX7_remove 19 = .ok (.aload_n 0, 1) := by decide +kernel
theorem dX7_remove_20 : decode cX7_remove 20 = .ok (.getfield 63, 3) := by decide +kernel
theorem dX7_remove_23 : decode cX7_remove 23 = .ok (.ireturn, 1) := by decide +kernel
theorem dX7_move_0 : decode cX7_move 0 = .ok (.aload_n 0, 1) := by decide +kernel
theorem dX7_move_1 : decode cX7_move 1 = .ok (.iload_n 1, 1) := by decide +kernel
theorem dX7_move_2 : decode cX7_move 2 = .ok (.invokevirtual 91, 3) := by decide +kernel
theorem dX7_move_5 : decode cX7_move 5 = .ok (.ifCond .eq 11, 3) := by decide +kernel
theorem dX7_move_8 : decode cX7_move 8 = .ok (.aload_n 0, 1) := by decide +kernel
theorem dX7_move_9 : decode cX7_move 9 = .ok (.iload_n 2, 1) := by decide +kernel
theorem dX7_move_10 : decode cX7_move 10 = .ok (.invokevirtual 91, 3) := by decide +kernel
theorem dX7_move_13 : decode cX7_move 13 = .ok (.ifCond .ne 5, 3) := by decide +kernel
theorem dX7_move_16 : decode cX7_move 16 = .ok (.iconst (-1), 1) := by decide +kernel
theorem dX7_move_17 : decode cX7_move 17 = .ok (.ireturn, 1) := by decide +kernel
theorem dX7_move_18 : decode cX7_move 18 = .ok (.iconst 0, 1) := by decide +kernel
theorem dX7_move_19 : decode cX7_move 19 = .ok (.istore_n 3, 1) := by decide +kernel
theorem dX7_move_20 : decode cX7_move 20 = .ok (.iload_n 3, 1) := by decide +kernel
theorem dX7_move_21 : decode cX7_move 21 = .ok (.bipush 14, 2) := by decide +kernel
theorem dX7_move_23 : decode cX7_move 23 = .ok (.if_icmp .ge 21, 3) := by decide +kernel
theorem dX7_move_26 : decode cX7_move 26 = .ok (.aload_n 0, 1) := by decide +kernel
theorem dX7_move_27 : decode cX7_move 27 = .ok (.getfield 40, 3) := by decide +kernel
theorem dX7_move_30 : decode cX7_move 30 = .ok (.iload_n 3, 1) := by decide +kernel
theorem dX7_move_31 : decode cX7_move 31 = .ok (.aload_n 0, 1) := by decide +kernel
theorem dX7_move_32 : decode cX7_move 32 = .ok (.iload_n 1, 1) := by decide +kernel
theorem dX7_move_33 : decode cX7_move 33 = .ok (.iload_n 3, 1) := by decide +kernel
theorem dX7_move_34 : decode cX7_move 34 = .ok (.invokevirtual 77, 3) := by decide +kernel
theorem dX7_move_37 : decode cX7_move 37 = .ok (.iastore, 1) := by decide +kernel
theorem dX7_move_38 : decode cX7_move 38 = .ok (.iinc 3 1, 3) := by decide +kernel
theorem dX7_move_41 : decode cX7_move 41 = .ok (.goto (-21), 3) := by decide +kernel
theorem dX7_move_44 : decode cX7_move 44 = .ok (.aload_n 0, 1) := by decide +kernel
theorem dX7_move_45 : decode cX7_move 45 = .ok (.iload_n 1, 1) := by decide +kernel
theorem dX7_move_46 : decode cX7_move 46 = .ok (.invokevirtual 101, 3) := by decide +kernel
theorem dX7_move_49 : decode cX7_move 49 = .ok (.bipush 14, 2) := by decide +kernel
theorem dX7_move_51 : decode cX7_move 51 = .ok (.aload_n 0, 1) := by decide +kernel
theorem dX7_move_52 : decode cX7_move 52 = .ok (.getfield 63, 3) := by decide +kernel
theorem dX7_move_55 : decode cX7_move 55 = .ok (.imul, 1) := by decide +kernel
theorem dX7_move_56 : decode cX7_move 56 = .ok (.iconst 1, 1) := by decide +kernel
theorem dX7_move_57 : decode cX7_move 57 = .ok (.isub, 1) := by decide +kernel
theorem dX7_move_58 : decode cX7_move 58 = .ok (.istore_n 3, 1) := by decide +kernel
theorem dX7_move_59 : decode cX7_move 59 = .ok (.iload_n 3, 1) := by decide +kernel
theorem dX7_move_60 : decode cX7_move 60 = .ok (.bipush 14, 2) := by decide +kernel
theorem dX7_move_62 : decode cX7_move 62 = .ok (.iload_n 2, 1) := by decide +kernel
theorem dX7_move_63 : decode cX7_move 63 = .ok (.imul, 1) := by decide +kernel
theorem dX7_move_64 : decode cX7_move 64 = .ok (.if_icmp .lt 24, 3) := by decide +kernel
theorem dX7_move_67 : decode cX7_move 67 = .ok (.aload_n 0, 1) := by decide +kernel
theorem dX7_move_68 : decode cX7_move 68 = .ok (.getfield 7, 3) := by decide +kernel
theorem dX7_move_71 : decode cX7_move 71 = .ok (.iload_n 3, 1) := by decide +kernel
theorem dX7_move_72 : decode cX7_move 72 = .ok (.bipush 14, 2) := by decide +kernel
theorem dX7_move_74 : decode cX7_move 74 = .ok (.iadd, 1) := by decide +kernel
theorem dX7_move_75 : decode cX7_move 75 = .ok (.aload_n 0, 1) := by decide +kernel
theorem dX7_move_76 : decode cX7_move 76 = .ok (.getfield 7, 3) := by decide +kernel
theorem dX7_move_79 : decode cX7_move 79 = .ok (.iload_n 3, 1) := by decide +kernel
theorem dX7_move_80 : decode cX7_move 80 = .ok (.iaload, 1) := by decide +kernel
theorem dX7_move_81 : decode cX7_move 81 = .ok (.iastore, 1) := by decide +kernel
theorem dX7_move_82 : decode cX7_move 82 = .ok (.iinc 3 (-1), 3) := by decide +kernel
theorem dX7_move_85 : decode cX7_move 85 = .ok (.goto (-26), 3) := by decide +kernel
theorem dX7_move_88 : decode cX7_move 88 = .ok (.iconst 0, 1) := by decide +kernel
theorem dX7_move_89 : decode cX7_move 89 = .ok (.istore_n 3, 1) := by decide +kernel
theorem dX7_move_90 : decode cX7_move 90 = .ok (.iload_n 3, 1) := by decide +kernel
theorem dX7_move_91 : decode cX7_move 91 = .ok (.bipush 14, 2) := by decide +kernel
theorem dX7_move_93 : decode cX7_move 93 = .ok (.if_icmp .ge 26, 3) := by decide +kernel
theorem dX7_move_96 : decode cX7_move 96 = .ok (.aload_n 0, 1) := by decide +kernel
theorem dX7_move_97 : decode cX7_move 97 = .ok (.getfield 7, 3) := by decide +kernel
theorem dX7_move_100 : decode cX7_move 100 = .ok (.bipush 14, 2) := by decide +kernel
theorem dX7_move_102 : decode cX7_move 102 = .ok (.iload_n 2, 1) := by decide +kernel
theorem dX7_move_103 : decode cX7_move 103 = .ok (.imul, 1) := by decide +kernel
theorem dX7_move_104 : decode cX7_move 104 = .ok (.iload_n 3, 1) := by decide +kernel
theorem dX7_move_105 : decode cX7_move 105 = .ok (.iadd, 1) := by decide +kernel
theorem dX7_move_106 : decode cX7_move 106 = .ok (.aload_n 0, 1) := by decide +kernel
theorem dX7_move_107 : decode cX7_move 107 = .ok (.getfield 40, 3) := by decide +kernel
theorem dX7_move_110 : decode cX7_move 110 = .ok (.iload_n 3, 1) := by decide +kernel
theorem dX7_move_111 : decode cX7_move 111 = .ok (.iaload, 1) := by decide +kernel
theorem dX7_move_112 : decode cX7_move 112 = .ok (.iastore, 1) := by decide +kernel
theorem dX7_move_113 : decode cX7_move 113 = .ok (.iinc 3 1, 3) := by decide +kernel
theorem dX7_move_116 : decode cX7_move 116 = .ok (.goto (-26), 3) := by decide +kernel
theorem dX7_move_119 : decode cX7_move 119 = .ok (.aload_n 0, 1) := by decide +kernel
theorem dX7_move_120 : decode cX7_move 120 = .ok (.dup, 1) := by decide +kernel
theorem dX7_move_121 : decode cX7_move 121 = .ok (.getfield 63, 3) := by decide +kernel
theorem dX7_move_124 : decode cX7_move 124 = .ok (.iconst 1, 1) := by decide +kernel
theorem dX7_move_125 : decode cX7_move 125 = .ok (.iadd, 1) := by decide +kernel
theorem dX7_move_126 : decode cX7_move 126 = .ok (.putfield 63, 3) := by decide +kernel
theorem dX7_move_129 : decode cX7_move 129 = .ok (.aload_n 0, 1) := by decide +kernel
theorem dX7_move_130 : decode cX7_move 130 = .ok (.invokevirtual 47, 3) := by decide +kernel
theorem dX7_move_133 : decode cX7_move 133 = .ok (.aload_n 0, 1) := by decide +kernel
theorem dX7_move_134 : decode cX7_move 134 = .ok (.iload_n 2, 1) := by decide +kernel
theorem dX7_move_135 : decode cX7_move 135 = .ok (.iconst 1, 1) := by decide +kernel
theorem dX7_move_136 : decode cX7_move 136 = .ok (.invokevirtual 77, 3) := by decide +kernel
theorem dX7_move_139 : decode cX7_move 139 = .ok (.ireturn, 1) := by decide +kernel
theorem dX7_part_0 : decode cX7_part 0 = .ok (.aload_n 0, 1) := by decide +kernel
theorem dX7_part_1 : decode cX7_part 1 = .ok (.iload_n 1, 1) := by decide +kernel
theorem dX7_part_2 : decode cX7_part 2 = .ok (.invokevirtual 91, 3) := by decide +kernel
theorem dX7_part_5 : decode cX7_part 5 = .ok (.ifCond .ne 5, 3) := by decide +kernel
theorem dX7_part_8 : decode cX7_part 8 = .ok (.iconst (-1), 1) := by decide +kernel
theorem dX7_part_9 : decode cX7_part 9 = .ok (.ireturn, 1) := by decide +kernel
theorem dX7_part_10 : decode cX7_part 10 = .ok (.iload_n 2, 1) := by decide +kernel
theorem dX7_part_11 : decode cX7_part 11 = .ok (.iconst 0, 1) := by decide +kernel
theorem dX7_part_12 : decode cX7_part 12 = .ok (.bipush 13, 2) := by decide +kernel
theorem dX7_part_14 : decode cX7_part 14 = .ok (.invokestatic 55, 3) := by decide +kernel
theorem dX7_part_17 : decode cX7_part 17 = .ok (.ifCond .eq 12, 3) := by decide +kernel
theorem dX7_part_20 : decode cX7_part 20 = .ok (.aload_n 0, 1) := by decide +kernel
theorem dX7_part_21 : decode cX7_part 21 = .ok (.iload_n 1, 1) := by decide +kernel
theorem dX7_part_22 : decode cX7_part 22 = .ok (.iload_n 2, 1) := by decide +kernel
theorem dX7_part_23 : decode cX7_part 23 = .ok (.invokevirtual 77, 3) := by decide +kernel
theorem dX7_part_26 : decode cX7_part 26 = .ok (.goto 5, 3) := by decide +kernel
theorem dX7_part_29 : decode cX7_part 29 = .ok (.bipush (-2), 2) := by decide +kernel
theorem dX7_part_31 : decode cX7_part 31 = .ok (.ireturn, 1) := by decide +kernel
theorem dX7_isPartner_0 : decode cX7_isPartner 0 = .ok (.iload_n 0, 1) := by decide +kernel
theorem dX7_isPartner_1 : decode cX7_isPartner 1 = .ok (.iconst 0, 1) := by decide +kernel
theorem dX7_isPartner_2 : decode cX7_isPartner 2 = .ok (.iconst 1, 1) := by decide +kernel
theorem dX7_isPartner_3 : decode cX7_isPartner 3 = .ok (.invokestatic 55, 3) := by decide +kernel
theorem dX7_isPartner_6 : decode cX7_isPartner 6 = .ok (.ireturn, 1) := by decide +kernel
theorem dX7_give_0 : decode cX7_give 0 = .ok (.iload_n 1, 1) := by decide +kernel
theorem dX7_give_1 : decode cX7_give 1 = .ok (.invokestatic 105, 3) := by decide +kernel
theorem dX7_give_4 : decode cX7_give 4 = .ok (.ifCond .ne 5, 3) := by decide +kernel
theorem dX7_give_7 : decode cX7_give 7 = .ok (.iconst (-1), 1) := by decide +kernel
theorem dX7_give_8 : decode cX7_give 8 = .ok (.ireturn, 1) := by decide +kernel
theorem dX7_give_9 : decode cX7_give 9 = .ok (.aload_n 0, 1) := by decide +kernel
theorem dX7_give_10 : decode cX7_give 10 = .ok (.iload_n 2, 1) := by decide +kernel
theorem dX7_give_11 : decode cX7_give 11 = .ok (.invokevirtual 108, 3) := by decide +kernel
theorem dX7_give_14 : decode cX7_give 14 = .ok (.ifCond .ne 6, 3) := by decide +kernel
theorem dX7_give_17 : decode cX7_give 17 = .ok (.bipush (-2), 2) := by decide +kernel
theorem dX7_give_19 : decode cX7_give 19 = .ok (.ireturn, 1) := by decide +kernel
theorem dX7_give_20 : decode cX7_give 20 = .ok (.aload_n 0, 1) := by decide +kernel
theorem dX7_give_21 : decode cX7_give 21 = .ok (.getfield 13, 3) := by decide +kernel
theorem dX7_give_24 : decode cX7_give 24 = .ok (.iconst 1, 1) := by decide +kernel
theorem dX7_give_25 : decode cX7_give 25 = .ok (.iload_n 1, 1) := by decide +kernel
theorem dX7_give_26 : decode cX7_give 26 = .ok (.isub, 1) := by decide +kernel
theorem dX7_give_27 : decode cX7_give 27 = .ok (.iaload, 1) := by decide +kernel
theorem dX7_give_28 : decode cX7_give 28 = .ok (.iload_n 2, 1) := by decide +kernel
theorem dX7_give_29 : decode cX7_give 29 = .ok (.iand, 1) := by decide +kernel
theorem dX7_give_30 : decode cX7_give 30 = .ok (.ifCond .eq 6, 3) := by decide +kernel
theorem dX7_give_33 : decode cX7_give 33 = .ok (.bipush (-5), 2) := by decide +kernel
theorem dX7_give_35 : decode cX7_give 35 = .ok (.ireturn, 1) := by decide +kernel
theorem dX7_give_36 : decode cX7_give 36 = .ok (.aload_n 0, 1) := by decide +kernel
theorem dX7_give_37 : decode cX7_give 37 = .ok (.getfield 13, 3) := by decide +kernel
theorem dX7_give_40 : decode cX7_give 40 = .ok (.iload_n 1, 1) := by decide +kernel
theorem dX7_give_41 : decode cX7_give 41 = .ok (.iaload, 1) := by decide +kernel
theorem dX7_give_42 : decode cX7_give 42 = .ok (.istore_n 3, 1) := by decide +kernel
theorem dX7_give_43 : decode cX7_give 43 = .ok (.aload_n 0, 1) := by decide +kernel
theorem dX7_give_44 : decode cX7_give 44 = .ok (.getfield 13, 3) := by decide +kernel
theorem dX7_give_47 : decode cX7_give 47 = .ok (.iload_n 1, 1) := by decide +kernel
theorem dX7_give_48 : decode cX7_give 48 = .ok (.iload_n 2, 1) := by decide +kernel
theorem dX7_give_49 : decode cX7_give 49 = .ok (.iastore, 1) := by decide +kernel
theorem dX7_give_50 : decode cX7_give 50 = .ok (.aload_n 0, 1) := by decide +kernel
theorem dX7_give_51 : decode cX7_give 51 = .ok (.invokevirtual 47, 3) := by decide +kernel
theorem dX7_give_54 : decode cX7_give 54 = .ok (.iload_n 3, 1) := by decide +kernel
theorem dX7_give_55 : decode cX7_give 55 = .ok (.ireturn, 1) := by decide +kernel
theorem dX7_cardLeft_0 : decode cX7_cardLeft 0 = .ok (.iload_n 1, 1) := by decide +kernel
theorem dX7_cardLeft_1 : decode cX7_cardLeft 1 = .ok (.istore_n 2, 1) := by decide +kernel
theorem dX7_cardLeft_2 : decode cX7_cardLeft 2 = .ok (.iconst 0, 1) := by decide +kernel
theorem dX7_cardLeft_3 : decode cX7_cardLeft 3 = .ok (.istore_n 3, 1) := by decide +kernel
theorem dX7_cardLeft_4 : decode cX7_cardLeft 4 = .ok (.iload_n 2, 1) := by decide +kernel
theorem dX7_cardLeft_5 : decode cX7_cardLeft 5 = .ok (.ifCond .gt 12, 3) := by decide +kernel
theorem dX7_cardLeft_8 : decode cX7_cardLeft 8 = .ok (.iload_n 0, 1) := by decide +kernel
theorem dX7_cardLeft_9 : decode cX7_cardLeft 9 = .ok (.iload_n 3, 1) := by decide +kernel
theorem dX7_cardLeft_10 : decode cX7_cardLeft 10 = .ok (.ishr, 1) := by decide +kernel
theorem dX7_cardLeft_11 : decode cX7_cardLeft 11 = .ok (.iconst 1, 1) := by decide +kernel
theorem dX7_cardLeft_12 : decode cX7_cardLeft 12 = .ok (.iand, 1) := by decide +kernel
theorem dX7_cardLeft_13 : decode cX7_cardLeft 13 = .ok (.iconst 1, 1) := by decide +kernel
theorem dX7_cardLeft_14 : decode cX7_cardLeft 14 = .ok (.if_icmp .ne 26, 3) := by decide +kernel
theorem dX7_cardLeft_17 : decode cX7_cardLeft 17 = .ok (.iload_n 2, 1) := by decide +kernel
theorem dX7_cardLeft_18 : decode cX7_cardLeft 18 = .ok (.iload_n 0, 1) := by decide +kernel
theorem dX7_cardLeft_19 : decode cX7_cardLeft 19 = .ok (.iload_n 3, 1) := by decide +kernel
theorem dX7_cardLeft_20 : decode cX7_cardLeft 20 = .ok (.ishr, 1) := by decide +kernel
theorem dX7_cardLeft_21 : decode cX7_cardLeft 21 = .ok (.iconst 1, 1) := by decide +kernel
theorem dX7_cardLeft_22 : decode cX7_cardLeft 22 = .ok (.iand, 1) := by decide +kernel
theorem dX7_cardLeft_23 : decode cX7_cardLeft 23 = .ok (.iconst 1, 1) := by decide +kernel
theorem dX7_cardLeft_24 : decode cX7_cardLeft 24 = .ok (.if_icmp .ne 7, 3) := by decide +kernel
theorem dX7_cardLeft_27 : decode cX7_cardLeft 27 = .ok (.iconst 0, 1) := by decide +kernel
theorem dX7_cardLeft_28 : decode cX7_cardLeft 28 = .ok (.goto 4, 3) := by decide +kernel
theorem dX7_cardLeft_31 : decode cX7_cardLeft 31 = .ok (.iconst 1, 1) := by decide +kernel
theorem dX7_cardLeft_32 : decode cX7_cardLeft 32 = .ok (.isub, 1) := by decide +kernel
theorem dX7_cardLeft_33 : decode cX7_cardLeft 33 = .ok (.istore_n 2, 1) := by decide +kernel
theorem dX7_cardLeft_34 : decode cX7_cardLeft 34 = .ok (.iinc 3 1, 3) := by decide +kernel
theorem dX7_cardLeft_37 : decode cX7_cardLeft 37 = .ok (.goto (-33), 3) := by decide +kernel
theorem dX7_cardLeft_40 : decode cX7_cardLeft 40 = .ok (.iload_n 3, 1) := by decide +kernel
theorem dX7_cardLeft_41 : decode cX7_cardLeft 41 = .ok (.ireturn, 1) := by decide +kernel
theorem dX7_draw_0 : decode cX7_draw 0 = .ok (.iload_n 1, 1) := by decide +kernel
theorem dX7_draw_1 : decode cX7_draw 1 = .ok (.iconst 0, 1) := by decide +kernel
theorem dX7_draw_2 : decode cX7_draw 2 = .ok (.ldc 111, 2) := by decide +kernel
theorem dX7_draw_4 : decode cX7_draw 4 = .ok (.invokestatic 55, 3) := by decide +kernel
theorem dX7_draw_7 : decode cX7_draw 7 = .ok (.ifCond .ne 6, 3) := by decide +kernel
theorem dX7_draw_10 : decode cX7_draw 10 = .ok (.bipush (-2), 2) := by decide +kernel
theorem dX7_draw_12 : decode cX7_draw 12 = .ok (.ireturn, 1) := by decide +kernel
theorem dX7_draw_13 : decode cX7_draw 13 = .ok (.iload_n 1, 1) := by decide +kernel
theorem dX7_draw_14 : decode cX7_draw 14 = .ok (.istore_n 2, 1) := by decide +kernel
theorem dX7_draw_15 : decode cX7_draw 15 = .ok (.iconst 0, 1) := by decide +kernel
theorem dX7_draw_16 : decode cX7_draw 16 = .ok (.istore_n 3, 1) := by decide +kernel
theorem dX7_draw_17 : decode cX7_draw 17 = .ok (.iconst 0, 1) := by decide +kernel
theorem dX7_draw_18 : decode cX7_draw 18 = .ok (.istore 4, 2) := by decide +kernel
theorem dX7_draw_20 : decode cX7_draw 20 = .ok (.iconst 0, 1) := by decide +kernel
theorem dX7_draw_21 : decode cX7_draw 21 = .ok (.istore 5, 2) := by decide +kernel
theorem dX7_draw_23 : decode cX7_draw 23 = .ok (.iload 5, 2) := by decide +kernel
theorem dX7_draw_25 : decode cX7_draw 25 = .ok (.bipush 10, 2) := by decide +kernel
theorem dX7_draw_27 : decode cX7_draw 27 = .ok (.if_icmp .ge 52, 3) := by decide +kernel
theorem dX7_draw_30 : decode cX7_draw 30 = .ok (.iload_n 2, 1) := by decide +kernel
theorem dX7_draw_31 : decode cX7_draw 31 = .ok (.sipush 1103, 3) := by decide +kernel
theorem dX7_draw_34 : decode cX7_draw 34 = .ok (.imul, 1) := by decide +kernel
theorem dX7_draw_35 : decode cX7_draw 35 = .ok (.sipush 12345, 3) := by decide +kernel
theorem dX7_draw_38 : decode cX7_draw 38 = .ok (.iadd, 1) := by decide +kernel
theorem dX7_draw_39 : decode cX7_draw 39 = .ok (.ldc 112, 2) := by decide +kernel
theorem dX7_draw_41 : decode cX7_draw 41 = .ok (.irem, 1) := by decide +kernel
theorem dX7_draw_42 : decode cX7_draw 42 = .ok (.istore_n 2, 1) := by decide +kernel
theorem dX7_draw_43 : decode cX7_draw 43 = .ok (.iload_n 3, 1) := by decide +kernel
theorem dX7_draw_44 : decode cX7_draw 44 = .ok (.iconst 1, 1) := by decide +kernel
theorem dX7_draw_45 : decode cX7_draw 45 = .ok (.iload_n 3, 1) := by decide +kernel
theorem dX7_draw_46 : decode cX7_draw 46 = .ok (.iload_n 2, 1) := by decide +kernel
theorem dX7_draw_47 : decode cX7_draw 47 = .ok (.bipush 20, 2) := by decide +kernel
theorem dX7_draw_49 : decode cX7_draw 49 = .ok (.iload 5, 2) := by decide +kernel
theorem dX7_draw_51 : decode cX7_draw 51 = .ok (.isub, 1) := by decide +kernel
theorem dX7_draw_52 : decode cX7_draw 52 = .ok (.irem, 1) := by decide +kernel
theorem dX7_draw_53 : decode cX7_draw 53 = .ok (.invokestatic 113, 3) := by decide +kernel
theorem dX7_draw_56 : decode cX7_draw 56 = .ok (.ishl, 1) := by decide +kernel
theorem dX7_draw_57 : decode cX7_draw 57 = .ok (.ior, 1) := by decide +kernel
theorem dX7_draw_58 : decode cX7_draw 58 = .ok (.istore_n 3, 1) := by decide +kernel
theorem dX7_draw_59 : decode cX7_draw 59 = .ok (.iload 5, 2) := by decide +kernel
theorem dX7_draw_61 : decode cX7_draw 61 = .ok (.iconst 4, 1) := by decide +kernel
theorem dX7_draw_62 : decode cX7_draw 62 = .ok (.if_icmp .ne 7, 3) := by decide +kernel
theorem dX7_draw_65 : decode cX7_draw 65 = .ok (.iload_n 3, 1) := by decide +kernel
theorem dX7_draw_66 : decode cX7_draw 66 = .ok (.goto 5, 3) := by decide +kernel
theorem dX7_draw_69 : decode cX7_draw 69 = .ok (.iload 4, 2) := by decide +kernel
theorem dX7_draw_71 : decode cX7_draw 71 = .ok (.istore 4, 2) := by decide +kernel
theorem dX7_draw_73 : decode cX7_draw 73 = .ok (.iinc 5 1, 3) := by decide +kernel
theorem dX7_draw_76 : decode cX7_draw 76 = .ok (.goto (-53), 3) := by decide +kernel
theorem dX7_draw_79 : decode cX7_draw 79 = .ok (.aload_n 0, 1) := by decide +kernel
theorem dX7_draw_80 : decode cX7_draw 80 = .ok (.getfield 13, 3) := by decide +kernel
theorem dX7_draw_83 : decode cX7_draw 83 = .ok (.iconst 0, 1) := by decide +kernel
theorem dX7_draw_84 : decode cX7_draw 84 = .ok (.iload 4, 2) := by decide +kernel
theorem dX7_draw_86 : decode cX7_draw 86 = .ok (.iastore, 1) := by decide +kernel
theorem dX7_draw_87 : decode cX7_draw 87 = .ok (.aload_n 0, 1) := by decide +kernel
theorem dX7_draw_88 : decode cX7_draw 88 = .ok (.getfield 13, 3) := by decide +kernel
theorem dX7_draw_91 : decode cX7_draw 91 = .ok (.iconst 1, 1) := by decide +kernel
theorem dX7_draw_92 : decode cX7_draw 92 = .ok (.iload_n 3, 1) := by decide +kernel
theorem dX7_draw_93 : decode cX7_draw 93 = .ok (.iload 4, 2) := by decide +kernel
theorem dX7_draw_95 : decode cX7_draw 95 = .ok (.iconst (-1), 1) := by decide +kernel
theorem dX7_draw_96 : decode cX7_draw 96 = .ok (.ixor, 1) := by decide +kernel
theorem dX7_draw_97 : decode cX7_draw 97 = .ok (.iand, 1) := by decide +kernel
theorem dX7_draw_98 : decode cX7_draw 98 = .ok (.iastore, 1) := by decide +kernel
theorem dX7_draw_99 : decode cX7_draw 99 = .ok (.aload_n 0, 1) := by decide +kernel
theorem dX7_draw_100 : decode cX7_draw 100 = .ok (.invokevirtual 47, 3) := by decide +kernel
theorem dX7_draw_103 : decode cX7_draw 103 = .ok (.iload 4, 2) := by decide +kernel
theorem dX7_draw_105 : decode cX7_draw 105 = .ok (.ireturn, 1) := by decide +kernel
theorem dX7_hand_0 : decode cX7_hand 0 = .ok (.iload_n 1, 1) := by decide +kernel
theorem dX7_hand_1 : decode cX7_hand 1 = .ok (.invokestatic 105, 3) := by decide +kernel
theorem dX7_hand_4 : decode cX7_hand 4 = .ok (.ifCond .ne 5, 3) := by decide +kernel
theorem dX7_hand_7 : decode cX7_hand 7 = .ok (.iconst (-1), 1) := by decide +kernel
theorem dX7_hand_8 : decode cX7_hand 8 = .ok (.ireturn, 1) := by decide +kernel
theorem dX7_hand_9 : decode cX7_hand 9 = .ok (.iload_n 2, 1) := by decide +kernel
theorem dX7_hand_10 : decode cX7_hand 10 = .ok (.iconst 0, 1) := by decide +kernel
theorem dX7_hand_11 : decode cX7_hand 11 = .ok (.iconst 5, 1) := by decide +kernel
theorem dX7_hand_12 : decode cX7_hand 12 = .ok (.invokestatic 55, 3) := by decide +kernel
theorem dX7_hand_15 : decode cX7_hand 15 = .ok (.ifCond .ne 6, 3) := by decide +kernel
theorem dX7_hand_18 : decode cX7_hand 18 = .ok (.bipush (-2), 2) := by decide +kernel
theorem dX7_hand_20 : decode cX7_hand 20 = .ok (.ireturn, 1) := by decide +kernel
theorem dX7_hand_21 : decode cX7_hand 21 = .ok (.iload_n 2, 1) := by decide +kernel
theorem dX7_hand_22 : decode cX7_hand 22 = .ok (.ifCond .ne 12, 3) := by decide +kernel
theorem dX7_hand_25 : decode cX7_hand 25 = .ok (.aload_n 0, 1) := by decide +kernel
theorem dX7_hand_26 : decode cX7_hand 26 = .ok (.getfield 13, 3) := by decide +kernel
theorem dX7_hand_29 : decode cX7_hand 29 = .ok (.iload_n 1, 1) := by decide +kernel
theorem dX7_hand_30 : decode cX7_hand 30 = .ok (.iaload, 1) := by decide +kernel
theorem dX7_hand_31 : decode cX7_hand 31 = .ok (.goto 34, 3) := by decide +kernel
theorem dX7_hand_34 : decode cX7_hand 34 = .ok (.iload_n 2, 1) := by decide +kernel
theorem dX7_hand_35 : decode cX7_hand 35 = .ok (.iconst 5, 1) := by decide +kernel
theorem dX7_hand_36 : decode cX7_hand 36 = .ok (.if_icmp .ne 16, 3) := by decide +kernel
theorem dX7_hand_39 : decode cX7_hand 39 = .ok (.aload_n 0, 1) := by decide +kernel
theorem dX7_hand_40 : decode cX7_hand 40 = .ok (.aload_n 0, 1) := by decide +kernel
theorem dX7_hand_41 : decode cX7_hand 41 = .ok (.getfield 13, 3) := by decide +kernel
theorem dX7_hand_44 : decode cX7_hand 44 = .ok (.iload_n 1, 1) := by decide +kernel
theorem dX7_hand_45 : decode cX7_hand 45 = .ok (.iaload, 1) := by decide +kernel
theorem dX7_hand_46 : decode cX7_hand 46 = .ok (.invokevirtual 74, 3) := by decide +kernel
theorem dX7_hand_49 : decode cX7_hand 49 = .ok (.goto 16, 3) := by decide +kernel
theorem dX7_hand_52 : decode cX7_hand 52 = .ok (.aload_n 0, 1) := by decide +kernel
theorem dX7_hand_53 : decode cX7_hand 53 = .ok (.aload_n 0, 1) := by decide +kernel
theorem dX7_hand_54 : decode cX7_hand 54 = .ok (.getfield 13, 3) := by decide +kernel
theorem dX7_hand_57 : decode cX7_hand 57 = .ok (.iload_n 1, 1) := by decide +kernel
theorem dX7_hand_58 : decode cX7_hand 58 = .ok (.iaload, 1) := by decide +kernel
theorem dX7_hand_59 : decode cX7_hand 59 = .ok (.iload_n 2, 1) := by decide +kernel
theorem dX7_hand_60 : decode cX7_hand 60 = .ok (.iconst 1, 1) := by decide +kernel
theorem dX7_hand_61 : decode cX7_hand 61 = .ok (.isub, 1) := by decide +kernel
theorem dX7_hand_62 : decode cX7_hand 62 = .ok (.invokevirtual 50, 3) := by decide +kernel
theorem dX7_hand_65 : decode cX7_hand 65 = .ok (.ireturn, 1) := by decide +kernel
theorem dX7_isOpen_0 : decode cX7_isOpen 0 = .ok (.aload_n 0, 1) := by decide +kernel
theorem dX7_isOpen_1 : decode cX7_isOpen 1 = .ok (.iload_n 1, 1) := by decide +kernel
theorem dX7_isOpen_2 : decode cX7_isOpen 2 = .ok (.iconst 1, 1) := by decide +kernel
theorem dX7_isOpen_3 : decode cX7_isOpen 3 = .ok (.invokevirtual 77, 3) := by decide +kernel
theorem dX7_isOpen_6 : decode cX7_isOpen 6 = .ok (.istore 5, 2) := by decide +kernel
theorem dX7_isOpen_8 : decode cX7_isOpen 8 = .ok (.aload_n 0, 1) := by decide +kernel
theorem dX7_isOpen_9 : decode cX7_isOpen 9 = .ok (.iload_n 1, 1) := by decide +kernel
theorem dX7_isOpen_10 : decode cX7_isOpen 10 = .ok (.iconst 0, 1) := by decide +kernel
theorem dX7_isOpen_11 : decode cX7_isOpen 11 = .ok (.invokevirtual 77, 3) := by decide +kernel
theorem dX7_isOpen_14 : decode cX7_isOpen 14 = .ok (.iload_n 2, 1) := by decide +kernel
theorem dX7_isOpen_15 : decode cX7_isOpen 15 = .ok (.if_icmp .ne 28, 3) := by decide +kernel
theorem dX7_isOpen_18 : decode cX7_isOpen 18 = .ok (.iload 5, 2) := by decide +kernel
theorem dX7_isOpen_20 : decode cX7_isOpen 20 = .ok (.bipush 25, 2) := by decide +kernel
theorem dX7_isOpen_22 : decode cX7_isOpen 22 = .ok (.if_icmp .ne 11, 3) := by decide +kernel
theorem dX7_isOpen_25 : decode cX7_isOpen 25 = .ok (.iload 4, 2) := by decide +kernel
theorem dX7_isOpen_27 : decode cX7_isOpen 27 = .ok (.ifCond .ne 16, 3) := by decide +kernel
theorem dX7_isOpen_30 : decode cX7_isOpen 30 = .ok (.goto 9, 3) := by decide +kernel
theorem dX7_isOpen_33 : decode cX7_isOpen 33 = .ok (.iload 5, 2) := by decide +kernel
theorem dX7_isOpen_35 : decode cX7_isOpen 35 = .ok (.iload_n 3, 1) := by decide +kernel
theorem dX7_isOpen_36 : decode cX7_isOpen 36 = .ok (.if_icmp .le 7, 3) := by decide +kernel
theorem dX7_isOpen_39 : decode cX7_isOpen 39 = .ok (.iconst 1, 1) := by decide +kernel
theorem dX7_isOpen_40 : decode cX7_isOpen 40 = .ok (.goto 4, 3) := by decide +kernel
theorem dX7_isOpen_43 : decode cX7_isOpen 43 = .ok (.iconst 0, 1) := by decide +kernel
theorem dX7_isOpen_44 : decode cX7_isOpen 44 = .ok (.ireturn, 1) := by decide +kernel
theorem dX7_ruleFor_0 : decode cX7_ruleFor 0 = .ok (.iconst 0, 1) := by decide +kernel
theorem dX7_ruleFor_1 : decode cX7_ruleFor 1 = .ok (.istore 5, 2) := by decide +kernel
theorem dX7_ruleFor_3 : decode cX7_ruleFor 3 = .ok (.iload 5, 2) := by decide +kernel
theorem dX7_ruleFor_5 : decode cX7_ruleFor 5 = .ok (.aload_n 0, 1) := by decide +kernel
theorem dX7_ruleFor_6 : decode cX7_ruleFor 6 = .ok (.getfield 63, 3) := by decide +kernel
theorem dX7_ruleFor_9 : decode cX7_ruleFor 9 = .ok (.if_icmp .ge 35, 3) := by decide +kernel
theorem dX7_ruleFor_12 : decode cX7_ruleFor 12 = .ok (.aload_n 0, 1) := by decide +kernel
theorem dX7_ruleFor_13 : decode cX7_ruleFor 13 = .ok (.iload 5, 2) := by decide +kernel
theorem dX7_ruleFor_15 : decode cX7_ruleFor 15 = .ok (.iload_n 2, 1) := by decide +kernel
theorem dX7_ruleFor_16 : decode cX7_ruleFor 16 = .ok (.iload_n 3, 1) := by decide +kernel
theorem dX7_ruleFor_17 : decode cX7_ruleFor 17 = .ok (.iload 4, 2) := by decide +kernel
theorem dX7_ruleFor_19 : decode cX7_ruleFor 19 = .ok (.invokevirtual 116, 3) := by decide +kernel
theorem dX7_ruleFor_22 : decode cX7_ruleFor 22 = .ok (.ifCond .eq 16, 3) := by decide +kernel
theorem dX7_ruleFor_25 : decode cX7_ruleFor 25 = .ok (.aload_n 0, 1) := by decide +kernel
theorem dX7_ruleFor_26 : decode cX7_ruleFor 26 = .ok (.iload_n 1, 1) := by decide +kernel
theorem dX7_ruleFor_27 : decode cX7_ruleFor 27 = .ok (.iload 5, 2) := by decide +kernel
theorem dX7_ruleFor_29 : decode cX7_ruleFor 29 = .ok (.invokevirtual 95, 3) := by decide +kernel
theorem dX7_ruleFor_32 : decode cX7_ruleFor 32 = .ok (.ifCond .eq 6, 3) := by decide +kernel
theorem dX7_ruleFor_35 : decode cX7_ruleFor 35 = .ok (.iload 5, 2) := by decide +kernel
theorem dX7_ruleFor_37 : decode cX7_ruleFor 37 = .ok (.ireturn, 1) := by decide +kernel
theorem dX7_ruleFor_38 : decode cX7_ruleFor 38 = .ok (.iinc 5 1, 3) := by decide +kernel
theorem dX7_ruleFor_41 : decode cX7_ruleFor 41 = .ok (.goto (-38), 3) := by decide +kernel
theorem dX7_ruleFor_44 : decode cX7_ruleFor 44 = .ok (.bipush (-6), 2) := by decide +kernel
theorem dX7_ruleFor_46 : decode cX7_ruleFor 46 = .ok (.ireturn, 1) := by decide +kernel
theorem dX7_isOver_0 : decode cX7_isOver 0 = .ok (.aload_n 0, 1) := by decide +kernel
theorem dX7_isOver_1 : decode cX7_isOver 1 = .ok (.getfield 70, 3) := by decide +kernel
theorem dX7_isOver_4 : decode cX7_isOver 4 = .ok (.ifCond .ne 35, 3) := by decide +kernel
theorem dX7_isOver_7 : decode cX7_isOver 7 = .ok (.aload_n 0, 1) := by decide +kernel
theorem dX7_isOver_8 : decode cX7_isOver 8 = .ok (.getfield 67, 3) := by decide +kernel
theorem dX7_isOver_11 : decode cX7_isOver 11 = .ok (.bipush 12, 2) := by decide +kernel
theorem dX7_isOver_13 : decode cX7_isOver 13 = .ok (.if_icmp .eq 26, 3) := by decide +kernel
theorem dX7_isOver_16 : decode cX7_isOver 16 = .ok (.aload_n 0, 1) := by decide +kernel
theorem dX7_isOver_17 : decode cX7_isOver 17 = .ok (.getfield 67, 3) := by decide +kernel
theorem dX7_isOver_20 : decode cX7_isOver 20 = .ok (.ifCond .le 23, 3) := by decide +kernel
theorem dX7_isOver_23 : decode cX7_isOver 23 = .ok (.aload_n 0, 1) := by decide +kernel
theorem dX7_isOver_24 : decode cX7_isOver 24 = .ok (.getfield 22, 3) := by decide +kernel
theorem dX7_isOver_27 : decode cX7_isOver 27 = .ok (.aload_n 0, 1) := by decide +kernel
theorem dX7_isOver_28 : decode cX7_isOver 28 = .ok (.getfield 67, 3) := by decide +kernel
theorem dX7_isOver_31 : decode cX7_isOver 31 = .ok (.iconst 1, 1) := by decide +kernel
theorem dX7_isOver_32 : decode cX7_isOver 32 = .ok (.isub, 1) := by decide +kernel
theorem dX7_isOver_33 : decode cX7_isOver 33 = .ok (.iaload, 1) := by decide +kernel
theorem dX7_isOver_34 : decode cX7_isOver 34 = .ok (.bipush 25, 2) := by decide +kernel
theorem dX7_isOver_36 : decode cX7_isOver 36 = .ok (.if_icmp .ne 7, 3) := by decide +kernel
theorem dX7_isOver_39 : decode cX7_isOver 39 = .ok (.iconst 1, 1) := by decide +kernel
theorem dX7_isOver_40 : decode cX7_isOver 40 = .ok (.goto 4, 3) := by decide +kernel
theorem dX7_isOver_43 : decode cX7_isOver 43 = .ok (.iconst 0, 1) := by decide +kernel
theorem dX7_isOver_44 : decode cX7_isOver 44 = .ok (.ireturn, 1) := by decide +kernel
theorem dX7_callBy_0 : decode cX7_callBy 0 = .ok (.aload_n 0, 1) := by decide +kernel
theorem dX7_callBy_1 : decode cX7_callBy 1 = .ok (.iload_n 1, 1) := by decide +kernel
theorem dX7_callBy_2 : decode cX7_callBy 2 = .ok (.iconst 1, 1) := by decide +kernel
theorem dX7_callBy_3 : decode cX7_callBy 3 = .ok (.invokevirtual 77, 3) := by decide +kernel
theorem dX7_callBy_6 : decode cX7_callBy 6 = .ok (.istore_n 2, 1) := by decide +kernel
theorem dX7_callBy_7 : decode cX7_callBy 7 = .ok (.iload_n 2, 1) := by decide +kernel
theorem dX7_callBy_8 : decode cX7_callBy 8 = .ok (.bipush 25, 2) := by decide +kernel
theorem dX7_callBy_10 : decode cX7_callBy 10 = .ok (.if_icmp .eq 7, 3) := by decide +kernel
theorem dX7_callBy_13 : decode cX7_callBy 13 = .ok (.iconst 1, 1) := by decide +kernel
theorem dX7_callBy_14 : decode cX7_callBy 14 = .ok (.goto 4, 3) := by decide +kernel
theorem dX7_callBy_17 : decode cX7_callBy 17 = .ok (.iconst 0, 1) := by decide +kernel
theorem dX7_callBy_18 : decode cX7_callBy 18 = .ok (.istore_n 3, 1) := by decide +kernel
theorem dX7_callBy_19 : decode cX7_callBy 19 = .ok (.aload_n 0, 1) := by decide +kernel
theorem dX7_callBy_20 : decode cX7_callBy 20 = .ok (.getfield 22, 3) := by decide +kernel
theorem dX7_callBy_23 : decode cX7_callBy 23 = .ok (.aload_n 0, 1) := by decide +kernel
theorem dX7_callBy_24 : decode cX7_callBy 24 = .ok (.getfield 67, 3) := by decide +kernel
theorem dX7_callBy_27 : decode cX7_callBy 27 = .ok (.iload_n 2, 1) := by decide +kernel
theorem dX7_callBy_28 : decode cX7_callBy 28 = .ok (.iastore, 1) := by decide +kernel
theorem dX7_callBy_29 : decode cX7_callBy 29 = .ok (.aload_n 0, 1) := by decide +kernel
theorem dX7_callBy_30 : decode cX7_callBy 30 = .ok (.getfield 25, 3) := by decide +kernel
theorem dX7_callBy_33 : decode cX7_callBy 33 = .ok (.aload_n 0, 1) := by decide +kernel
theorem dX7_callBy_34 : decode cX7_callBy 34 = .ok (.getfield 67, 3) := by decide +kernel
theorem dX7_callBy_37 : decode cX7_callBy 37 = .ok (.iload_n 1, 1) := by decide +kernel
theorem dX7_callBy_38 : decode cX7_callBy 38 = .ok (.iastore, 1) := by decide +kernel
theorem dX7_callBy_39 : decode cX7_callBy 39 = .ok (.aload_n 0, 1) := by decide +kernel
theorem dX7_callBy_40 : decode cX7_callBy 40 = .ok (.getfield 28, 3) := by decide +kernel
theorem dX7_callBy_43 : decode cX7_callBy 43 = .ok (.aload_n 0, 1) := by decide +kernel
theorem dX7_callBy_44 : decode cX7_callBy 44 = .ok (.getfield 67, 3) := by decide +kernel
theorem dX7_callBy_47 : decode cX7_callBy 47 = .ok (.iconst 1, 1) := by decide +kernel
theorem dX7_callBy_48 : decode cX7_callBy 48 = .ok (.iadd, 1) := by decide +kernel
theorem dX7_callBy_49 : decode cX7_callBy 49 = .ok (.iload_n 3, 1) := by decide +kernel
theorem dX7_callBy_50 : decode cX7_callBy 50 = .ok (.ifCond .eq 12, 3) := by decide +kernel
theorem dX7_callBy_53 : decode cX7_callBy 53 = .ok (.aload_n 0, 1) := by decide +kernel
theorem dX7_callBy_54 : decode cX7_callBy 54 = .ok (.iload_n 1, 1) := by decide +kernel
theorem dX7_callBy_55 : decode cX7_callBy 55 = .ok (.iconst 2, 1) := by decide +kernel
theorem dX7_callBy_56 : decode cX7_callBy 56 = .ok (.invokevirtual 77, 3) := by decide +kernel
theorem dX7_callBy_59 : decode cX7_callBy 59 = .ok (.goto 12, 3) := by decide +kernel
theorem dX7_callBy_62 : decode cX7_callBy 62 = .ok (.aload_n 0, 1) := by decide +kernel
theorem dX7_callBy_63 : decode cX7_callBy 63 = .ok (.getfield 28, 3) := by decide +kernel
theorem dX7_callBy_66 : decode cX7_callBy 66 = .ok (.aload_n 0, 1) := by decide +kernel
theorem dX7_callBy_67 : decode cX7_callBy 67 = .ok (.getfield 67, 3) := by decide +kernel
theorem dX7_callBy_70 : decode cX7_callBy 70 = .ok (.iaload, 1) := by decide +kernel
theorem dX7_callBy_71 : decode cX7_callBy 71 = .ok (.iastore, 1) := by decide +kernel
theorem dX7_callBy_72 : decode cX7_callBy 72 = .ok (.aload_n 0, 1) := by decide +kernel
theorem dX7_callBy_73 : decode cX7_callBy 73 = .ok (.getfield 31, 3) := by decide +kernel
theorem dX7_callBy_76 : decode cX7_callBy 76 = .ok (.aload_n 0, 1) := by decide +kernel
theorem dX7_callBy_77 : decode cX7_callBy 77 = .ok (.getfield 67, 3) := by decide +kernel
theorem dX7_callBy_80 : decode cX7_callBy 80 = .ok (.iconst 1, 1) := by decide +kernel
theorem dX7_callBy_81 : decode cX7_callBy 81 = .ok (.iadd, 1) := by decide +kernel
theorem dX7_callBy_82 : decode cX7_callBy 82 = .ok (.iload_n 3, 1) := by decide +kernel
theorem dX7_callBy_83 : decode cX7_callBy 83 = .ok (.ifCond .eq 12, 3) := by decide +kernel
theorem dX7_callBy_86 : decode cX7_callBy 86 = .ok (.aload_n 0, 1) := by decide +kernel
theorem dX7_callBy_87 : decode cX7_callBy 87 = .ok (.iload_n 1, 1) := by decide +kernel
theorem dX7_callBy_88 : decode cX7_callBy 88 = .ok (.iconst 3, 1) := by decide +kernel
theorem dX7_callBy_89 : decode cX7_callBy 89 = .ok (.invokevirtual 77, 3) := by decide +kernel
theorem dX7_callBy_92 : decode cX7_callBy 92 = .ok (.goto 12, 3) := by decide +kernel
theorem dX7_callBy_95 : decode cX7_callBy 95 = .ok (.aload_n 0, 1) := by decide +kernel
theorem dX7_callBy_96 : decode cX7_callBy 96 = .ok (.getfield 31, 3) := by decide +kernel
theorem dX7_callBy_99 : decode cX7_callBy 99 = .ok (.aload_n 0, 1) := by decide +kernel
theorem dX7_callBy_100 : decode cX7_callBy 100 = .ok (.getfield 67, 3) := by decide +kernel
theorem dX7_callBy_103 : decode cX7_callBy 103 = .ok (.iaload, 1) := by decide +kernel
theorem dX7_callBy_104 : decode cX7_callBy 104 = .ok (.iastore, 1) := by decide +kernel
theorem dX7_callBy_105 : decode cX7_callBy 105 = .ok (.aload_n 0, 1) := by decide +kernel
theorem dX7_callBy_106 : decode cX7_callBy 106 = .ok (.getfield 34, 3) := by decide +kernel
theorem dX7_callBy_109 : decode cX7_callBy 109 = .ok (.aload_n 0, 1) := by decide +kernel
theorem dX7_callBy_110 : decode cX7_callBy 110 = .ok (.getfield 67, 3) := by decide +kernel
theorem dX7_callBy_113 : decode cX7_callBy 113 = .ok (.iconst 1, 1) := by decide +kernel
theorem dX7_callBy_114 : decode cX7_callBy 114 = .ok (.iadd, 1) := by decide +kernel
theorem dX7_callBy_115 : decode cX7_callBy 115 = .ok (.iload_n 3, 1) := by decide +kernel
theorem dX7_callBy_116 : decode cX7_callBy 116 = .ok (.ifCond .eq 7, 3) := by decide +kernel
theorem dX7_callBy_119 : decode cX7_callBy 119 = .ok (.iload_n 2, 1) := by decide +kernel
theorem dX7_callBy_120 : decode cX7_callBy 120 = .ok (.goto 12, 3) := by decide +kernel
theorem dX7_callBy_123 : decode cX7_callBy 123 = .ok (.aload_n 0, 1) := by decide +kernel
theorem dX7_callBy_124 : decode cX7_callBy 124 = .ok (.getfield 34, 3) := by decide +kernel
theorem dX7_callBy_127 : decode cX7_callBy 127 = .ok (.aload_n 0, 1) := by decide +kernel
theorem dX7_callBy_128 : decode cX7_callBy 128 = .ok (.getfield 67, 3) := by decide +kernel
theorem dX7_callBy_131 : decode cX7_callBy 131 = .ok (.iaload, 1) := by decide +kernel
theorem dX7_callBy_132 : decode cX7_callBy 132 = .ok (.iastore, 1) := by decide +kernel
theorem dX7_callBy_133 : decode cX7_callBy 133 = .ok (.aload_n 0, 1) := by decide +kernel
theorem dX7_callBy_134 : decode cX7_callBy 134 = .ok (.dup, 1) := by decide +kernel
theorem dX7_callBy_135 : decode cX7_callBy 135 = .ok (.getfield 67, 3) := by decide +kernel
theorem dX7_callBy_138 : decode cX7_callBy 138 = .ok (.iconst 1, 1) := by decide +kernel
theorem dX7_callBy_139 : decode cX7_callBy 139 = .ok (.iadd, 1) := by decide +kernel
theorem dX7_callBy_140 : decode cX7_callBy 140 = .ok (.putfield 67, 3) := by decide +kernel
theorem dX7_callBy_143 : decode cX7_callBy 143 = .ok (.return_, 1) := by decide +kernel
theorem dX7_begin_0 : decode cX7_begin 0 = .ok (.aload_n 0, 1) := by decide +kernel
theorem dX7_begin_1 : decode cX7_begin 1 = .ok (.getfield 67, 3) := by decide +kernel
theorem dX7_begin_4 : decode cX7_begin 4 = .ok (.istore_n 1, 1) := by decide +kernel
theorem dX7_begin_5 : decode cX7_begin 5 = .ok (.aload_n 0, 1) := by decide +kernel
theorem dX7_begin_6 : decode cX7_begin 6 = .ok (.invokevirtual 47, 3) := by decide +kernel
theorem dX7_begin_9 : decode cX7_begin 9 = .ok (.iload_n 1, 1) := by decide +kernel
theorem dX7_begin_10 : decode cX7_begin 10 = .ok (.ireturn, 1) := by decide +kernel
theorem dX7_call_0 : decode cX7_call 0 = .ok (.aload_n 0, 1) := by decide +kernel
theorem dX7_call_1 : decode cX7_call 1 = .ok (.invokevirtual 120, 3) := by decide +kernel
theorem dX7_call_4 : decode cX7_call 4 = .ok (.ifCond .eq 6, 3) := by decide +kernel
theorem dX7_call_7 : decode cX7_call 7 = .ok (.bipush (-5), 2) := by decide +kernel
theorem dX7_call_9 : decode cX7_call 9 = .ok (.ireturn, 1) := by decide +kernel
theorem dX7_call_10 : decode cX7_call 10 = .ok (.aload_n 0, 1) := by decide +kernel
theorem dX7_call_11 : decode cX7_call 11 = .ok (.aload_n 0, 1) := by decide +kernel
theorem dX7_call_12 : decode cX7_call 12 = .ok (.getfield 13, 3) := by decide +kernel
theorem dX7_call_15 : decode cX7_call 15 = .ok (.aload_n 0, 1) := by decide +kernel
theorem dX7_call_16 : decode cX7_call 16 = .ok (.getfield 67, 3) := by decide +kernel
theorem dX7_call_19 : decode cX7_call 19 = .ok (.iconst 2, 1) := by decide +kernel
theorem dX7_call_20 : decode cX7_call 20 = .ok (.irem, 1) := by decide +kernel
theorem dX7_call_21 : decode cX7_call 21 = .ok (.iaload, 1) := by decide +kernel
theorem dX7_call_22 : decode cX7_call 22 = .ok (.aload_n 0, 1) := by decide +kernel
theorem dX7_call_23 : decode cX7_call 23 = .ok (.getfield 28, 3) := by decide +kernel
theorem dX7_call_26 : decode cX7_call 26 = .ok (.aload_n 0, 1) := by decide +kernel
theorem dX7_call_27 : decode cX7_call 27 = .ok (.getfield 67, 3) := by decide +kernel
theorem dX7_call_30 : decode cX7_call 30 = .ok (.iaload, 1) := by decide +kernel
theorem dX7_call_31 : decode cX7_call 31 = .ok (.aload_n 0, 1) := by decide +kernel
theorem dX7_call_32 : decode cX7_call 32 = .ok (.getfield 34, 3) := by decide +kernel
theorem dX7_call_35 : decode cX7_call 35 = .ok (.aload_n 0, 1) := by decide +kernel
theorem dX7_call_36 : decode cX7_call 36 = .ok (.getfield 67, 3) := by decide +kernel
theorem dX7_call_39 : decode cX7_call 39 = .ok (.iaload, 1) := by decide +kernel
theorem dX7_call_40 : decode cX7_call 40 = .ok (.aload_n 0, 1) := by decide +kernel
theorem dX7_call_41 : decode cX7_call 41 = .ok (.getfield 31, 3) := by decide +kernel
theorem dX7_call_44 : decode cX7_call 44 = .ok (.aload_n 0, 1) := by decide +kernel
theorem dX7_call_45 : decode cX7_call 45 = .ok (.getfield 67, 3) := by decide +kernel
theorem dX7_call_48 : decode cX7_call 48 = .ok (.iaload, 1) := by decide +kernel
theorem dX7_call_49 : decode cX7_call 49 = .ok (.invokevirtual 124, 3) := by decide +kernel
theorem dX7_call_52 : decode cX7_call 52 = .ok (.istore_n 1, 1) := by decide +kernel
theorem dX7_call_53 : decode cX7_call 53 = .ok (.iload_n 1, 1) := by decide +kernel
theorem dX7_call_54 : decode cX7_call 54 = .ok (.ifCond .ge 11, 3) := by decide +kernel
theorem dX7_call_57 : decode cX7_call 57 = .ok (.aload_n 0, 1) := by decide +kernel
theorem dX7_call_58 : decode cX7_call 58 = .ok (.iconst 1, 1) := by decide +kernel
theorem dX7_call_59 : decode cX7_call 59 = .ok (.putfield 70, 3) := by decide +kernel
theorem dX7_call_62 : decode cX7_call 62 = .ok (.bipush (-6), 2) := by decide +kernel
theorem dX7_call_64 : decode cX7_call 64 = .ok (.ireturn, 1) := by decide +kernel
theorem dX7_call_65 : decode cX7_call 65 = .ok (.aload_n 0, 1) := by decide +kernel
theorem dX7_call_66 : decode cX7_call 66 = .ok (.iload_n 1, 1) := by decide +kernel
theorem dX7_call_67 : decode cX7_call 67 = .ok (.invokevirtual 128, 3) := by decide +kernel
theorem dX7_call_70 : decode cX7_call 70 = .ok (.aload_n 0, 1) := by decide +kernel
theorem dX7_call_71 : decode cX7_call 71 = .ok (.getfield 22, 3) := by decide +kernel
theorem dX7_call_74 : decode cX7_call 74 = .ok (.aload_n 0, 1) := by decide +kernel
theorem dX7_call_75 : decode cX7_call 75 = .ok (.getfield 67, 3) := by decide +kernel
theorem dX7_call_78 : decode cX7_call 78 = .ok (.iconst 1, 1) := by decide +kernel
theorem dX7_call_79 : decode cX7_call 79 = .ok (.isub, 1) := by decide +kernel
theorem dX7_call_80 : decode cX7_call 80 = .ok (.iaload, 1) := by decide +kernel
theorem dX7_call_81 : decode cX7_call 81 = .ok (.ireturn, 1) := by decide +kernel
theorem dX7_make_0 : decode cX7_make 0 = .ok (.iload_n 1, 1) := by decide +kernel
theorem dX7_make_1 : decode cX7_make 1 = .ok (.iconst 0, 1) := by decide +kernel
theorem dX7_make_2 : decode cX7_make 2 = .ok (.bipush 25, 2) := by decide +kernel
theorem dX7_make_4 : decode cX7_make 4 = .ok (.invokestatic 55, 3) := by decide +kernel
theorem dX7_make_7 : decode cX7_make 7 = .ok (.ifCond .ne 6, 3) := by decide +kernel
theorem dX7_make_10 : decode cX7_make 10 = .ok (.bipush (-2), 2) := by decide +kernel
theorem dX7_make_12 : decode cX7_make 12 = .ok (.ireturn, 1) := by decide +kernel
theorem dX7_make_13 : decode cX7_make 13 = .ok (.aload_n 0, 1) := by decide +kernel
theorem dX7_make_14 : decode cX7_make 14 = .ok (.invokevirtual 120, 3) := by decide +kernel
theorem dX7_make_17 : decode cX7_make 17 = .ok (.ifCond .eq 6, 3) := by decide +kernel
theorem dX7_make_20 : decode cX7_make 20 = .ok (.bipush (-5), 2) := by decide +kernel
theorem dX7_make_22 : decode cX7_make 22 = .ok (.ireturn, 1) := by decide +kernel
theorem dX7_make_23 : decode cX7_make 23 = .ok (.bipush (-6), 2) := by decide +kernel
theorem dX7_make_25 : decode cX7_make 25 = .ok (.istore_n 2, 1) := by decide +kernel
theorem dX7_make_26 : decode cX7_make 26 = .ok (.iconst 0, 1) := by decide +kernel
theorem dX7_make_27 : decode cX7_make 27 = .ok (.istore_n 3, 1) := by decide +kernel
theorem dX7_make_28 : decode cX7_make 28 = .ok (.iload_n 3, 1) := by decide +kernel
theorem dX7_make_29 : decode cX7_make 29 = .ok (.aload_n 0, 1) := by decide +kernel
theorem dX7_make_30 : decode cX7_make 30 = .ok (.getfield 63, 3) := by decide +kernel
theorem dX7_make_33 : decode cX7_make 33 = .ok (.if_icmp .ge 60, 3) := by decide +kernel
theorem dX7_make_36 : decode cX7_make 36 = .ok (.aload_n 0, 1) := by decide +kernel
theorem dX7_make_37 : decode cX7_make 37 = .ok (.iload_n 3, 1) := by decide +kernel
theorem dX7_make_38 : decode cX7_make 38 = .ok (.iconst 1, 1) := by decide +kernel
theorem dX7_make_39 : decode cX7_make 39 = .ok (.invokevirtual 77, 3) := by decide +kernel
theorem dX7_make_42 : decode cX7_make 42 = .ok (.iload_n 1, 1) := by decide +kernel
theorem dX7_make_43 : decode cX7_make 43 = .ok (.if_icmp .ne 42, 3) := by decide +kernel
theorem dX7_make_46 : decode cX7_make 46 = .ok (.aload_n 0, 1) := by decide +kernel
theorem dX7_make_47 : decode cX7_make 47 = .ok (.iload_n 3, 1) := by decide +kernel
theorem dX7_make_48 : decode cX7_make 48 = .ok (.aload_n 0, 1) := by decide +kernel
theorem dX7_make_49 : decode cX7_make 49 = .ok (.getfield 28, 3) := by decide +kernel
theorem dX7_make_52 : decode cX7_make 52 = .ok (.aload_n 0, 1) := by decide +kernel
theorem dX7_make_53 : decode cX7_make 53 = .ok (.getfield 67, 3) := by decide +kernel
theorem dX7_make_56 : decode cX7_make 56 = .ok (.iaload, 1) := by decide +kernel
theorem dX7_make_57 : decode cX7_make 57 = .ok (.aload_n 0, 1) := by decide +kernel
theorem dX7_make_58 : decode cX7_make 58 = .ok (.getfield 34, 3) := by decide +kernel
theorem dX7_make_61 : decode cX7_make 61 = .ok (.aload_n 0, 1) := by decide +kernel
theorem dX7_make_62 : decode cX7_make 62 = .ok (.getfield 67, 3) := by decide +kernel
theorem dX7_make_65 : decode cX7_make 65 = .ok (.iaload, 1) := by decide +kernel
theorem dX7_make_66 : decode cX7_make 66 = .ok (.aload_n 0, 1) := by decide +kernel
theorem dX7_make_67 : decode cX7_make 67 = .ok (.getfield 31, 3) := by decide +kernel
theorem dX7_make_70 : decode cX7_make 70 = .ok (.aload_n 0, 1) := by decide +kernel
theorem dX7_make_71 : decode cX7_make 71 = .ok (.getfield 67, 3) := by decide +kernel
theorem dX7_make_74 : decode cX7_make 74 = .ok (.iaload, 1) := by decide +kernel
theorem dX7_make_75 : decode cX7_make 75 = .ok (.invokevirtual 116, 3) := by decide +kernel
theorem dX7_make_78 : decode cX7_make 78 = .ok (.ifCond .eq 7, 3) := by decide +kernel
theorem dX7_make_81 : decode cX7_make 81 = .ok (.iload_n 3, 1) := by decide +kernel
theorem dX7_make_82 : decode cX7_make 82 = .ok (.goto 4, 3) := by decide +kernel
theorem dX7_make_85 : decode cX7_make 85 = .ok (.iload_n 2, 1) := by decide +kernel
theorem dX7_make_86 : decode cX7_make 86 = .ok (.istore_n 2, 1) := by decide +kernel
theorem dX7_make_87 : decode cX7_make 87 = .ok (.iinc 3 1, 3) := by decide +kernel
theorem dX7_make_90 : decode cX7_make 90 = .ok (.goto (-62), 3) := by decide +kernel
theorem dX7_make_93 : decode cX7_make 93 = .ok (.iload_n 2, 1) := by decide +kernel
theorem dX7_make_94 : decode cX7_make 94 = .ok (.ifCond .ge 6, 3) := by decide +kernel
theorem dX7_make_97 : decode cX7_make 97 = .ok (.bipush (-5), 2) := by decide +kernel
theorem dX7_make_99 : decode cX7_make 99 = .ok (.ireturn, 1) := by decide +kernel
theorem dX7_make_100 : decode cX7_make 100 = .ok (.aload_n 0, 1) := by decide +kernel
theorem dX7_make_101 : decode cX7_make 101 = .ok (.iload_n 2, 1) := by decide +kernel
theorem dX7_make_102 : decode cX7_make 102 = .ok (.invokevirtual 128, 3) := by decide +kernel
theorem dX7_make_105 : decode cX7_make 105 = .ok (.aload_n 0, 1) := by decide +kernel
theorem dX7_make_106 : decode cX7_make 106 = .ok (.getfield 67, 3) := by decide +kernel
theorem dX7_make_109 : decode cX7_make 109 = .ok (.ireturn, 1) := by decide +kernel
theorem dX7_back_0 : decode cX7_back 0 = .ok (.aload_n 0, 1) := by decide +kernel
theorem dX7_back_1 : decode cX7_back 1 = .ok (.getfield 67, 3) := by decide +kernel
theorem dX7_back_4 : decode cX7_back 4 = .ok (.ifCond .ne 13, 3) := by decide +kernel
theorem dX7_back_7 : decode cX7_back 7 = .ok (.aload_n 0, 1) := by decide +kernel
theorem dX7_back_8 : decode cX7_back 8 = .ok (.getfield 70, 3) := by decide +kernel
theorem dX7_back_11 : decode cX7_back 11 = .ok (.ifCond .ne 6, 3) := by decide +kernel
theorem dX7_back_14 : decode cX7_back 14 = .ok (.bipush (-5), 2) := by decide +kernel
theorem dX7_back_16 : decode cX7_back 16 = .ok (.ireturn, 1) := by decide +kernel
theorem dX7_back_17 : decode cX7_back 17 = .ok (.aload_n 0, 1) := by decide +kernel
theorem dX7_back_18 : decode cX7_back 18 = .ok (.dup, 1) := by decide +kernel
theorem dX7_back_19 : decode cX7_back 19 = .ok (.getfield 67, 3) := by decide +kernel
theorem dX7_back_22 : decode cX7_back 22 = .ok (.aload_n 0, 1) := by decide +kernel
theorem dX7_back_23 : decode cX7_back 23 = .ok (.getfield 70, 3) := by decide +kernel
theorem dX7_back_26 : decode cX7_back 26 = .ok (.ifCond .eq 7, 3) := by decide +kernel
theorem dX7_back_29 : decode cX7_back 29 = .ok (.iconst 0, 1) := by decide +kernel
theorem dX7_back_30 : decode cX7_back 30 = .ok (.goto 4, 3) := by decide +kernel
theorem dX7_back_33 : decode cX7_back 33 = .ok (.iconst 1, 1) := by decide +kernel
theorem dX7_back_34 : decode cX7_back 34 = .ok (.isub, 1) := by decide +kernel
theorem dX7_back_35 : decode cX7_back 35 = .ok (.putfield 67, 3) := by decide +kernel
theorem dX7_back_38 : decode cX7_back 38 = .ok (.aload_n 0, 1) := by decide +kernel
theorem dX7_back_39 : decode cX7_back 39 = .ok (.iconst 0, 1) := by decide +kernel
theorem dX7_back_40 : decode cX7_back 40 = .ok (.putfield 70, 3) := by decide +kernel
theorem dX7_back_43 : decode cX7_back 43 = .ok (.aload_n 0, 1) := by decide +kernel
theorem dX7_back_44 : decode cX7_back 44 = .ok (.getfield 67, 3) := by decide +kernel
theorem dX7_back_47 : decode cX7_back 47 = .ok (.ireturn, 1) := by decide +kernel
theorem dX7_made_0 : decode cX7_made 0 = .ok (.iload_n 2, 1) := by decide +kernel
theorem dX7_made_1 : decode cX7_made 1 = .ok (.iconst 0, 1) := by decide +kernel
theorem dX7_made_2 : decode cX7_made 2 = .ok (.iconst 3, 1) := by decide +kernel
theorem dX7_made_3 : decode cX7_made 3 = .ok (.invokestatic 55, 3) := by decide +kernel
theorem dX7_made_6 : decode cX7_made 6 = .ok (.ifCond .ne 6, 3) := by decide +kernel
theorem dX7_made_9 : decode cX7_made 9 = .ok (.bipush (-2), 2) := by decide +kernel
theorem dX7_made_11 : decode cX7_made 11 = .ok (.ireturn, 1) := by decide +kernel
theorem dX7_made_12 : decode cX7_made 12 = .ok (.iload_n 1, 1) := by decide +kernel
theorem dX7_made_13 : decode cX7_made 13 = .ok (.iconst 0, 1) := by decide +kernel
theorem dX7_made_14 : decode cX7_made 14 = .ok (.aload_n 0, 1) := by decide +kernel
theorem dX7_made_15 : decode cX7_made 15 = .ok (.getfield 67, 3) := by decide +kernel
theorem dX7_made_18 : decode cX7_made 18 = .ok (.iconst 1, 1) := by decide +kernel
theorem dX7_made_19 : decode cX7_made 19 = .ok (.isub, 1) := by decide +kernel
theorem dX7_made_20 : decode cX7_made 20 = .ok (.invokestatic 55, 3) := by decide +kernel
theorem dX7_made_23 : decode cX7_made 23 = .ok (.ifCond .ne 6, 3) := by decide +kernel
theorem dX7_made_26 : decode cX7_made 26 = .ok (.bipush (-6), 2) := by decide +kernel
theorem dX7_made_28 : decode cX7_made 28 = .ok (.ireturn, 1) := by decide +kernel
theorem dX7_made_29 : decode cX7_made 29 = .ok (.iload_n 2, 1) := by decide +kernel
theorem dX7_made_30 : decode cX7_made 30 = .ok (.ifCond .ne 12, 3) := by decide +kernel
theorem dX7_made_33 : decode cX7_made 33 = .ok (.aload_n 0, 1) := by decide +kernel
theorem dX7_made_34 : decode cX7_made 34 = .ok (.getfield 22, 3) := by decide +kernel
theorem dX7_made_37 : decode cX7_made 37 = .ok (.iload_n 1, 1) := by decide +kernel
theorem dX7_made_38 : decode cX7_made 38 = .ok (.iaload, 1) := by decide +kernel
theorem dX7_made_39 : decode cX7_made 39 = .ok (.goto 37, 3) := by decide +kernel
theorem dX7_made_42 : decode cX7_made 42 = .ok (.iload_n 2, 1) := by decide +kernel
theorem dX7_made_43 : decode cX7_made 43 = .ok (.iconst 1, 1) := by decide +kernel
theorem dX7_made_44 : decode cX7_made 44 = .ok (.if_icmp .ne 12, 3) := by decide +kernel
theorem dX7_made_47 : decode cX7_made 47 = .ok (.aload_n 0, 1) := by decide +kernel
theorem dX7_made_48 : decode cX7_made 48 = .ok (.getfield 25, 3) := by decide +kernel
theorem dX7_made_51 : decode cX7_made 51 = .ok (.iload_n 1, 1) := by decide +kernel
theorem dX7_made_52 : decode cX7_made 52 = .ok (.iaload, 1) := by decide +kernel
theorem dX7_made_53 : decode cX7_made 53 = .ok (.goto 23, 3) := by decide +kernel
theorem dX7_made_56 : decode cX7_made 56 = .ok (.iload_n 2, 1) := by decide +kernel
theorem dX7_made_57 : decode cX7_made 57 = .ok (.iconst 2, 1) := by decide +kernel
theorem dX7_made_58 : decode cX7_made 58 = .ok (.if_icmp .ne 12, 3) := by decide +kernel
theorem dX7_made_61 : decode cX7_made 61 = .ok (.aload_n 0, 1) := by decide +kernel
theorem dX7_made_62 : decode cX7_made 62 = .ok (.getfield 28, 3) := by decide +kernel
theorem dX7_made_65 : decode cX7_made 65 = .ok (.iload_n 1, 1) := by decide +kernel
theorem dX7_made_66 : decode cX7_made 66 = .ok (.iaload, 1) := by decide +kernel
theorem dX7_made_67 : decode cX7_made 67 = .ok (.goto 9, 3) := by decide +kernel
theorem dX7_made_70 : decode cX7_made 70 = .ok (.aload_n 0, 1) := by decide +kernel
theorem dX7_made_71 : decode cX7_made 71 = .ok (.getfield 31, 3) := by decide +kernel
theorem dX7_made_74 : decode cX7_made 74 = .ok (.iload_n 1, 1) := by decide +kernel
theorem dX7_made_75 : decode cX7_made 75 = .ok (.iaload, 1) := by decide +kernel
theorem dX7_made_76 : decode cX7_made 76 = .ok (.ireturn, 1) := by decide +kernel
theorem dX7_state_0 : decode cX7_state 0 = .ok (.iload_n 1, 1) := by decide +kernel
theorem dX7_state_1 : decode cX7_state 1 = .ok (.tableswitch 123 0 7 #[47, 52, 62, 72, 82, 89, 113, 118], 47) := by decide +kernel
theorem dX7_state_48 : decode cX7_state 48 = .ok (.aload_n 0, 1) := by decide +kernel
theorem dX7_state_49 : decode cX7_state 49 = .ok (.getfield 67, 3) := by decide +kernel
theorem dX7_state_52 : decode cX7_state 52 = .ok (.ireturn, 1) := by decide +kernel
theorem dX7_state_53 : decode cX7_state 53 = .ok (.aload_n 0, 1) := by decide +kernel
theorem dX7_state_54 : decode cX7_state 54 = .ok (.getfield 28, 3) := by decide +kernel
theorem dX7_state_57 : decode cX7_state 57 = .ok (.aload_n 0, 1) := by decide +kernel
theorem dX7_state_58 : decode cX7_state 58 = .ok (.getfield 67, 3) := by decide +kernel
theorem dX7_state_61 : decode cX7_state 61 = .ok (.iaload, 1) := by decide +kernel
theorem dX7_state_62 : decode cX7_state 62 = .ok (.ireturn, 1) := by decide +kernel
theorem dX7_state_63 : decode cX7_state 63 = .ok (.aload_n 0, 1) := by decide +kernel
theorem dX7_state_64 : decode cX7_state 64 = .ok (.getfield 34, 3) := by decide +kernel
theorem dX7_state_67 : decode cX7_state 67 = .ok (.aload_n 0, 1) := by decide +kernel
theorem dX7_state_68 : decode cX7_state 68 = .ok (.getfield 67, 3) := by decide +kernel
theorem dX7_state_71 : decode cX7_state 71 = .ok (.iaload, 1) := by decide +kernel
theorem dX7_state_72 : decode cX7_state 72 = .ok (.ireturn, 1) := by decide +kernel
theorem dX7_state_73 : decode cX7_state 73 = .ok (.aload_n 0, 1) := by decide +kernel
theorem dX7_state_74 : decode cX7_state 74 = .ok (.getfield 31, 3) := by decide +kernel
theorem dX7_state_77 : decode cX7_state 77 = .ok (.aload_n 0, 1) := by decide +kernel
theorem dX7_state_78 : decode cX7_state 78 = .ok (.getfield 67, 3) := by decide +kernel
theorem dX7_state_81 : decode cX7_state 81 = .ok (.iaload, 1) := by decide +kernel
theorem dX7_state_82 : decode cX7_state 82 = .ok (.ireturn, 1) := by decide +kernel
theorem dX7_state_83 : decode cX7_state 83 = .ok (.aload_n 0, 1) := by decide +kernel
theorem dX7_state_84 : decode cX7_state 84 = .ok (.getfield 67, 3) := by decide +kernel
theorem dX7_state_87 : decode cX7_state 87 = .ok (.iconst 2, 1) := by decide +kernel
theorem dX7_state_88 : decode cX7_state 88 = .ok (.irem, 1) := by decide +kernel
theorem dX7_state_89 : decode cX7_state 89 = .ok (.ireturn, 1) := by decide +kernel
theorem dX7_state_90 : decode cX7_state 90 = .ok (.aload_n 0, 1) := by decide +kernel
theorem dX7_state_91 : decode cX7_state 91 = .ok (.getfield 70, 3) := by decide +kernel
theorem dX7_state_94 : decode cX7_state 94 = .ok (.ifCond .eq 7, 3) := by decide +kernel
theorem dX7_state_97 : decode cX7_state 97 = .ok (.iconst 2, 1) := by decide +kernel
theorem dX7_state_98 : decode cX7_state 98 = .ok (.goto 15, 3) := by decide +kernel
theorem dX7_state_101 : decode cX7_state 101 = .ok (.aload_n 0, 1) := by decide +kernel
theorem dX7_state_102 : decode cX7_state 102 = .ok (.invokevirtual 120, 3) := by decide +kernel
theorem dX7_state_105 : decode cX7_state 105 = .ok (.ifCond .eq 7, 3) := by decide +kernel
theorem dX7_state_108 : decode cX7_state 108 = .ok (.iconst 1, 1) := by decide +kernel
theorem dX7_state_109 : decode cX7_state 109 = .ok (.goto 4, 3) := by decide +kernel
theorem dX7_state_112 : decode cX7_state 112 = .ok (.iconst 0, 1) := by decide +kernel
theorem dX7_state_113 : decode cX7_state 113 = .ok (.ireturn, 1) := by decide +kernel
theorem dX7_state_114 : decode cX7_state 114 = .ok (.aload_n 0, 1) := by decide +kernel
theorem dX7_state_115 : decode cX7_state 115 = .ok (.getfield 63, 3) := by decide +kernel
theorem dX7_state_118 : decode cX7_state 118 = .ok (.ireturn, 1) := by decide +kernel
theorem dX7_state_119 : decode cX7_state 119 = .ok (.aload_n 0, 1) := by decide +kernel
theorem dX7_state_120 : decode cX7_state 120 = .ok (.getfield 131, 3) := by decide +kernel
theorem dX7_state_123 : decode cX7_state 123 = .ok (.ireturn, 1) := by decide +kernel
theorem dX7_state_124 : decode cX7_state 124 = .ok (.bipush (-2), 2) := by decide +kernel
theorem dX7_state_126 : decode cX7_state 126 = .ok (.ireturn, 1) := by decide +kernel
theorem dX7_fitsAuction_0 : decode cX7_fitsAuction 0 = .ok (.iconst 1, 1) := by decide +kernel
theorem dX7_fitsAuction_1 : decode cX7_fitsAuction 1 = .ok (.istore_n 3, 1) := by decide +kernel
theorem dX7_fitsAuction_2 : decode cX7_fitsAuction 2 = .ok (.iload_n 1, 1) := by decide +kernel
theorem dX7_fitsAuction_3 : decode cX7_fitsAuction 3 = .ok (.istore 4, 2) := by decide +kernel
theorem dX7_fitsAuction_5 : decode cX7_fitsAuction 5 = .ok (.iload 4, 2) := by decide +kernel
theorem dX7_fitsAuction_7 : decode cX7_fitsAuction 7 = .ok (.aload_n 0, 1) := by decide +kernel
theorem dX7_fitsAuction_8 : decode cX7_fitsAuction 8 = .ok (.getfield 67, 3) := by decide +kernel
theorem dX7_fitsAuction_11 : decode cX7_fitsAuction 11 = .ok (.if_icmp .ge 55, 3) := by decide +kernel
theorem dX7_fitsAuction_14 : decode cX7_fitsAuction 14 = .ok (.iload_n 3, 1) := by decide +kernel
theorem dX7_fitsAuction_15 : decode cX7_fitsAuction 15 = .ok (.ifCond .eq 51, 3) := by decide +kernel
theorem dX7_fitsAuction_18 : decode cX7_fitsAuction 18 = .ok (.aload_n 0, 1) := by decide +kernel
theorem dX7_fitsAuction_19 : decode cX7_fitsAuction 19 = .ok (.iload_n 2, 1) := by decide +kernel
theorem dX7_fitsAuction_20 : decode cX7_fitsAuction 20 = .ok (.aload_n 0, 1) := by decide +kernel
theorem dX7_fitsAuction_21 : decode cX7_fitsAuction 21 = .ok (.getfield 28, 3) := by decide +kernel
theorem dX7_fitsAuction_24 : decode cX7_fitsAuction 24 = .ok (.iload 4, 2) := by decide +kernel
theorem dX7_fitsAuction_26 : decode cX7_fitsAuction 26 = .ok (.iaload, 1) := by decide +kernel
theorem dX7_fitsAuction_27 : decode cX7_fitsAuction 27 = .ok (.aload_n 0, 1) := by decide +kernel
theorem dX7_fitsAuction_28 : decode cX7_fitsAuction 28 = .ok (.getfield 34, 3) := by decide +kernel
theorem dX7_fitsAuction_31 : decode cX7_fitsAuction 31 = .ok (.iload 4, 2) := by decide +kernel
theorem dX7_fitsAuction_33 : decode cX7_fitsAuction 33 = .ok (.iaload, 1) := by decide +kernel
theorem dX7_fitsAuction_34 : decode cX7_fitsAuction 34 = .ok (.aload_n 0, 1) := by decide +kernel
theorem dX7_fitsAuction_35 : decode cX7_fitsAuction 35 = .ok (.getfield 31, 3) := by decide +kernel
theorem dX7_fitsAuction_38 : decode cX7_fitsAuction 38 = .ok (.iload 4, 2) := by decide +kernel
theorem dX7_fitsAuction_40 : decode cX7_fitsAuction 40 = .ok (.iaload, 1) := by decide +kernel
theorem dX7_fitsAuction_41 : decode cX7_fitsAuction 41 = .ok (.invokevirtual 124, 3) := by decide +kernel
theorem dX7_fitsAuction_44 : decode cX7_fitsAuction 44 = .ok (.aload_n 0, 1) := by decide +kernel
theorem dX7_fitsAuction_45 : decode cX7_fitsAuction 45 = .ok (.getfield 25, 3) := by decide +kernel
theorem dX7_fitsAuction_48 : decode cX7_fitsAuction 48 = .ok (.iload 4, 2) := by decide +kernel
theorem dX7_fitsAuction_50 : decode cX7_fitsAuction 50 = .ok (.iaload, 1) := by decide +kernel
theorem dX7_fitsAuction_51 : decode cX7_fitsAuction 51 = .ok (.if_icmp .ne 7, 3) := by decide +kernel
theorem dX7_fitsAuction_54 : decode cX7_fitsAuction 54 = .ok (.iconst 1, 1) := by decide +kernel
theorem dX7_fitsAuction_55 : decode cX7_fitsAuction 55 = .ok (.goto 4, 3) := by decide +kernel
theorem dX7_fitsAuction_58 : decode cX7_fitsAuction 58 = .ok (.iconst 0, 1) := by decide +kernel
theorem dX7_fitsAuction_59 : decode cX7_fitsAuction 59 = .ok (.istore_n 3, 1) := by decide +kernel
theorem dX7_fitsAuction_60 : decode cX7_fitsAuction 60 = .ok (.iinc 4 2, 3) := by decide +kernel
theorem dX7_fitsAuction_63 : decode cX7_fitsAuction 63 = .ok (.goto (-58), 3) := by decide +kernel
theorem dX7_fitsAuction_66 : decode cX7_fitsAuction 66 = .ok (.aload_n 0, 1) := by decide +kernel
theorem dX7_fitsAuction_67 : decode cX7_fitsAuction 67 = .ok (.getfield 70, 3) := by decide +kernel
theorem dX7_fitsAuction_70 : decode cX7_fitsAuction 70 = .ok (.ifCond .eq 17, 3) := by decide +kernel
theorem dX7_fitsAuction_73 : decode cX7_fitsAuction 73 = .ok (.aload_n 0, 1) := by decide +kernel
theorem dX7_fitsAuction_74 : decode cX7_fitsAuction 74 = .ok (.getfield 67, 3) := by decide +kernel
theorem dX7_fitsAuction_77 : decode cX7_fitsAuction 77 = .ok (.iconst 2, 1) := by decide +kernel
theorem dX7_fitsAuction_78 : decode cX7_fitsAuction 78 = .ok (.irem, 1) := by decide +kernel
theorem dX7_fitsAuction_79 : decode cX7_fitsAuction 79 = .ok (.iload_n 1, 1) := by decide +kernel
theorem dX7_fitsAuction_80 : decode cX7_fitsAuction 80 = .ok (.if_icmp .ne 7, 3) := by decide +kernel
theorem dX7_fitsAuction_83 : decode cX7_fitsAuction 83 = .ok (.iconst 1, 1) := by decide +kernel
theorem dX7_fitsAuction_84 : decode cX7_fitsAuction 84 = .ok (.goto 4, 3) := by decide +kernel
theorem dX7_fitsAuction_87 : decode cX7_fitsAuction 87 = .ok (.iconst 0, 1) := by decide +kernel
theorem dX7_fitsAuction_88 : decode cX7_fitsAuction 88 = .ok (.istore 4, 2) := by decide +kernel
theorem dX7_fitsAuction_90 : decode cX7_fitsAuction 90 = .ok (.iload_n 3, 1) := by decide +kernel
theorem dX7_fitsAuction_91 : decode cX7_fitsAuction 91 = .ok (.ifCond .eq 47, 3) := by decide +kernel
theorem dX7_fitsAuction_94 : decode cX7_fitsAuction 94 = .ok (.iload 4, 2) := by decide +kernel
theorem dX7_fitsAuction_96 : decode cX7_fitsAuction 96 = .ok (.ifCond .eq 38, 3) := by decide +kernel
theorem dX7_fitsAuction_99 : decode cX7_fitsAuction 99 = .ok (.aload_n 0, 1) := by decide +kernel
theorem dX7_fitsAuction_100 : decode cX7_fitsAuction 100 = .ok (.iload_n 2, 1) := by decide +kernel
theorem dX7_fitsAuction_101 : decode cX7_fitsAuction 101 = .ok (.aload_n 0, 1) := by decide +kernel
theorem dX7_fitsAuction_102 : decode cX7_fitsAuction 102 = .ok (.getfield 28, 3) := by decide +kernel
theorem dX7_fitsAuction_105 : decode cX7_fitsAuction 105 = .ok (.aload_n 0, 1) := by decide +kernel
theorem dX7_fitsAuction_106 : decode cX7_fitsAuction 106 = .ok (.getfield 67, 3) := by decide +kernel
theorem dX7_fitsAuction_109 : decode cX7_fitsAuction 109 = .ok (.iaload, 1) := by decide +kernel
theorem dX7_fitsAuction_110 : decode cX7_fitsAuction 110 = .ok (.aload_n 0, 1) := by decide +kernel
theorem dX7_fitsAuction_111 : decode cX7_fitsAuction 111 = .ok (.getfield 34, 3) := by decide +kernel
theorem dX7_fitsAuction_114 : decode cX7_fitsAuction 114 = .ok (.aload_n 0, 1) := by decide +kernel
theorem dX7_fitsAuction_115 : decode cX7_fitsAuction 115 = .ok (.getfield 67, 3) := by decide +kernel
theorem dX7_fitsAuction_118 : decode cX7_fitsAuction 118 = .ok (.iaload, 1) := by decide +kernel
theorem dX7_fitsAuction_119 : decode cX7_fitsAuction 119 = .ok (.aload_n 0, 1) := by decide +kernel
theorem dX7_fitsAuction_120 : decode cX7_fitsAuction 120 = .ok (.getfield 31, 3) := by decide +kernel
theorem dX7_fitsAuction_123 : decode cX7_fitsAuction 123 = .ok (.aload_n 0, 1) := by decide +kernel
theorem dX7_fitsAuction_124 : decode cX7_fitsAuction 124 = .ok (.getfield 67, 3) := by decide +kernel
theorem dX7_fitsAuction_127 : decode cX7_fitsAuction 127 = .ok (.iaload, 1) := by decide +kernel
theorem dX7_fitsAuction_128 : decode cX7_fitsAuction 128 = .ok (.invokevirtual 124, 3) := by decide +kernel
theorem dX7_fitsAuction_131 : decode cX7_fitsAuction 131 = .ok (.ifCond .ge 7, 3) := by decide +kernel
theorem dX7_fitsAuction_134 : decode cX7_fitsAuction 134 = .ok (.iconst 1, 1) := by decide +kernel
theorem dX7_fitsAuction_135 : decode cX7_fitsAuction 135 = .ok (.goto 4, 3) := by decide +kernel
theorem dX7_fitsAuction_138 : decode cX7_fitsAuction 138 = .ok (.iconst 0, 1) := by decide +kernel
theorem dX7_fitsAuction_139 : decode cX7_fitsAuction 139 = .ok (.ireturn, 1) := by decide +kernel
theorem dX7_hands_0 : decode cX7_hands 0 = .ok (.iload_n 1, 1) := by decide +kernel
theorem dX7_hands_1 : decode cX7_hands 1 = .ok (.invokestatic 105, 3) := by decide +kernel
theorem dX7_hands_4 : decode cX7_hands 4 = .ok (.ifCond .ne 5, 3) := by decide +kernel
theorem dX7_hands_7 : decode cX7_hands 7 = .ok (.iconst (-1), 1) := by decide +kernel
theorem dX7_hands_8 : decode cX7_hands 8 = .ok (.ireturn, 1) := by decide +kernel
theorem dX7_hands_9 : decode cX7_hands 9 = .ok (.iload_n 2, 1) := by decide +kernel
theorem dX7_hands_10 : decode cX7_hands 10 = .ok (.iconst 0, 1) := by decide +kernel
theorem dX7_hands_11 : decode cX7_hands 11 = .ok (.ldc 54, 2) := by decide +kernel
theorem dX7_hands_13 : decode cX7_hands 13 = .ok (.invokestatic 55, 3) := by decide +kernel
theorem dX7_hands_16 : decode cX7_hands 16 = .ok (.ifCond .ne 6, 3) := by decide +kernel
theorem dX7_hands_19 : decode cX7_hands 19 = .ok (.bipush (-2), 2) := by decide +kernel
theorem dX7_hands_21 : decode cX7_hands 21 = .ok (.ireturn, 1) := by decide +kernel
theorem dX7_hands_22 : decode cX7_hands 22 = .ok (.iconst 0, 1) := by decide +kernel
theorem dX7_hands_23 : decode cX7_hands 23 = .ok (.istore_n 3, 1) := by decide +kernel
theorem dX7_hands_24 : decode cX7_hands 24 = .ok (.bipush 31, 2) := by decide +kernel
theorem dX7_hands_26 : decode cX7_hands 26 = .ok (.istore 4, 2) := by decide +kernel
theorem dX7_hands_28 : decode cX7_hands 28 = .ok (.iload 4, 2) := by decide +kernel
theorem dX7_hands_30 : decode cX7_hands 30 = .ok (.ldc 54, 2) := by decide +kernel
theorem dX7_hands_32 : decode cX7_hands 32 = .ok (.if_icmp .gt 38, 3) := by decide +kernel
theorem dX7_hands_35 : decode cX7_hands 35 = .ok (.iload_n 3, 1) := by decide +kernel
theorem dX7_hands_36 : decode cX7_hands 36 = .ok (.iload 4, 2) := by decide +kernel
theorem dX7_hands_38 : decode cX7_hands 38 = .ok (.iload_n 2, 1) := by decide +kernel
theorem dX7_hands_39 : decode cX7_hands 39 = .ok (.iand, 1) := by decide +kernel
theorem dX7_hands_40 : decode cX7_hands 40 = .ok (.ifCond .ne 17, 3) := by decide +kernel
theorem dX7_hands_43 : decode cX7_hands 43 = .ok (.aload_n 0, 1) := by decide +kernel
theorem dX7_hands_44 : decode cX7_hands 44 = .ok (.iload_n 1, 1) := by decide +kernel
theorem dX7_hands_45 : decode cX7_hands 45 = .ok (.iload 4, 2) := by decide +kernel
theorem dX7_hands_47 : decode cX7_hands 47 = .ok (.invokevirtual 134, 3) := by decide +kernel
theorem dX7_hands_50 : decode cX7_hands 50 = .ok (.ifCond .eq 7, 3) := by decide +kernel
theorem dX7_hands_53 : decode cX7_hands 53 = .ok (.iconst 1, 1) := by decide +kernel
theorem dX7_hands_54 : decode cX7_hands 54 = .ok (.goto 4, 3) := by decide +kernel
theorem dX7_hands_57 : decode cX7_hands 57 = .ok (.iconst 0, 1) := by decide +kernel
theorem dX7_hands_58 : decode cX7_hands 58 = .ok (.iadd, 1) := by decide +kernel
theorem dX7_hands_59 : decode cX7_hands 59 = .ok (.istore_n 3, 1) := by decide +kernel
theorem dX7_hands_60 : decode cX7_hands 60 = .ok (.iload 4, 2) := by decide +kernel
theorem dX7_hands_62 : decode cX7_hands 62 = .ok (.invokestatic 98, 3) := by decide +kernel
theorem dX7_hands_65 : decode cX7_hands 65 = .ok (.istore 4, 2) := by decide +kernel
theorem dX7_hands_67 : decode cX7_hands 67 = .ok (.goto (-39), 3) := by decide +kernel
theorem dX7_hands_70 : decode cX7_hands 70 = .ok (.iload_n 3, 1) := by decide +kernel
theorem dX7_hands_71 : decode cX7_hands 71 = .ok (.ireturn, 1) := by decide +kernel
theorem dX7_shownOf_0 : decode cX7_shownOf 0 = .ok (.iload_n 2, 1) := by decide +kernel
theorem dX7_shownOf_1 : decode cX7_shownOf 1 = .ok (.bipush 8, 2) := by decide +kernel
theorem dX7_shownOf_3 : decode cX7_shownOf 3 = .ok (.if_icmp .ge 14, 3) := by decide +kernel
theorem dX7_shownOf_6 : decode cX7_shownOf 6 = .ok (.aload_n 0, 1) := by decide +kernel
theorem dX7_shownOf_7 : decode cX7_shownOf 7 = .ok (.iload_n 1, 1) := by decide +kernel
theorem dX7_shownOf_8 : decode cX7_shownOf 8 = .ok (.iload_n 2, 1) := by decide +kernel
theorem dX7_shownOf_9 : decode cX7_shownOf 9 = .ok (.iconst 2, 1) := by decide +kernel
theorem dX7_shownOf_10 : decode cX7_shownOf 10 = .ok (.idiv, 1) := by decide +kernel
theorem dX7_shownOf_11 : decode cX7_shownOf 11 = .ok (.invokevirtual 50, 3) := by decide +kernel
theorem dX7_shownOf_14 : decode cX7_shownOf 14 = .ok (.goto 18, 3) := by decide +kernel
theorem dX7_shownOf_17 : decode cX7_shownOf 17 = .ok (.iload_n 2, 1) := by decide +kernel
theorem dX7_shownOf_18 : decode cX7_shownOf 18 = .ok (.bipush 10, 2) := by decide +kernel
theorem dX7_shownOf_20 : decode cX7_shownOf 20 = .ok (.if_icmp .ge 11, 3) := by decide +kernel
theorem dX7_shownOf_23 : decode cX7_shownOf 23 = .ok (.aload_n 0, 1) := by decide +kernel
theorem dX7_shownOf_24 : decode cX7_shownOf 24 = .ok (.iload_n 1, 1) := by decide +kernel
theorem dX7_shownOf_25 : decode cX7_shownOf 25 = .ok (.invokevirtual 74, 3) := by decide +kernel
theorem dX7_shownOf_28 : decode cX7_shownOf 28 = .ok (.goto 4, 3) := by decide +kernel
theorem dX7_shownOf_31 : decode cX7_shownOf 31 = .ok (.iload_n 1, 1) := by decide +kernel
theorem dX7_shownOf_32 : decode cX7_shownOf 32 = .ok (.ireturn, 1) := by decide +kernel
theorem dX7_joined_0 : decode cX7_joined 0 = .ok (.iload_n 2, 1) := by decide +kernel
theorem dX7_joined_1 : decode cX7_joined 1 = .ok (.bipush 10, 2) := by decide +kernel
theorem dX7_joined_3 : decode cX7_joined 3 = .ok (.if_icmp .ne 7, 3) := by decide +kernel
theorem dX7_joined_6 : decode cX7_joined 6 = .ok (.iload_n 0, 1) := by decide +kernel
theorem dX7_joined_7 : decode cX7_joined 7 = .ok (.iload_n 1, 1) := by decide +kernel
theorem dX7_joined_8 : decode cX7_joined 8 = .ok (.iand, 1) := by decide +kernel
theorem dX7_joined_9 : decode cX7_joined 9 = .ok (.ireturn, 1) := by decide +kernel
theorem dX7_joined_10 : decode cX7_joined 10 = .ok (.iload_n 2, 1) := by decide +kernel
theorem dX7_joined_11 : decode cX7_joined 11 = .ok (.bipush 11, 2) := by decide +kernel
theorem dX7_joined_13 : decode cX7_joined 13 = .ok (.if_icmp .ne 7, 3) := by decide +kernel
theorem dX7_joined_16 : decode cX7_joined 16 = .ok (.iload_n 0, 1) := by decide +kernel
theorem dX7_joined_17 : decode cX7_joined 17 = .ok (.iload_n 1, 1) := by decide +kernel
theorem dX7_joined_18 : decode cX7_joined 18 = .ok (.ior, 1) := by decide +kernel
theorem dX7_joined_19 : decode cX7_joined 19 = .ok (.ireturn, 1) := by decide +kernel
theorem dX7_joined_20 : decode cX7_joined 20 = .ok (.iload_n 2, 1) := by decide +kernel
theorem dX7_joined_21 : decode cX7_joined 21 = .ok (.iconst 2, 1) := by decide +kernel
theorem dX7_joined_22 : decode cX7_joined 22 = .ok (.irem, 1) := by decide +kernel
theorem dX7_joined_23 : decode cX7_joined 23 = .ok (.ifCond .ne 7, 3) := by decide +kernel
theorem dX7_joined_26 : decode cX7_joined 26 = .ok (.iconst 1, 1) := by decide +kernel
theorem dX7_joined_27 : decode cX7_joined 27 = .ok (.goto 4, 3) := by decide +kernel
theorem dX7_joined_30 : decode cX7_joined 30 = .ok (.iconst 0, 1) := by decide +kernel
theorem dX7_joined_31 : decode cX7_joined 31 = .ok (.istore_n 3, 1) := by decide +kernel
theorem dX7_joined_32 : decode cX7_joined 32 = .ok (.iload_n 3, 1) := by decide +kernel
theorem dX7_joined_33 : decode cX7_joined 33 = .ok (.iload_n 1, 1) := by decide +kernel
theorem dX7_joined_34 : decode cX7_joined 34 = .ok (.iload_n 0, 1) := by decide +kernel
theorem dX7_joined_35 : decode cX7_joined 35 = .ok (.if_icmp .ge 7, 3) := by decide +kernel
theorem dX7_joined_38 : decode cX7_joined 38 = .ok (.iconst 1, 1) := by decide +kernel
theorem dX7_joined_39 : decode cX7_joined 39 = .ok (.goto 4, 3) := by decide +kernel
theorem dX7_joined_42 : decode cX7_joined 42 = .ok (.iconst 0, 1) := by decide +kernel
theorem dX7_joined_43 : decode cX7_joined 43 = .ok (.if_icmp .ne 7, 3) := by decide +kernel
theorem dX7_joined_46 : decode cX7_joined 46 = .ok (.iload_n 1, 1) := by decide +kernel
theorem dX7_joined_47 : decode cX7_joined 47 = .ok (.goto 4, 3) := by decide +kernel
theorem dX7_joined_50 : decode cX7_joined 50 = .ok (.iload_n 0, 1) := by decide +kernel
theorem dX7_joined_51 : decode cX7_joined 51 = .ok (.ireturn, 1) := by decide +kernel
theorem dX7_shown_0 : decode cX7_shown 0 = .ok (.iload_n 1, 1) := by decide +kernel
theorem dX7_shown_1 : decode cX7_shown 1 = .ok (.invokestatic 105, 3) := by decide +kernel
theorem dX7_shown_4 : decode cX7_shown 4 = .ok (.ifCond .ne 5, 3) := by decide +kernel
theorem dX7_shown_7 : decode cX7_shown 7 = .ok (.iconst (-1), 1) := by decide +kernel
theorem dX7_shown_8 : decode cX7_shown 8 = .ok (.ireturn, 1) := by decide +kernel
theorem dX7_shown_9 : decode cX7_shown 9 = .ok (.iload_n 2, 1) := by decide +kernel
theorem dX7_shown_10 : decode cX7_shown 10 = .ok (.iconst 0, 1) := by decide +kernel
theorem dX7_shown_11 : decode cX7_shown 11 = .ok (.ldc 54, 2) := by decide +kernel
theorem dX7_shown_13 : decode cX7_shown 13 = .ok (.invokestatic 55, 3) := by decide +kernel
theorem dX7_shown_16 : decode cX7_shown 16 = .ok (.ifCond .eq 13, 3) := by decide +kernel
theorem dX7_shown_19 : decode cX7_shown 19 = .ok (.iload_n 3, 1) := by decide +kernel
theorem dX7_shown_20 : decode cX7_shown 20 = .ok (.iconst 0, 1) := by decide +kernel
theorem dX7_shown_21 : decode cX7_shown 21 = .ok (.bipush 11, 2) := by decide +kernel
theorem dX7_shown_23 : decode cX7_shown 23 = .ok (.invokestatic 55, 3) := by decide +kernel
theorem dX7_shown_26 : decode cX7_shown 26 = .ok (.ifCond .ne 6, 3) := by decide +kernel
theorem dX7_shown_29 : decode cX7_shown 29 = .ok (.bipush (-2), 2) := by decide +kernel
theorem dX7_shown_31 : decode cX7_shown 31 = .ok (.ireturn, 1) := by decide +kernel
theorem dX7_shown_32 : decode cX7_shown 32 = .ok (.iconst 0, 1) := by decide +kernel
theorem dX7_shown_33 : decode cX7_shown 33 = .ok (.istore 4, 2) := by decide +kernel
theorem dX7_shown_35 : decode cX7_shown 35 = .ok (.iconst 0, 1) := by decide +kernel
theorem dX7_shown_36 : decode cX7_shown 36 = .ok (.istore 5, 2) := by decide +kernel
theorem dX7_shown_38 : decode cX7_shown 38 = .ok (.bipush 31, 2) := by decide +kernel
theorem dX7_shown_40 : decode cX7_shown 40 = .ok (.istore 6, 2) := by decide +kernel
theorem dX7_shown_42 : decode cX7_shown 42 = .ok (.iload 6, 2) := by decide +kernel
theorem dX7_shown_44 : decode cX7_shown 44 = .ok (.ldc 54, 2) := by decide +kernel
theorem dX7_shown_46 : decode cX7_shown 46 = .ok (.if_icmp .gt 63, 3) := by decide +kernel
theorem dX7_shown_49 : decode cX7_shown 49 = .ok (.iload 6, 2) := by decide +kernel
theorem dX7_shown_51 : decode cX7_shown 51 = .ok (.iload_n 2, 1) := by decide +kernel
theorem dX7_shown_52 : decode cX7_shown 52 = .ok (.iand, 1) := by decide +kernel
theorem dX7_shown_53 : decode cX7_shown 53 = .ok (.ifCond .ne 46, 3) := by decide +kernel
theorem dX7_shown_56 : decode cX7_shown 56 = .ok (.aload_n 0, 1) := by decide +kernel
theorem dX7_shown_57 : decode cX7_shown 57 = .ok (.iload_n 1, 1) := by decide +kernel
theorem dX7_shown_58 : decode cX7_shown 58 = .ok (.iload 6, 2) := by decide +kernel
theorem dX7_shown_60 : decode cX7_shown 60 = .ok (.invokevirtual 134, 3) := by decide +kernel
theorem dX7_shown_63 : decode cX7_shown 63 = .ok (.ifCond .eq 36, 3) := by decide +kernel
theorem dX7_shown_66 : decode cX7_shown 66 = .ok (.iload 4, 2) := by decide +kernel
theorem dX7_shown_68 : decode cX7_shown 68 = .ok (.ifCond .eq 19, 3) := by decide +kernel
theorem dX7_shown_71 : decode cX7_shown 71 = .ok (.iload 5, 2) := by decide +kernel
theorem dX7_shown_73 : decode cX7_shown 73 = .ok (.aload_n 0, 1) := by decide +kernel
theorem dX7_shown_74 : decode cX7_shown 74 = .ok (.iload 6, 2) := by decide +kernel
theorem dX7_shown_76 : decode cX7_shown 76 = .ok (.iload_n 3, 1) := by decide +kernel
theorem dX7_shown_77 : decode cX7_shown 77 = .ok (.invokevirtual 137, 3) := by decide +kernel
theorem dX7_shown_80 : decode cX7_shown 80 = .ok (.iload_n 3, 1) := by decide +kernel
theorem dX7_shown_81 : decode cX7_shown 81 = .ok (.invokestatic 140, 3) := by decide +kernel
theorem dX7_shown_84 : decode cX7_shown 84 = .ok (.goto 10, 3) := by decide +kernel
theorem dX7_shown_87 : decode cX7_shown 87 = .ok (.aload_n 0, 1) := by decide +kernel
theorem dX7_shown_88 : decode cX7_shown 88 = .ok (.iload 6, 2) := by decide +kernel
theorem dX7_shown_90 : decode cX7_shown 90 = .ok (.iload_n 3, 1) := by decide +kernel
theorem dX7_shown_91 : decode cX7_shown 91 = .ok (.invokevirtual 137, 3) := by decide +kernel
theorem dX7_shown_94 : decode cX7_shown 94 = .ok (.istore 5, 2) := by decide +kernel
theorem dX7_shown_96 : decode cX7_shown 96 = .ok (.iconst 1, 1) := by decide +kernel
theorem dX7_shown_97 : decode cX7_shown 97 = .ok (.istore 4, 2) := by decide +kernel
theorem dX7_shown_99 : decode cX7_shown 99 = .ok (.iload 6, 2) := by decide +kernel
theorem dX7_shown_101 : decode cX7_shown 101 = .ok (.invokestatic 98, 3) := by decide +kernel
theorem dX7_shown_104 : decode cX7_shown 104 = .ok (.istore 6, 2) := by decide +kernel
theorem dX7_shown_106 : decode cX7_shown 106 = .ok (.goto (-64), 3) := by decide +kernel
theorem dX7_shown_109 : decode cX7_shown 109 = .ok (.iload 4, 2) := by decide +kernel
theorem dX7_shown_111 : decode cX7_shown 111 = .ok (.ifCond .eq 8, 3) := by decide +kernel
theorem dX7_shown_114 : decode cX7_shown 114 = .ok (.iload 5, 2) := by decide +kernel
theorem dX7_shown_116 : decode cX7_shown 116 = .ok (.goto 5, 3) := by decide +kernel
theorem dX7_shown_119 : decode cX7_shown 119 = .ok (.bipush (-6), 2) := by decide +kernel
theorem dX7_shown_121 : decode cX7_shown 121 = .ok (.ireturn, 1) := by decide +kernel
theorem dX7_fits_0 : decode cX7_fits 0 = .ok (.iload_n 1, 1) := by decide +kernel
theorem dX7_fits_1 : decode cX7_fits 1 = .ok (.invokestatic 105, 3) := by decide +kernel
theorem dX7_fits_4 : decode cX7_fits 4 = .ok (.ifCond .ne 5, 3) := by decide +kernel
theorem dX7_fits_7 : decode cX7_fits 7 = .ok (.iconst (-1), 1) := by decide +kernel
theorem dX7_fits_8 : decode cX7_fits 8 = .ok (.ireturn, 1) := by decide +kernel
theorem dX7_fits_9 : decode cX7_fits 9 = .ok (.aload_n 0, 1) := by decide +kernel
theorem dX7_fits_10 : decode cX7_fits 10 = .ok (.iload_n 2, 1) := by decide +kernel
theorem dX7_fits_11 : decode cX7_fits 11 = .ok (.invokevirtual 108, 3) := by decide +kernel
theorem dX7_fits_14 : decode cX7_fits 14 = .ok (.ifCond .ne 8, 3) := by decide +kernel
theorem dX7_fits_17 : decode cX7_fits 17 = .ok (.bipush (-2), 2) := by decide +kernel
theorem dX7_fits_19 : decode cX7_fits 19 = .ok (.goto 17, 3) := by decide +kernel
theorem dX7_fits_22 : decode cX7_fits 22 = .ok (.aload_n 0, 1) := by decide +kernel
theorem dX7_fits_23 : decode cX7_fits 23 = .ok (.iload_n 1, 1) := by decide +kernel
theorem dX7_fits_24 : decode cX7_fits 24 = .ok (.iload_n 2, 1) := by decide +kernel
theorem dX7_fits_25 : decode cX7_fits 25 = .ok (.invokevirtual 134, 3) := by decide +kernel
theorem dX7_fits_28 : decode cX7_fits 28 = .ok (.ifCond .eq 7, 3) := by decide +kernel
theorem dX7_fits_31 : decode cX7_fits 31 = .ok (.iconst 1, 1) := by decide +kernel
theorem dX7_fits_32 : decode cX7_fits 32 = .ok (.goto 4, 3) := by decide +kernel
theorem dX7_fits_35 : decode cX7_fits 35 = .ok (.iconst 0, 1) := by decide +kernel
theorem dX7_fits_36 : decode cX7_fits 36 = .ok (.ireturn, 1) := by decide +kernel
theorem dX7_ruleOf_0 : decode cX7_ruleOf 0 = .ok (.aload_n 0, 1) := by decide +kernel
theorem dX7_ruleOf_1 : decode cX7_ruleOf 1 = .ok (.iload_n 1, 1) := by decide +kernel
theorem dX7_ruleOf_2 : decode cX7_ruleOf 2 = .ok (.invokevirtual 108, 3) := by decide +kernel
theorem dX7_ruleOf_5 : decode cX7_ruleOf 5 = .ok (.ifCond .ne 6, 3) := by decide +kernel
theorem dX7_ruleOf_8 : decode cX7_ruleOf 8 = .ok (.bipush (-2), 2) := by decide +kernel
theorem dX7_ruleOf_10 : decode cX7_ruleOf 10 = .ok (.ireturn, 1) := by decide +kernel
theorem dX7_ruleOf_11 : decode cX7_ruleOf 11 = .ok (.aload_n 0, 1) := by decide +kernel
theorem dX7_ruleOf_12 : decode cX7_ruleOf 12 = .ok (.invokevirtual 120, 3) := by decide +kernel
theorem dX7_ruleOf_15 : decode cX7_ruleOf 15 = .ok (.ifCond .eq 8, 3) := by decide +kernel
theorem dX7_ruleOf_18 : decode cX7_ruleOf 18 = .ok (.bipush (-5), 2) := by decide +kernel
theorem dX7_ruleOf_20 : decode cX7_ruleOf 20 = .ok (.goto 35, 3) := by decide +kernel
theorem dX7_ruleOf_23 : decode cX7_ruleOf 23 = .ok (.aload_n 0, 1) := by decide +kernel
theorem dX7_ruleOf_24 : decode cX7_ruleOf 24 = .ok (.iload_n 1, 1) := by decide +kernel
theorem dX7_ruleOf_25 : decode cX7_ruleOf 25 = .ok (.aload_n 0, 1) := by decide +kernel
theorem dX7_ruleOf_26 : decode cX7_ruleOf 26 = .ok (.getfield 28, 3) := by decide +kernel
theorem dX7_ruleOf_29 : decode cX7_ruleOf 29 = .ok (.aload_n 0, 1) := by decide +kernel
theorem dX7_ruleOf_30 : decode cX7_ruleOf 30 = .ok (.getfield 67, 3) := by decide +kernel
theorem dX7_ruleOf_33 : decode cX7_ruleOf 33 = .ok (.iaload, 1) := by decide +kernel
theorem dX7_ruleOf_34 : decode cX7_ruleOf 34 = .ok (.aload_n 0, 1) := by decide +kernel
theorem dX7_ruleOf_35 : decode cX7_ruleOf 35 = .ok (.getfield 34, 3) := by decide +kernel
theorem dX7_ruleOf_38 : decode cX7_ruleOf 38 = .ok (.aload_n 0, 1) := by decide +kernel
theorem dX7_ruleOf_39 : decode cX7_ruleOf 39 = .ok (.getfield 67, 3) := by decide +kernel
theorem dX7_ruleOf_42 : decode cX7_ruleOf 42 = .ok (.iaload, 1) := by decide +kernel
theorem dX7_ruleOf_43 : decode cX7_ruleOf 43 = .ok (.aload_n 0, 1) := by decide +kernel
theorem dX7_ruleOf_44 : decode cX7_ruleOf 44 = .ok (.getfield 31, 3) := by decide +kernel
theorem dX7_ruleOf_47 : decode cX7_ruleOf 47 = .ok (.aload_n 0, 1) := by decide +kernel
theorem dX7_ruleOf_48 : decode cX7_ruleOf 48 = .ok (.getfield 67, 3) := by decide +kernel
theorem dX7_ruleOf_51 : decode cX7_ruleOf 51 = .ok (.iaload, 1) := by decide +kernel
theorem dX7_ruleOf_52 : decode cX7_ruleOf 52 = .ok (.invokevirtual 124, 3) := by decide +kernel
theorem dX7_ruleOf_55 : decode cX7_ruleOf 55 = .ok (.ireturn, 1) := by decide +kernel
theorem dX7_manyWith_0 : decode cX7_manyWith 0 = .ok (.iconst 0, 1) := by decide +kernel
theorem dX7_manyWith_1 : decode cX7_manyWith 1 = .ok (.istore 5, 2) := by decide +kernel
theorem dX7_manyWith_3 : decode cX7_manyWith 3 = .ok (.bipush 31, 2) := by decide +kernel
theorem dX7_manyWith_5 : decode cX7_manyWith 5 = .ok (.istore 6, 2) := by decide +kernel
theorem dX7_manyWith_7 : decode cX7_manyWith 7 = .ok (.iload 6, 2) := by decide +kernel
theorem dX7_manyWith_9 : decode cX7_manyWith 9 = .ok (.ldc 54, 2) := by decide +kernel
theorem dX7_manyWith_11 : decode cX7_manyWith 11 = .ok (.if_icmp .gt 37, 3) := by decide +kernel
theorem dX7_manyWith_14 : decode cX7_manyWith 14 = .ok (.iload 5, 2) := by decide +kernel
theorem dX7_manyWith_16 : decode cX7_manyWith 16 = .ok (.aload_n 0, 1) := by decide +kernel
theorem dX7_manyWith_17 : decode cX7_manyWith 17 = .ok (.iload 6, 2) := by decide +kernel
theorem dX7_manyWith_19 : decode cX7_manyWith 19 = .ok (.iload_n 2, 1) := by decide +kernel
theorem dX7_manyWith_20 : decode cX7_manyWith 20 = .ok (.iload_n 3, 1) := by decide +kernel
theorem dX7_manyWith_21 : decode cX7_manyWith 21 = .ok (.iload 4, 2) := by decide +kernel
theorem dX7_manyWith_23 : decode cX7_manyWith 23 = .ok (.invokevirtual 124, 3) := by decide +kernel
theorem dX7_manyWith_26 : decode cX7_manyWith 26 = .ok (.iload_n 1, 1) := by decide +kernel
theorem dX7_manyWith_27 : decode cX7_manyWith 27 = .ok (.if_icmp .ne 7, 3) := by decide +kernel
theorem dX7_manyWith_30 : decode cX7_manyWith 30 = .ok (.iconst 1, 1) := by decide +kernel
theorem dX7_manyWith_31 : decode cX7_manyWith 31 = .ok (.goto 4, 3) := by decide +kernel
theorem dX7_manyWith_34 : decode cX7_manyWith 34 = .ok (.iconst 0, 1) := by decide +kernel
theorem dX7_manyWith_35 : decode cX7_manyWith 35 = .ok (.iadd, 1) := by decide +kernel
theorem dX7_manyWith_36 : decode cX7_manyWith 36 = .ok (.istore 5, 2) := by decide +kernel
theorem dX7_manyWith_38 : decode cX7_manyWith 38 = .ok (.iload 6, 2) := by decide +kernel
theorem dX7_manyWith_40 : decode cX7_manyWith 40 = .ok (.invokestatic 98, 3) := by decide +kernel
theorem dX7_manyWith_43 : decode cX7_manyWith 43 = .ok (.istore 6, 2) := by decide +kernel
theorem dX7_manyWith_45 : decode cX7_manyWith 45 = .ok (.goto (-38), 3) := by decide +kernel
theorem dX7_manyWith_48 : decode cX7_manyWith 48 = .ok (.iload 5, 2) := by decide +kernel
theorem dX7_manyWith_50 : decode cX7_manyWith 50 = .ok (.ireturn, 1) := by decide +kernel
theorem dX7_reach_0 : decode cX7_reach 0 = .ok (.aload_n 0, 1) := by decide +kernel
theorem dX7_reach_1 : decode cX7_reach 1 = .ok (.iload_n 1, 1) := by decide +kernel
theorem dX7_reach_2 : decode cX7_reach 2 = .ok (.invokevirtual 91, 3) := by decide +kernel
theorem dX7_reach_5 : decode cX7_reach 5 = .ok (.ifCond .eq 20, 3) := by decide +kernel
theorem dX7_reach_8 : decode cX7_reach 8 = .ok (.aload_n 0, 1) := by decide +kernel
theorem dX7_reach_9 : decode cX7_reach 9 = .ok (.iload_n 1, 1) := by decide +kernel
theorem dX7_reach_10 : decode cX7_reach 10 = .ok (.aload_n 0, 1) := by decide +kernel
theorem dX7_reach_11 : decode cX7_reach 11 = .ok (.iload_n 1, 1) := by decide +kernel
theorem dX7_reach_12 : decode cX7_reach 12 = .ok (.iconst 0, 1) := by decide +kernel
theorem dX7_reach_13 : decode cX7_reach 13 = .ok (.invokevirtual 77, 3) := by decide +kernel
theorem dX7_reach_16 : decode cX7_reach 16 = .ok (.bipush (-6), 2) := by decide +kernel
theorem dX7_reach_18 : decode cX7_reach 18 = .ok (.iconst 0, 1) := by decide +kernel
theorem dX7_reach_19 : decode cX7_reach 19 = .ok (.invokevirtual 144, 3) := by decide +kernel
theorem dX7_reach_22 : decode cX7_reach 22 = .ok (.goto 4, 3) := by decide +kernel
theorem dX7_reach_25 : decode cX7_reach 25 = .ok (.iconst (-1), 1) := by decide +kernel
theorem dX7_reach_26 : decode cX7_reach 26 = .ok (.ireturn, 1) := by decide +kernel
theorem dX7_holes_0 : decode cX7_holes 0 = .ok (.iload_n 1, 1) := by decide +kernel
theorem dX7_holes_1 : decode cX7_holes 1 = .ok (.iconst 0, 1) := by decide +kernel
theorem dX7_holes_2 : decode cX7_holes 2 = .ok (.bipush 7, 2) := by decide +kernel
theorem dX7_holes_4 : decode cX7_holes 4 = .ok (.invokestatic 55, 3) := by decide +kernel
theorem dX7_holes_7 : decode cX7_holes 7 = .ok (.ifCond .eq 28, 3) := by decide +kernel
theorem dX7_holes_10 : decode cX7_holes 10 = .ok (.iload_n 2, 1) := by decide +kernel
theorem dX7_holes_11 : decode cX7_holes 11 = .ok (.bipush (-6), 2) := by decide +kernel
theorem dX7_holes_13 : decode cX7_holes 13 = .ok (.if_icmp .eq 13, 3) := by decide +kernel
theorem dX7_holes_16 : decode cX7_holes 16 = .ok (.iload_n 2, 1) := by decide +kernel
theorem dX7_holes_17 : decode cX7_holes 17 = .ok (.iconst 0, 1) := by decide +kernel
theorem dX7_holes_18 : decode cX7_holes 18 = .ok (.bipush 24, 2) := by decide +kernel
theorem dX7_holes_20 : decode cX7_holes 20 = .ok (.invokestatic 55, 3) := by decide +kernel
theorem dX7_holes_23 : decode cX7_holes 23 = .ok (.ifCond .eq 12, 3) := by decide +kernel
theorem dX7_holes_26 : decode cX7_holes 26 = .ok (.iload_n 3, 1) := by decide +kernel
theorem dX7_holes_27 : decode cX7_holes 27 = .ok (.iconst 0, 1) := by decide +kernel
theorem dX7_holes_28 : decode cX7_holes 28 = .ok (.iconst 1, 1) := by decide +kernel
theorem dX7_holes_29 : decode cX7_holes 29 = .ok (.invokestatic 55, 3) := by decide +kernel
theorem dX7_holes_32 : decode cX7_holes 32 = .ok (.ifCond .ne 6, 3) := by decide +kernel
theorem dX7_holes_35 : decode cX7_holes 35 = .ok (.bipush (-2), 2) := by decide +kernel
theorem dX7_holes_37 : decode cX7_holes 37 = .ok (.ireturn, 1) := by decide +kernel
theorem dX7_holes_38 : decode cX7_holes 38 = .ok (.aload_n 0, 1) := by decide +kernel
theorem dX7_holes_39 : decode cX7_holes 39 = .ok (.bipush (-6), 2) := by decide +kernel
theorem dX7_holes_41 : decode cX7_holes 41 = .ok (.iload_n 1, 1) := by decide +kernel
theorem dX7_holes_42 : decode cX7_holes 42 = .ok (.iload_n 2, 1) := by decide +kernel
theorem dX7_holes_43 : decode cX7_holes 43 = .ok (.iload_n 3, 1) := by decide +kernel
theorem dX7_holes_44 : decode cX7_holes 44 = .ok (.invokevirtual 144, 3) := by decide +kernel
theorem dX7_holes_47 : decode cX7_holes 47 = .ok (.ireturn, 1) := by decide +kernel
theorem dX7_winners_0 : decode cX7_winners 0 = .ok (.iload_n 1, 1) := by decide +kernel
theorem dX7_winners_1 : decode cX7_winners 1 = .ok (.iload_n 2, 1) := by decide +kernel
theorem dX7_winners_2 : decode cX7_winners 2 = .ok (.ior, 1) := by decide +kernel
theorem dX7_winners_3 : decode cX7_winners 3 = .ok (.iconst 5, 1) := by decide +kernel
theorem dX7_winners_4 : decode cX7_winners 4 = .ok (.iload_n 3, 1) := by decide +kernel
theorem dX7_winners_5 : decode cX7_winners 5 = .ok (.imul, 1) := by decide +kernel
theorem dX7_winners_6 : decode cX7_winners 6 = .ok (.ishr, 1) := by decide +kernel
theorem dX7_winners_7 : decode cX7_winners 7 = .ok (.bipush 31, 2) := by decide +kernel
theorem dX7_winners_9 : decode cX7_winners 9 = .ok (.iand, 1) := by decide +kernel
theorem dX7_winners_10 : decode cX7_winners 10 = .ok (.istore 4, 2) := by decide +kernel
theorem dX7_winners_12 : decode cX7_winners 12 = .ok (.iconst 0, 1) := by decide +kernel
theorem dX7_winners_13 : decode cX7_winners 13 = .ok (.istore 5, 2) := by decide +kernel
theorem dX7_winners_15 : decode cX7_winners 15 = .ok (.iload 5, 2) := by decide +kernel
theorem dX7_winners_17 : decode cX7_winners 17 = .ok (.iconst 5, 1) := by decide +kernel
theorem dX7_winners_18 : decode cX7_winners 18 = .ok (.if_icmp .ge 22, 3) := by decide +kernel
theorem dX7_winners_21 : decode cX7_winners 21 = .ok (.iload 4, 2) := by decide +kernel
theorem dX7_winners_23 : decode cX7_winners 23 = .ok (.iconst 4, 1) := by decide +kernel
theorem dX7_winners_24 : decode cX7_winners 24 = .ok (.iload 5, 2) := by decide +kernel
theorem dX7_winners_26 : decode cX7_winners 26 = .ok (.isub, 1) := by decide +kernel
theorem dX7_winners_27 : decode cX7_winners 27 = .ok (.ishr, 1) := by decide +kernel
theorem dX7_winners_28 : decode cX7_winners 28 = .ok (.iconst 1, 1) := by decide +kernel
theorem dX7_winners_29 : decode cX7_winners 29 = .ok (.iand, 1) := by decide +kernel
theorem dX7_winners_30 : decode cX7_winners 30 = .ok (.iconst 1, 1) := by decide +kernel
theorem dX7_winners_31 : decode cX7_winners 31 = .ok (.if_icmp .ne 9, 3) := by decide +kernel
theorem dX7_winners_34 : decode cX7_winners 34 = .ok (.iinc 5 1, 3) := by decide +kernel
theorem dX7_winners_37 : decode cX7_winners 37 = .ok (.goto (-22), 3) := by decide +kernel
theorem dX7_winners_40 : decode cX7_winners 40 = .ok (.aload_n 0, 1) := by decide +kernel
theorem dX7_winners_41 : decode cX7_winners 41 = .ok (.iload_n 1, 1) := by decide +kernel
theorem dX7_winners_42 : decode cX7_winners 42 = .ok (.iload_n 3, 1) := by decide +kernel
theorem dX7_winners_43 : decode cX7_winners 43 = .ok (.invokevirtual 50, 3) := by decide +kernel
theorem dX7_winners_46 : decode cX7_winners 46 = .ok (.aload_n 0, 1) := by decide +kernel
theorem dX7_winners_47 : decode cX7_winners 47 = .ok (.iload_n 2, 1) := by decide +kernel
theorem dX7_winners_48 : decode cX7_winners 48 = .ok (.iload_n 3, 1) := by decide +kernel
theorem dX7_winners_49 : decode cX7_winners 49 = .ok (.invokevirtual 50, 3) := by decide +kernel
theorem dX7_winners_52 : decode cX7_winners 52 = .ok (.if_icmp .le 12, 3) := by decide +kernel
theorem dX7_winners_55 : decode cX7_winners 55 = .ok (.aload_n 0, 1) := by decide +kernel
theorem dX7_winners_56 : decode cX7_winners 56 = .ok (.iload_n 1, 1) := by decide +kernel
theorem dX7_winners_57 : decode cX7_winners 57 = .ok (.iload_n 3, 1) := by decide +kernel
theorem dX7_winners_58 : decode cX7_winners 58 = .ok (.invokevirtual 50, 3) := by decide +kernel
theorem dX7_winners_61 : decode cX7_winners 61 = .ok (.goto 9, 3) := by decide +kernel
theorem dX7_winners_64 : decode cX7_winners 64 = .ok (.aload_n 0, 1) := by decide +kernel
theorem dX7_winners_65 : decode cX7_winners 65 = .ok (.iload_n 2, 1) := by decide +kernel
theorem dX7_winners_66 : decode cX7_winners 66 = .ok (.iload_n 3, 1) := by decide +kernel
theorem dX7_winners_67 : decode cX7_winners 67 = .ok (.invokevirtual 50, 3) := by decide +kernel
theorem dX7_winners_70 : decode cX7_winners 70 = .ok (.istore 6, 2) := by decide +kernel
theorem dX7_winners_72 : decode cX7_winners 72 = .ok (.iload 5, 2) := by decide +kernel
theorem dX7_winners_74 : decode cX7_winners 74 = .ok (.iload 6, 2) := by decide +kernel
theorem dX7_winners_76 : decode cX7_winners 76 = .ok (.if_icmp .ge 8, 3) := by decide +kernel
theorem dX7_winners_79 : decode cX7_winners 79 = .ok (.iload 5, 2) := by decide +kernel
theorem dX7_winners_81 : decode cX7_winners 81 = .ok (.goto 5, 3) := by decide +kernel
theorem dX7_winners_84 : decode cX7_winners 84 = .ok (.iload 6, 2) := by decide +kernel
theorem dX7_winners_86 : decode cX7_winners 86 = .ok (.ireturn, 1) := by decide +kernel
theorem dX7_ruffs_0 : decode cX7_ruffs 0 = .ok (.iload_n 3, 1) := by decide +kernel
theorem dX7_ruffs_1 : decode cX7_ruffs 1 = .ok (.iload 4, 2) := by decide +kernel
theorem dX7_ruffs_3 : decode cX7_ruffs 3 = .ok (.if_icmp .eq 35, 3) := by decide +kernel
theorem dX7_ruffs_6 : decode cX7_ruffs 6 = .ok (.aload_n 0, 1) := by decide +kernel
theorem dX7_ruffs_7 : decode cX7_ruffs 7 = .ok (.iload_n 1, 1) := by decide +kernel
theorem dX7_ruffs_8 : decode cX7_ruffs 8 = .ok (.iload_n 3, 1) := by decide +kernel
theorem dX7_ruffs_9 : decode cX7_ruffs 9 = .ok (.invokevirtual 50, 3) := by decide +kernel
theorem dX7_ruffs_12 : decode cX7_ruffs 12 = .ok (.ifCond .ne 26, 3) := by decide +kernel
theorem dX7_ruffs_15 : decode cX7_ruffs 15 = .ok (.aload_n 0, 1) := by decide +kernel
theorem dX7_ruffs_16 : decode cX7_ruffs 16 = .ok (.iload_n 1, 1) := by decide +kernel
theorem dX7_ruffs_17 : decode cX7_ruffs 17 = .ok (.iload 4, 2) := by decide +kernel
theorem dX7_ruffs_19 : decode cX7_ruffs 19 = .ok (.invokevirtual 50, 3) := by decide +kernel
theorem dX7_ruffs_22 : decode cX7_ruffs 22 = .ok (.ifCond .le 16, 3) := by decide +kernel
theorem dX7_ruffs_25 : decode cX7_ruffs 25 = .ok (.aload_n 0, 1) := by decide +kernel
theorem dX7_ruffs_26 : decode cX7_ruffs 26 = .ok (.iload_n 2, 1) := by decide +kernel
theorem dX7_ruffs_27 : decode cX7_ruffs 27 = .ok (.iload_n 3, 1) := by decide +kernel
theorem dX7_ruffs_28 : decode cX7_ruffs 28 = .ok (.invokevirtual 50, 3) := by decide +kernel
theorem dX7_ruffs_31 : decode cX7_ruffs 31 = .ok (.ifCond .le 7, 3) := by decide +kernel
theorem dX7_ruffs_34 : decode cX7_ruffs 34 = .ok (.iconst 1, 1) := by decide +kernel
theorem dX7_ruffs_35 : decode cX7_ruffs 35 = .ok (.goto 4, 3) := by decide +kernel
theorem dX7_ruffs_38 : decode cX7_ruffs 38 = .ok (.iconst 0, 1) := by decide +kernel
theorem dX7_ruffs_39 : decode cX7_ruffs 39 = .ok (.ireturn, 1) := by decide +kernel
theorem dX7_tricksOf_0 : decode cX7_tricksOf 0 = .ok (.iconst 0, 1) := by decide +kernel
theorem dX7_tricksOf_1 : decode cX7_tricksOf 1 = .ok (.istore 4, 2) := by decide +kernel
theorem dX7_tricksOf_3 : decode cX7_tricksOf 3 = .ok (.iconst 0, 1) := by decide +kernel
theorem dX7_tricksOf_4 : decode cX7_tricksOf 4 = .ok (.istore 5, 2) := by decide +kernel
theorem dX7_tricksOf_6 : decode cX7_tricksOf 6 = .ok (.iload 5, 2) := by decide +kernel
theorem dX7_tricksOf_8 : decode cX7_tricksOf 8 = .ok (.iconst 4, 1) := by decide +kernel
theorem dX7_tricksOf_9 : decode cX7_tricksOf 9 = .ok (.if_icmp .ge 71, 3) := by decide +kernel
theorem dX7_tricksOf_12 : decode cX7_tricksOf 12 = .ok (.iload 4, 2) := by decide +kernel
theorem dX7_tricksOf_14 : decode cX7_tricksOf 14 = .ok (.aload_n 0, 1) := by decide +kernel
theorem dX7_tricksOf_15 : decode cX7_tricksOf 15 = .ok (.iload_n 2, 1) := by decide +kernel
theorem dX7_tricksOf_16 : decode cX7_tricksOf 16 = .ok (.iload_n 3, 1) := by decide +kernel
theorem dX7_tricksOf_17 : decode cX7_tricksOf 17 = .ok (.iload 5, 2) := by decide +kernel
theorem dX7_tricksOf_19 : decode cX7_tricksOf 19 = .ok (.invokevirtual 147, 3) := by decide +kernel
theorem dX7_tricksOf_22 : decode cX7_tricksOf 22 = .ok (.iadd, 1) := by decide +kernel
theorem dX7_tricksOf_23 : decode cX7_tricksOf 23 = .ok (.istore 4, 2) := by decide +kernel
theorem dX7_tricksOf_25 : decode cX7_tricksOf 25 = .ok (.iload_n 1, 1) := by decide +kernel
theorem dX7_tricksOf_26 : decode cX7_tricksOf 26 = .ok (.iconst 4, 1) := by decide +kernel
theorem dX7_tricksOf_27 : decode cX7_tricksOf 27 = .ok (.if_icmp .ge 47, 3) := by decide +kernel
theorem dX7_tricksOf_30 : decode cX7_tricksOf 30 = .ok (.iload 4, 2) := by decide +kernel
theorem dX7_tricksOf_32 : decode cX7_tricksOf 32 = .ok (.aload_n 0, 1) := by decide +kernel
theorem dX7_tricksOf_33 : decode cX7_tricksOf 33 = .ok (.iload_n 2, 1) := by decide +kernel
theorem dX7_tricksOf_34 : decode cX7_tricksOf 34 = .ok (.iload_n 3, 1) := by decide +kernel
theorem dX7_tricksOf_35 : decode cX7_tricksOf 35 = .ok (.iload 5, 2) := by decide +kernel
theorem dX7_tricksOf_37 : decode cX7_tricksOf 37 = .ok (.iload_n 1, 1) := by decide +kernel
theorem dX7_tricksOf_38 : decode cX7_tricksOf 38 = .ok (.invokevirtual 150, 3) := by decide +kernel
theorem dX7_tricksOf_41 : decode cX7_tricksOf 41 = .ok (.ifCond .eq 7, 3) := by decide +kernel
theorem dX7_tricksOf_44 : decode cX7_tricksOf 44 = .ok (.iconst 1, 1) := by decide +kernel
theorem dX7_tricksOf_45 : decode cX7_tricksOf 45 = .ok (.goto 4, 3) := by decide +kernel
theorem dX7_tricksOf_48 : decode cX7_tricksOf 48 = .ok (.iconst 0, 1) := by decide +kernel
theorem dX7_tricksOf_49 : decode cX7_tricksOf 49 = .ok (.iadd, 1) := by decide +kernel
theorem dX7_tricksOf_50 : decode cX7_tricksOf 50 = .ok (.istore 4, 2) := by decide +kernel
theorem dX7_tricksOf_52 : decode cX7_tricksOf 52 = .ok (.iload 4, 2) := by decide +kernel
theorem dX7_tricksOf_54 : decode cX7_tricksOf 54 = .ok (.aload_n 0, 1) := by decide +kernel
theorem dX7_tricksOf_55 : decode cX7_tricksOf 55 = .ok (.iload_n 3, 1) := by decide +kernel
theorem dX7_tricksOf_56 : decode cX7_tricksOf 56 = .ok (.iload_n 2, 1) := by decide +kernel
theorem dX7_tricksOf_57 : decode cX7_tricksOf 57 = .ok (.iload 5, 2) := by decide +kernel
theorem dX7_tricksOf_59 : decode cX7_tricksOf 59 = .ok (.iload_n 1, 1) := by decide +kernel
theorem dX7_tricksOf_60 : decode cX7_tricksOf 60 = .ok (.invokevirtual 150, 3) := by decide +kernel
theorem dX7_tricksOf_63 : decode cX7_tricksOf 63 = .ok (.ifCond .eq 7, 3) := by decide +kernel
theorem dX7_tricksOf_66 : decode cX7_tricksOf 66 = .ok (.iconst 1, 1) := by decide +kernel
theorem dX7_tricksOf_67 : decode cX7_tricksOf 67 = .ok (.goto 4, 3) := by decide +kernel
theorem dX7_tricksOf_70 : decode cX7_tricksOf 70 = .ok (.iconst 0, 1) := by decide +kernel
theorem dX7_tricksOf_71 : decode cX7_tricksOf 71 = .ok (.iadd, 1) := by decide +kernel
theorem dX7_tricksOf_72 : decode cX7_tricksOf 72 = .ok (.istore 4, 2) := by decide +kernel
theorem dX7_tricksOf_74 : decode cX7_tricksOf 74 = .ok (.iinc 5 1, 3) := by decide +kernel
theorem dX7_tricksOf_77 : decode cX7_tricksOf 77 = .ok (.goto (-71), 3) := by decide +kernel
theorem dX7_tricksOf_80 : decode cX7_tricksOf 80 = .ok (.iload 4, 2) := by decide +kernel
theorem dX7_tricksOf_82 : decode cX7_tricksOf 82 = .ok (.iconst 5, 1) := by decide +kernel
theorem dX7_tricksOf_83 : decode cX7_tricksOf 83 = .ok (.if_icmp .ge 8, 3) := by decide +kernel
theorem dX7_tricksOf_86 : decode cX7_tricksOf 86 = .ok (.iload 4, 2) := by decide +kernel
theorem dX7_tricksOf_88 : decode cX7_tricksOf 88 = .ok (.goto 4, 3) := by decide +kernel
theorem dX7_tricksOf_91 : decode cX7_tricksOf 91 = .ok (.iconst 5, 1) := by decide +kernel
theorem dX7_tricksOf_92 : decode cX7_tricksOf 92 = .ok (.ireturn, 1) := by decide +kernel
theorem dX7_tricks_0 : decode cX7_tricks 0 = .ok (.iload_n 1, 1) := by decide +kernel
theorem dX7_tricks_1 : decode cX7_tricks 1 = .ok (.iconst 0, 1) := by decide +kernel
theorem dX7_tricks_2 : decode cX7_tricks 2 = .ok (.iconst 4, 1) := by decide +kernel
theorem dX7_tricks_3 : decode cX7_tricks 3 = .ok (.invokestatic 55, 3) := by decide +kernel
theorem dX7_tricks_6 : decode cX7_tricks 6 = .ok (.ifCond .eq 25, 3) := by decide +kernel
theorem dX7_tricks_9 : decode cX7_tricks 9 = .ok (.aload_n 0, 1) := by decide +kernel
theorem dX7_tricks_10 : decode cX7_tricks 10 = .ok (.iload_n 2, 1) := by decide +kernel
theorem dX7_tricks_11 : decode cX7_tricks 11 = .ok (.invokevirtual 108, 3) := by decide +kernel
theorem dX7_tricks_14 : decode cX7_tricks 14 = .ok (.ifCond .eq 17, 3) := by decide +kernel
theorem dX7_tricks_17 : decode cX7_tricks 17 = .ok (.aload_n 0, 1) := by decide +kernel
theorem dX7_tricks_18 : decode cX7_tricks 18 = .ok (.iload_n 3, 1) := by decide +kernel
theorem dX7_tricks_19 : decode cX7_tricks 19 = .ok (.invokevirtual 108, 3) := by decide +kernel
theorem dX7_tricks_22 : decode cX7_tricks 22 = .ok (.ifCond .eq 9, 3) := by decide +kernel
theorem dX7_tricks_25 : decode cX7_tricks 25 = .ok (.iload_n 2, 1) := by decide +kernel
theorem dX7_tricks_26 : decode cX7_tricks 26 = .ok (.iload_n 3, 1) := by decide +kernel
theorem dX7_tricks_27 : decode cX7_tricks 27 = .ok (.iand, 1) := by decide +kernel
theorem dX7_tricks_28 : decode cX7_tricks 28 = .ok (.ifCond .eq 6, 3) := by decide +kernel
theorem dX7_tricks_31 : decode cX7_tricks 31 = .ok (.bipush (-2), 2) := by decide +kernel
theorem dX7_tricks_33 : decode cX7_tricks 33 = .ok (.ireturn, 1) := by decide +kernel
theorem dX7_tricks_34 : decode cX7_tricks 34 = .ok (.aload_n 0, 1) := by decide +kernel
theorem dX7_tricks_35 : decode cX7_tricks 35 = .ok (.iload_n 1, 1) := by decide +kernel
theorem dX7_tricks_36 : decode cX7_tricks 36 = .ok (.iload_n 2, 1) := by decide +kernel
theorem dX7_tricks_37 : decode cX7_tricks 37 = .ok (.iload_n 3, 1) := by decide +kernel
theorem dX7_tricks_38 : decode cX7_tricks 38 = .ok (.invokevirtual 153, 3) := by decide +kernel
theorem dX7_tricks_41 : decode cX7_tricks 41 = .ok (.ireturn, 1) := by decide +kernel
theorem dX7_laySums_0 : decode cX7_laySums 0 = .ok (.aload_n 0, 1) := by decide +kernel
theorem dX7_laySums_1 : decode cX7_laySums 1 = .ok (.iconst 0, 1) := by decide +kernel
theorem dX7_laySums_2 : decode cX7_laySums 2 = .ok (.putfield 156, 3) := by decide +kernel
theorem dX7_laySums_5 : decode cX7_laySums 5 = .ok (.iconst 0, 1) := by decide +kernel
theorem dX7_laySums_6 : decode cX7_laySums 6 = .ok (.istore_n 2, 1) := by decide +kernel
theorem dX7_laySums_7 : decode cX7_laySums 7 = .ok (.iload_n 2, 1) := by decide +kernel
theorem dX7_laySums_8 : decode cX7_laySums 8 = .ok (.iconst 5, 1) := by decide +kernel
theorem dX7_laySums_9 : decode cX7_laySums 9 = .ok (.if_icmp .ge 16, 3) := by decide +kernel
theorem dX7_laySums_12 : decode cX7_laySums 12 = .ok (.aload_n 0, 1) := by decide +kernel
theorem dX7_laySums_13 : decode cX7_laySums 13 = .ok (.getfield 43, 3) := by decide +kernel
theorem dX7_laySums_16 : decode cX7_laySums 16 = .ok (.iload_n 2, 1) := by decide +kernel
theorem dX7_laySums_17 : decode cX7_laySums 17 = .ok (.lconst 0, 1) := by decide +kernel
theorem dX7_laySums_18 : decode cX7_laySums 18 = .ok (.lastore, 1) := by decide +kernel
theorem dX7_laySums_19 : decode cX7_laySums 19 = .ok (.iinc 2 1, 3) := by decide +kernel
theorem dX7_laySums_22 : decode cX7_laySums 22 = .ok (.goto (-15), 3) := by decide +kernel
theorem dX7_laySums_25 : decode cX7_laySums 25 = .ok (.aload_n 0, 1) := by decide +kernel
theorem dX7_laySums_26 : decode cX7_laySums 26 = .ok (.getfield 13, 3) := by decide +kernel
theorem dX7_laySums_29 : decode cX7_laySums 29 = .ok (.iload_n 1, 1) := by decide +kernel
theorem dX7_laySums_30 : decode cX7_laySums 30 = .ok (.iaload, 1) := by decide +kernel
theorem dX7_laySums_31 : decode cX7_laySums 31 = .ok (.istore_n 2, 1) := by decide +kernel
theorem dX7_laySums_32 : decode cX7_laySums 32 = .ok (.bipush 31, 2) := by decide +kernel
theorem dX7_laySums_34 : decode cX7_laySums 34 = .ok (.istore_n 3, 1) := by decide +kernel
theorem dX7_laySums_35 : decode cX7_laySums 35 = .ok (.iload_n 3, 1) := by decide +kernel
theorem dX7_laySums_36 : decode cX7_laySums 36 = .ok (.ldc 54, 2) := by decide +kernel
theorem dX7_laySums_38 : decode cX7_laySums 38 = .ok (.if_icmp .gt 72, 3) := by decide +kernel
theorem dX7_laySums_41 : decode cX7_laySums 41 = .ok (.iload_n 3, 1) := by decide +kernel
theorem dX7_laySums_42 : decode cX7_laySums 42 = .ok (.iload_n 2, 1) := by decide +kernel
theorem dX7_laySums_43 : decode cX7_laySums 43 = .ok (.iand, 1) := by decide +kernel
theorem dX7_laySums_44 : decode cX7_laySums 44 = .ok (.ifCond .ne 58, 3) := by decide +kernel
theorem dX7_laySums_47 : decode cX7_laySums 47 = .ok (.aload_n 0, 1) := by decide +kernel
theorem dX7_laySums_48 : decode cX7_laySums 48 = .ok (.iconst 1, 1) := by decide +kernel
theorem dX7_laySums_49 : decode cX7_laySums 49 = .ok (.iload_n 1, 1) := by decide +kernel
theorem dX7_laySums_50 : decode cX7_laySums 50 = .ok (.isub, 1) := by decide +kernel
theorem dX7_laySums_51 : decode cX7_laySums 51 = .ok (.iload_n 3, 1) := by decide +kernel
theorem dX7_laySums_52 : decode cX7_laySums 52 = .ok (.invokevirtual 134, 3) := by decide +kernel
theorem dX7_laySums_55 : decode cX7_laySums 55 = .ok (.ifCond .eq 47, 3) := by decide +kernel
theorem dX7_laySums_58 : decode cX7_laySums 58 = .ok (.aload_n 0, 1) := by decide +kernel
theorem dX7_laySums_59 : decode cX7_laySums 59 = .ok (.dup, 1) := by decide +kernel
theorem dX7_laySums_60 : decode cX7_laySums 60 = .ok (.getfield 156, 3) := by decide +kernel
theorem dX7_laySums_63 : decode cX7_laySums 63 = .ok (.iconst 1, 1) := by decide +kernel
theorem dX7_laySums_64 : decode cX7_laySums 64 = .ok (.iadd, 1) := by decide +kernel
theorem dX7_laySums_65 : decode cX7_laySums 65 = .ok (.putfield 156, 3) := by decide +kernel
theorem dX7_laySums_68 : decode cX7_laySums 68 = .ok (.iconst 0, 1) := by decide +kernel
theorem dX7_laySums_69 : decode cX7_laySums 69 = .ok (.istore 4, 2) := by decide +kernel
theorem dX7_laySums_71 : decode cX7_laySums 71 = .ok (.iload 4, 2) := by decide +kernel
theorem dX7_laySums_73 : decode cX7_laySums 73 = .ok (.iconst 5, 1) := by decide +kernel
theorem dX7_laySums_74 : decode cX7_laySums 74 = .ok (.if_icmp .ge 28, 3) := by decide +kernel
theorem dX7_laySums_77 : decode cX7_laySums 77 = .ok (.aload_n 0, 1) := by decide +kernel
theorem dX7_laySums_78 : decode cX7_laySums 78 = .ok (.getfield 43, 3) := by decide +kernel
theorem dX7_laySums_81 : decode cX7_laySums 81 = .ok (.iload 4, 2) := by decide +kernel
theorem dX7_laySums_83 : decode cX7_laySums 83 = .ok (.dup2, 1) := by decide +kernel
theorem dX7_laySums_84 : decode cX7_laySums 84 = .ok (.laload, 1) := by decide +kernel
theorem dX7_laySums_85 : decode cX7_laySums 85 = .ok (.aload_n 0, 1) := by decide +kernel
theorem dX7_laySums_86 : decode cX7_laySums 86 = .ok (.iload 4, 2) := by decide +kernel
theorem dX7_laySums_88 : decode cX7_laySums 88 = .ok (.iload_n 2, 1) := by decide +kernel
theorem dX7_laySums_89 : decode cX7_laySums 89 = .ok (.iload_n 3, 1) := by decide +kernel
theorem dX7_laySums_90 : decode cX7_laySums 90 = .ok (.invokevirtual 153, 3) := by decide +kernel
theorem dX7_laySums_93 : decode cX7_laySums 93 = .ok (.i2l, 1) := by decide +kernel
theorem dX7_laySums_94 : decode cX7_laySums 94 = .ok (.ladd, 1) := by decide +kernel
theorem dX7_laySums_95 : decode cX7_laySums 95 = .ok (.lastore, 1) := by decide +kernel
theorem dX7_laySums_96 : decode cX7_laySums 96 = .ok (.iinc 4 1, 3) := by decide +kernel
theorem dX7_laySums_99 : decode cX7_laySums 99 = .ok (.goto (-28), 3) := by decide +kernel
theorem dX7_laySums_102 : decode cX7_laySums 102 = .ok (.iload_n 3, 1) := by decide +kernel
theorem dX7_laySums_103 : decode cX7_laySums 103 = .ok (.invokestatic 98, 3) := by decide +kernel
theorem dX7_laySums_106 : decode cX7_laySums 106 = .ok (.istore_n 3, 1) := by decide +kernel
theorem dX7_laySums_107 : decode cX7_laySums 107 = .ok (.goto (-72), 3) := by decide +kernel
theorem dX7_laySums_110 : decode cX7_laySums 110 = .ok (.return_, 1) := by decide +kernel
theorem dX7_expected_0 : decode cX7_expected 0 = .ok (.iload_n 1, 1) := by decide +kernel
theorem dX7_expected_1 : decode cX7_expected 1 = .ok (.invokestatic 105, 3) := by decide +kernel
theorem dX7_expected_4 : decode cX7_expected 4 = .ok (.ifCond .ne 7, 3) := by decide +kernel
theorem dX7_expected_7 : decode cX7_expected 7 = .ok (.ldc2_w 159, 3) := by decide +kernel
theorem dX7_expected_10 : decode cX7_expected 10 = .ok (.lreturn, 1) := by decide +kernel
theorem dX7_expected_11 : decode cX7_expected 11 = .ok (.iload_n 2, 1) := by decide +kernel
theorem dX7_expected_12 : decode cX7_expected 12 = .ok (.iconst 0, 1) := by decide +kernel
theorem dX7_expected_13 : decode cX7_expected 13 = .ok (.iconst 4, 1) := by decide +kernel
theorem dX7_expected_14 : decode cX7_expected 14 = .ok (.invokestatic 55, 3) := by decide +kernel
theorem dX7_expected_17 : decode cX7_expected 17 = .ok (.ifCond .ne 7, 3) := by decide +kernel
theorem dX7_expected_20 : decode cX7_expected 20 = .ok (.ldc2_w 161, 3) := by decide +kernel
theorem dX7_expected_23 : decode cX7_expected 23 = .ok (.lreturn, 1) := by decide +kernel
theorem dX7_expected_24 : decode cX7_expected 24 = .ok (.aload_n 0, 1) := by decide +kernel
theorem dX7_expected_25 : decode cX7_expected 25 = .ok (.iload_n 1, 1) := by decide +kernel
theorem dX7_expected_26 : decode cX7_expected 26 = .ok (.invokevirtual 163, 3) := by decide +kernel
theorem dX7_expected_29 : decode cX7_expected 29 = .ok (.aload_n 0, 1) := by decide +kernel
theorem dX7_expected_30 : decode cX7_expected 30 = .ok (.getfield 43, 3) := by decide +kernel
theorem dX7_expected_33 : decode cX7_expected 33 = .ok (.iload_n 2, 1) := by decide +kernel
theorem dX7_expected_34 : decode cX7_expected 34 = .ok (.laload, 1) := by decide +kernel
theorem dX7_expected_35 : decode cX7_expected 35 = .ok (.lreturn, 1) := by decide +kernel
theorem dX7_contract_0 : decode cX7_contract 0 = .ok (.iload_n 1, 1) := by decide +kernel
theorem dX7_contract_1 : decode cX7_contract 1 = .ok (.invokestatic 105, 3) := by decide +kernel
theorem dX7_contract_4 : decode cX7_contract 4 = .ok (.ifCond .ne 5, 3) := by decide +kernel
theorem dX7_contract_7 : decode cX7_contract 7 = .ok (.iconst (-1), 1) := by decide +kernel
theorem dX7_contract_8 : decode cX7_contract 8 = .ok (.ireturn, 1) := by decide +kernel
theorem dX7_contract_9 : decode cX7_contract 9 = .ok (.aload_n 0, 1) := by decide +kernel
theorem dX7_contract_10 : decode cX7_contract 10 = .ok (.iload_n 1, 1) := by decide +kernel
theorem dX7_contract_11 : decode cX7_contract 11 = .ok (.invokevirtual 163, 3) := by decide +kernel
theorem dX7_contract_14 : decode cX7_contract 14 = .ok (.iconst 0, 1) := by decide +kernel
theorem dX7_contract_15 : decode cX7_contract 15 = .ok (.istore_n 2, 1) := by decide +kernel
theorem dX7_contract_16 : decode cX7_contract 16 = .ok (.iconst 1, 1) := by decide +kernel
theorem dX7_contract_17 : decode cX7_contract 17 = .ok (.istore_n 3, 1) := by decide +kernel
theorem dX7_contract_18 : decode cX7_contract 18 = .ok (.iload_n 3, 1) := by decide +kernel
theorem dX7_contract_19 : decode cX7_contract 19 = .ok (.iconst 5, 1) := by decide +kernel
theorem dX7_contract_20 : decode cX7_contract 20 = .ok (.if_icmp .ge 31, 3) := by decide +kernel
theorem dX7_contract_23 : decode cX7_contract 23 = .ok (.aload_n 0, 1) := by decide +kernel
theorem dX7_contract_24 : decode cX7_contract 24 = .ok (.getfield 43, 3) := by decide +kernel
theorem dX7_contract_27 : decode cX7_contract 27 = .ok (.iload_n 3, 1) := by decide +kernel
theorem dX7_contract_28 : decode cX7_contract 28 = .ok (.laload, 1) := by decide +kernel
theorem dX7_contract_29 : decode cX7_contract 29 = .ok (.aload_n 0, 1) := by decide +kernel
theorem dX7_contract_30 : decode cX7_contract 30 = .ok (.getfield 43, 3) := by decide +kernel
theorem dX7_contract_33 : decode cX7_contract 33 = .ok (.iload_n 2, 1) := by decide +kernel
theorem dX7_contract_34 : decode cX7_contract 34 = .ok (.laload, 1) := by decide +kernel
theorem dX7_contract_35 : decode cX7_contract 35 = .ok (.lcmp, 1) := by decide +kernel
theorem dX7_contract_36 : decode cX7_contract 36 = .ok (.ifCond .lt 7, 3) := by decide +kernel
theorem dX7_contract_39 : decode cX7_contract 39 = .ok (.iload_n 3, 1) := by decide +kernel
theorem dX7_contract_40 : decode cX7_contract 40 = .ok (.goto 4, 3) := by decide +kernel
theorem dX7_contract_43 : decode cX7_contract 43 = .ok (.iload_n 2, 1) := by decide +kernel
theorem dX7_contract_44 : decode cX7_contract 44 = .ok (.istore_n 2, 1) := by decide +kernel
theorem dX7_contract_45 : decode cX7_contract 45 = .ok (.iinc 3 1, 3) := by decide +kernel
theorem dX7_contract_48 : decode cX7_contract 48 = .ok (.goto (-30), 3) := by decide +kernel
theorem dX7_contract_51 : decode cX7_contract 51 = .ok (.aload_n 0, 1) := by decide +kernel
theorem dX7_contract_52 : decode cX7_contract 52 = .ok (.getfield 156, 3) := by decide +kernel
theorem dX7_contract_55 : decode cX7_contract 55 = .ok (.ifCond .ne 7, 3) := by decide +kernel
theorem dX7_contract_58 : decode cX7_contract 58 = .ok (.iconst 0, 1) := by decide +kernel
theorem dX7_contract_59 : decode cX7_contract 59 = .ok (.goto 16, 3) := by decide +kernel
theorem dX7_contract_62 : decode cX7_contract 62 = .ok (.aload_n 0, 1) := by decide +kernel
theorem dX7_contract_63 : decode cX7_contract 63 = .ok (.getfield 43, 3) := by decide +kernel
theorem dX7_contract_66 : decode cX7_contract 66 = .ok (.iload_n 2, 1) := by decide +kernel
theorem dX7_contract_67 : decode cX7_contract 67 = .ok (.laload, 1) := by decide +kernel
theorem dX7_contract_68 : decode cX7_contract 68 = .ok (.aload_n 0, 1) := by decide +kernel
theorem dX7_contract_69 : decode cX7_contract 69 = .ok (.getfield 156, 3) := by decide +kernel
theorem dX7_contract_72 : decode cX7_contract 72 = .ok (.i2l, 1) := by decide +kernel
theorem dX7_contract_73 : decode cX7_contract 73 = .ok (.ldiv, 1) := by decide +kernel
theorem dX7_contract_74 : decode cX7_contract 74 = .ok (.l2i, 1) := by decide +kernel
theorem dX7_contract_75 : decode cX7_contract 75 = .ok (.istore_n 3, 1) := by decide +kernel
theorem dX7_contract_76 : decode cX7_contract 76 = .ok (.iload_n 3, 1) := by decide +kernel
theorem dX7_contract_77 : decode cX7_contract 77 = .ok (.ifCond .ne 8, 3) := by decide +kernel
theorem dX7_contract_80 : decode cX7_contract 80 = .ok (.bipush (-6), 2) := by decide +kernel
theorem dX7_contract_82 : decode cX7_contract 82 = .ok (.goto 10, 3) := by decide +kernel
theorem dX7_contract_85 : decode cX7_contract 85 = .ok (.iconst 5, 1) := by decide +kernel
theorem dX7_contract_86 : decode cX7_contract 86 = .ok (.iload_n 3, 1) := by decide +kernel
theorem dX7_contract_87 : decode cX7_contract 87 = .ok (.iconst 1, 1) := by decide +kernel
theorem dX7_contract_88 : decode cX7_contract 88 = .ok (.isub, 1) := by decide +kernel
theorem dX7_contract_89 : decode cX7_contract 89 = .ok (.imul, 1) := by decide +kernel
theorem dX7_contract_90 : decode cX7_contract 90 = .ok (.iload_n 2, 1) := by decide +kernel
theorem dX7_contract_91 : decode cX7_contract 91 = .ok (.iadd, 1) := by decide +kernel
theorem dX7_contract_92 : decode cX7_contract 92 = .ok (.ireturn, 1) := by decide +kernel
theorem dX7_put_0 : decode cX7_put 0 = .ok (.iconst 0, 1) := by decide +kernel
theorem dX7_put_1 : decode cX7_put 1 = .ok (.istore_n 3, 1) := by decide +kernel
theorem dX7_put_2 : decode cX7_put 2 = .ok (.lload_n 1, 1) := by decide +kernel
theorem dX7_put_3 : decode cX7_put 3 = .ok (.lstore 4, 2) := by decide +kernel
theorem dX7_put_5 : decode cX7_put 5 = .ok (.iload_n 3, 1) := by decide +kernel
theorem dX7_put_6 : decode cX7_put 6 = .ok (.bipush 8, 2) := by decide +kernel
theorem dX7_put_8 : decode cX7_put 8 = .ok (.if_icmp .ge 47, 3) := by decide +kernel
theorem dX7_put_11 : decode cX7_put 11 = .ok (.lload 4, 2) := by decide +kernel
theorem dX7_put_13 : decode cX7_put 13 = .ok (.ldc2_w 166, 3) := by decide +kernel
theorem dX7_put_16 : decode cX7_put 16 = .ok (.land, 1) := by decide +kernel
theorem dX7_put_17 : decode cX7_put 17 = .ok (.lconst 0, 1) := by decide +kernel
theorem dX7_put_18 : decode cX7_put 18 = .ok (.lcmp, 1) := by decide +kernel
theorem dX7_put_19 : decode cX7_put 19 = .ok (.ifCond .eq 36, 3) := by decide +kernel
theorem dX7_put_22 : decode cX7_put 22 = .ok (.lload 4, 2) := by decide +kernel
theorem dX7_put_24 : decode cX7_put 24 = .ok (.ldc2_w 166, 3) := by decide +kernel
theorem dX7_put_27 : decode cX7_put 27 = .ok (.land, 1) := by decide +kernel
theorem dX7_put_28 : decode cX7_put 28 = .ok (.l2i, 1) := by decide +kernel
theorem dX7_put_29 : decode cX7_put 29 = .ok (.bipush 33, 2) := by decide +kernel
theorem dX7_put_31 : decode cX7_put 31 = .ok (.bipush 126, 2) := by decide +kernel
theorem dX7_put_33 : decode cX7_put 33 = .ok (.invokestatic 55, 3) := by decide +kernel
theorem dX7_put_36 : decode cX7_put 36 = .ok (.ifCond .ne 6, 3) := by decide +kernel
theorem dX7_put_39 : decode cX7_put 39 = .ok (.bipush (-2), 2) := by decide +kernel
theorem dX7_put_41 : decode cX7_put 41 = .ok (.ireturn, 1) := by decide +kernel
theorem dX7_put_42 : decode cX7_put 42 = .ok (.iinc 3 1, 3) := by decide +kernel
theorem dX7_put_45 : decode cX7_put 45 = .ok (.lload 4, 2) := by decide +kernel
theorem dX7_put_47 : decode cX7_put 47 = .ok (.bipush 8, 2) := by decide +kernel
theorem dX7_put_49 : decode cX7_put 49 = .ok (.lushr, 1) := by decide +kernel
theorem dX7_put_50 : decode cX7_put 50 = .ok (.lstore 4, 2) := by decide +kernel
theorem dX7_put_52 : decode cX7_put 52 = .ok (.goto (-47), 3) := by decide +kernel
theorem dX7_put_55 : decode cX7_put 55 = .ok (.iload_n 3, 1) := by decide +kernel
theorem dX7_put_56 : decode cX7_put 56 = .ok (.ifCond .eq 10, 3) := by decide +kernel
theorem dX7_put_59 : decode cX7_put 59 = .ok (.lload 4, 2) := by decide +kernel
theorem dX7_put_61 : decode cX7_put 61 = .ok (.lconst 0, 1) := by decide +kernel
theorem dX7_put_62 : decode cX7_put 62 = .ok (.lcmp, 1) := by decide +kernel
theorem dX7_put_63 : decode cX7_put 63 = .ok (.ifCond .eq 6, 3) := by decide +kernel
theorem dX7_put_66 : decode cX7_put 66 = .ok (.bipush (-2), 2) := by decide +kernel
theorem dX7_put_68 : decode cX7_put 68 = .ok (.ireturn, 1) := by decide +kernel
theorem dX7_put_69 : decode cX7_put 69 = .ok (.aload_n 0, 1) := by decide +kernel
theorem dX7_put_70 : decode cX7_put 70 = .ok (.getfield 131, 3) := by decide +kernel
theorem dX7_put_73 : decode cX7_put 73 = .ok (.iload_n 3, 1) := by decide +kernel
theorem dX7_put_74 : decode cX7_put 74 = .ok (.iadd, 1) := by decide +kernel
theorem dX7_put_75 : decode cX7_put 75 = .ok (.bipush 60, 2) := by decide +kernel
theorem dX7_put_77 : decode cX7_put 77 = .ok (.if_icmp .le 6, 3) := by decide +kernel
theorem dX7_put_80 : decode cX7_put 80 = .ok (.bipush (-4), 2) := by decide +kernel
theorem dX7_put_82 : decode cX7_put 82 = .ok (.ireturn, 1) := by decide +kernel
theorem dX7_put_83 : decode cX7_put 83 = .ok (.iconst 0, 1) := by decide +kernel
theorem dX7_put_84 : decode cX7_put 84 = .ok (.istore 6, 2) := by decide +kernel
theorem dX7_put_86 : decode cX7_put 86 = .ok (.iload 6, 2) := by decide +kernel
theorem dX7_put_88 : decode cX7_put 88 = .ok (.iload_n 3, 1) := by decide +kernel
theorem dX7_put_89 : decode cX7_put 89 = .ok (.if_icmp .ge 37, 3) := by decide +kernel
theorem dX7_put_92 : decode cX7_put 92 = .ok (.aload_n 0, 1) := by decide +kernel
theorem dX7_put_93 : decode cX7_put 93 = .ok (.getfield 37, 3) := by decide +kernel
theorem dX7_put_96 : decode cX7_put 96 = .ok (.aload_n 0, 1) := by decide +kernel
theorem dX7_put_97 : decode cX7_put 97 = .ok (.getfield 131, 3) := by decide +kernel
theorem dX7_put_100 : decode cX7_put 100 = .ok (.iload 6, 2) := by decide +kernel
theorem dX7_put_102 : decode cX7_put 102 = .ok (.iadd, 1) := by decide +kernel
theorem dX7_put_103 : decode cX7_put 103 = .ok (.lload_n 1, 1) := by decide +kernel
theorem dX7_put_104 : decode cX7_put 104 = .ok (.bipush 8, 2) := by decide +kernel
theorem dX7_put_106 : decode cX7_put 106 = .ok (.iload_n 3, 1) := by decide +kernel
theorem dX7_put_107 : decode cX7_put 107 = .ok (.iconst 1, 1) := by decide +kernel
theorem dX7_put_108 : decode cX7_put 108 = .ok (.isub, 1) := by decide +kernel
theorem dX7_put_109 : decode cX7_put 109 = .ok (.iload 6, 2) := by decide +kernel
theorem dX7_put_111 : decode cX7_put 111 = .ok (.isub, 1) := by decide +kernel
theorem dX7_put_112 : decode cX7_put 112 = .ok (.imul, 1) := by decide +kernel
theorem dX7_put_113 : decode cX7_put 113 = .ok (.lshr, 1) := by decide +kernel
theorem dX7_put_114 : decode cX7_put 114 = .ok (.ldc2_w 166, 3) := by decide +kernel
theorem dX7_put_117 : decode cX7_put 117 = .ok (.land, 1) := by decide +kernel
theorem dX7_put_118 : decode cX7_put 118 = .ok (.l2i, 1) := by decide +kernel
theorem dX7_put_119 : decode cX7_put 119 = .ok (.iastore, 1) := by decide +kernel
theorem dX7_put_120 : decode cX7_put 120 = .ok (.iinc 6 1, 3) := by decide +kernel
theorem dX7_put_123 : decode cX7_put 123 = .ok (.goto (-37), 3) := by decide +kernel
theorem dX7_put_126 : decode cX7_put 126 = .ok (.aload_n 0, 1) := by decide +kernel
theorem dX7_put_127 : decode cX7_put 127 = .ok (.dup, 1) := by decide +kernel
theorem dX7_put_128 : decode cX7_put 128 = .ok (.getfield 131, 3) := by decide +kernel
theorem dX7_put_131 : decode cX7_put 131 = .ok (.iload_n 3, 1) := by decide +kernel
theorem dX7_put_132 : decode cX7_put 132 = .ok (.iadd, 1) := by decide +kernel
theorem dX7_put_133 : decode cX7_put 133 = .ok (.putfield 131, 3) := by decide +kernel
theorem dX7_put_136 : decode cX7_put 136 = .ok (.aload_n 0, 1) := by decide +kernel
theorem dX7_put_137 : decode cX7_put 137 = .ok (.getfield 131, 3) := by decide +kernel
theorem dX7_put_140 : decode cX7_put 140 = .ok (.ireturn, 1) := by decide +kernel
theorem dX7_wipe_0 : decode cX7_wipe 0 = .ok (.aload_n 0, 1) := by decide +kernel
theorem dX7_wipe_1 : decode cX7_wipe 1 = .ok (.getfield 131, 3) := by decide +kernel
theorem dX7_wipe_4 : decode cX7_wipe 4 = .ok (.istore_n 1, 1) := by decide +kernel
theorem dX7_wipe_5 : decode cX7_wipe 5 = .ok (.aload_n 0, 1) := by decide +kernel
theorem dX7_wipe_6 : decode cX7_wipe 6 = .ok (.iconst 0, 1) := by decide +kernel
theorem dX7_wipe_7 : decode cX7_wipe 7 = .ok (.putfield 131, 3) := by decide +kernel
theorem dX7_wipe_10 : decode cX7_wipe 10 = .ok (.iload_n 1, 1) := by decide +kernel
theorem dX7_wipe_11 : decode cX7_wipe 11 = .ok (.ireturn, 1) := by decide +kernel
theorem dX7_next_0 : decode cX7_next 0 = .ok (.aload_n 0, 1) := by decide +kernel
theorem dX7_next_1 : decode cX7_next 1 = .ok (.getfield 168, 3) := by decide +kernel
theorem dX7_next_4 : decode cX7_next 4 = .ok (.aload_n 0, 1) := by decide +kernel
theorem dX7_next_5 : decode cX7_next 5 = .ok (.getfield 131, 3) := by decide +kernel
theorem dX7_next_8 : decode cX7_next 8 = .ok (.if_icmp .ge 15, 3) := by decide +kernel
theorem dX7_next_11 : decode cX7_next 11 = .ok (.aload_n 0, 1) := by decide +kernel
theorem dX7_next_12 : decode cX7_next 12 = .ok (.getfield 37, 3) := by decide +kernel
theorem dX7_next_15 : decode cX7_next 15 = .ok (.aload_n 0, 1) := by decide +kernel
theorem dX7_next_16 : decode cX7_next 16 = .ok (.getfield 168, 3) := by decide +kernel
theorem dX7_next_19 : decode cX7_next 19 = .ok (.iaload, 1) := by decide +kernel
theorem dX7_next_20 : decode cX7_next 20 = .ok (.goto 4, 3) := by decide +kernel
theorem dX7_next_23 : decode cX7_next 23 = .ok (.iconst 0, 1) := by decide +kernel
theorem dX7_next_24 : decode cX7_next 24 = .ok (.ireturn, 1) := by decide +kernel
theorem dX7_takeOne_0 : decode cX7_takeOne 0 = .ok (.aload_n 0, 1) := by decide +kernel
theorem dX7_takeOne_1 : decode cX7_takeOne 1 = .ok (.aload_n 0, 1) := by decide +kernel
theorem dX7_takeOne_2 : decode cX7_takeOne 2 = .ok (.getfield 171, 3) := by decide +kernel
theorem dX7_takeOne_5 : decode cX7_takeOne 5 = .ok (.ifCond .ne 15, 3) := by decide +kernel
theorem dX7_takeOne_8 : decode cX7_takeOne 8 = .ok (.aload_n 0, 1) := by decide +kernel
theorem dX7_takeOne_9 : decode cX7_takeOne 9 = .ok (.invokevirtual 174, 3) := by decide +kernel
theorem dX7_takeOne_12 : decode cX7_takeOne 12 = .ok (.iload_n 1, 1) := by decide +kernel
theorem dX7_takeOne_13 : decode cX7_takeOne 13 = .ok (.iload_n 2, 1) := by decide +kernel
theorem dX7_takeOne_14 : decode cX7_takeOne 14 = .ok (.invokestatic 55, 3) := by decide +kernel
theorem dX7_takeOne_17 : decode cX7_takeOne 17 = .ok (.ifCond .ne 7, 3) := by decide +kernel
theorem dX7_takeOne_20 : decode cX7_takeOne 20 = .ok (.iconst 1, 1) := by decide +kernel
theorem dX7_takeOne_21 : decode cX7_takeOne 21 = .ok (.goto 4, 3) := by decide +kernel
theorem dX7_takeOne_24 : decode cX7_takeOne 24 = .ok (.iconst 0, 1) := by decide +kernel
theorem dX7_takeOne_25 : decode cX7_takeOne 25 = .ok (.putfield 171, 3) := by decide +kernel
theorem dX7_takeOne_28 : decode cX7_takeOne 28 = .ok (.aload_n 0, 1) := by decide +kernel
theorem dX7_takeOne_29 : decode cX7_takeOne 29 = .ok (.invokevirtual 174, 3) := by decide +kernel
theorem dX7_takeOne_32 : decode cX7_takeOne 32 = .ok (.iload_n 1, 1) := by decide +kernel
theorem dX7_takeOne_33 : decode cX7_takeOne 33 = .ok (.isub, 1) := by decide +kernel
theorem dX7_takeOne_34 : decode cX7_takeOne 34 = .ok (.istore_n 3, 1) := by decide +kernel
theorem dX7_takeOne_35 : decode cX7_takeOne 35 = .ok (.aload_n 0, 1) := by decide +kernel
theorem dX7_takeOne_36 : decode cX7_takeOne 36 = .ok (.dup, 1) := by decide +kernel
theorem dX7_takeOne_37 : decode cX7_takeOne 37 = .ok (.getfield 168, 3) := by decide +kernel
theorem dX7_takeOne_40 : decode cX7_takeOne 40 = .ok (.aload_n 0, 1) := by decide +kernel
theorem dX7_takeOne_41 : decode cX7_takeOne 41 = .ok (.getfield 171, 3) := by decide +kernel
theorem dX7_takeOne_44 : decode cX7_takeOne 44 = .ok (.ifCond .eq 7, 3) := by decide +kernel
theorem dX7_takeOne_47 : decode cX7_takeOne 47 = .ok (.iconst 0, 1) := by decide +kernel
theorem dX7_takeOne_48 : decode cX7_takeOne 48 = .ok (.goto 4, 3) := by decide +kernel
theorem dX7_takeOne_51 : decode cX7_takeOne 51 = .ok (.iconst 1, 1) := by decide +kernel
theorem dX7_takeOne_52 : decode cX7_takeOne 52 = .ok (.iadd, 1) := by decide +kernel
theorem dX7_takeOne_53 : decode cX7_takeOne 53 = .ok (.putfield 168, 3) := by decide +kernel
theorem dX7_takeOne_56 : decode cX7_takeOne 56 = .ok (.aload_n 0, 1) := by decide +kernel
theorem dX7_takeOne_57 : decode cX7_takeOne 57 = .ok (.getfield 171, 3) := by decide +kernel
theorem dX7_takeOne_60 : decode cX7_takeOne 60 = .ok (.ifCond .eq 7, 3) := by decide +kernel
theorem dX7_takeOne_63 : decode cX7_takeOne 63 = .ok (.iconst 0, 1) := by decide +kernel
theorem dX7_takeOne_64 : decode cX7_takeOne 64 = .ok (.goto 4, 3) := by decide +kernel
theorem dX7_takeOne_67 : decode cX7_takeOne 67 = .ok (.iload_n 3, 1) := by decide +kernel
theorem dX7_takeOne_68 : decode cX7_takeOne 68 = .ok (.ireturn, 1) := by decide +kernel
theorem dX7_suitBy_0 : decode cX7_suitBy 0 = .ok (.iload_n 0, 1) := by decide +kernel
theorem dX7_suitBy_1 : decode cX7_suitBy 1 = .ok (.bipush 99, 2) := by decide +kernel
theorem dX7_suitBy_3 : decode cX7_suitBy 3 = .ok (.if_icmp .ne 7, 3) := by decide +kernel
theorem dX7_suitBy_6 : decode cX7_suitBy 6 = .ok (.iconst 0, 1) := by decide +kernel
theorem dX7_suitBy_7 : decode cX7_suitBy 7 = .ok (.goto 35, 3) := by decide +kernel
theorem dX7_suitBy_10 : decode cX7_suitBy 10 = .ok (.iload_n 0, 1) := by decide +kernel
theorem dX7_suitBy_11 : decode cX7_suitBy 11 = .ok (.bipush 100, 2) := by decide +kernel
theorem dX7_suitBy_13 : decode cX7_suitBy 13 = .ok (.if_icmp .ne 7, 3) := by decide +kernel
theorem dX7_suitBy_16 : decode cX7_suitBy 16 = .ok (.iconst 1, 1) := by decide +kernel
theorem dX7_suitBy_17 : decode cX7_suitBy 17 = .ok (.goto 25, 3) := by decide +kernel
theorem dX7_suitBy_20 : decode cX7_suitBy 20 = .ok (.iload_n 0, 1) := by decide +kernel
theorem dX7_suitBy_21 : decode cX7_suitBy 21 = .ok (.bipush 104, 2) := by decide +kernel
theorem dX7_suitBy_23 : decode cX7_suitBy 23 = .ok (.if_icmp .ne 7, 3) := by decide +kernel
theorem dX7_suitBy_26 : decode cX7_suitBy 26 = .ok (.iconst 2, 1) := by decide +kernel
theorem dX7_suitBy_27 : decode cX7_suitBy 27 = .ok (.goto 15, 3) := by decide +kernel
theorem dX7_suitBy_30 : decode cX7_suitBy 30 = .ok (.iload_n 0, 1) := by decide +kernel
theorem dX7_suitBy_31 : decode cX7_suitBy 31 = .ok (.bipush 115, 2) := by decide +kernel
theorem dX7_suitBy_33 : decode cX7_suitBy 33 = .ok (.if_icmp .ne 7, 3) := by decide +kernel
theorem dX7_suitBy_36 : decode cX7_suitBy 36 = .ok (.iconst 3, 1) := by decide +kernel
theorem dX7_suitBy_37 : decode cX7_suitBy 37 = .ok (.goto 5, 3) := by decide +kernel
theorem dX7_suitBy_40 : decode cX7_suitBy 40 = .ok (.bipush (-6), 2) := by decide +kernel
theorem dX7_suitBy_42 : decode cX7_suitBy 42 = .ok (.ireturn, 1) := by decide +kernel
theorem dX7_takeNumber_0 : decode cX7_takeNumber 0 = .ok (.aload_n 0, 1) := by decide +kernel
theorem dX7_takeNumber_1 : decode cX7_takeNumber 1 = .ok (.bipush 48, 2) := by decide +kernel
theorem dX7_takeNumber_3 : decode cX7_takeNumber 3 = .ok (.bipush 48, 2) := by decide +kernel
theorem dX7_takeNumber_5 : decode cX7_takeNumber 5 = .ok (.iload_n 1, 1) := by decide +kernel
theorem dX7_takeNumber_6 : decode cX7_takeNumber 6 = .ok (.bipush 9, 2) := by decide +kernel
theorem dX7_takeNumber_8 : decode cX7_takeNumber 8 = .ok (.if_icmp .ge 7, 3) := by decide +kernel
theorem dX7_takeNumber_11 : decode cX7_takeNumber 11 = .ok (.iload_n 1, 1) := by decide +kernel
theorem dX7_takeNumber_12 : decode cX7_takeNumber 12 = .ok (.goto 5, 3) := by decide +kernel
theorem dX7_takeNumber_15 : decode cX7_takeNumber 15 = .ok (.bipush 9, 2) := by decide +kernel
theorem dX7_takeNumber_17 : decode cX7_takeNumber 17 = .ok (.iadd, 1) := by decide +kernel
theorem dX7_takeNumber_18 : decode cX7_takeNumber 18 = .ok (.invokevirtual 177, 3) := by decide +kernel
theorem dX7_takeNumber_21 : decode cX7_takeNumber 21 = .ok (.istore_n 2, 1) := by decide +kernel
theorem dX7_takeNumber_22 : decode cX7_takeNumber 22 = .ok (.aload_n 0, 1) := by decide +kernel
theorem dX7_takeNumber_23 : decode cX7_takeNumber 23 = .ok (.getfield 171, 3) := by decide +kernel
theorem dX7_takeNumber_26 : decode cX7_takeNumber 26 = .ok (.ifCond .ne 63, 3) := by decide +kernel
theorem dX7_takeNumber_29 : decode cX7_takeNumber 29 = .ok (.iload_n 2, 1) := by decide +kernel
theorem dX7_takeNumber_30 : decode cX7_takeNumber 30 = .ok (.ifCond .le 59, 3) := by decide +kernel
theorem dX7_takeNumber_33 : decode cX7_takeNumber 33 = .ok (.aload_n 0, 1) := by decide +kernel
theorem dX7_takeNumber_34 : decode cX7_takeNumber 34 = .ok (.invokevirtual 174, 3) := by decide +kernel
theorem dX7_takeNumber_37 : decode cX7_takeNumber 37 = .ok (.bipush 48, 2) := by decide +kernel
theorem dX7_takeNumber_39 : decode cX7_takeNumber 39 = .ok (.bipush 57, 2) := by decide +kernel
theorem dX7_takeNumber_41 : decode cX7_takeNumber 41 = .ok (.invokestatic 55, 3) := by decide +kernel
theorem dX7_takeNumber_44 : decode cX7_takeNumber 44 = .ok (.ifCond .eq 45, 3) := by decide +kernel
theorem dX7_takeNumber_47 : decode cX7_takeNumber 47 = .ok (.bipush 10, 2) := by decide +kernel
theorem dX7_takeNumber_49 : decode cX7_takeNumber 49 = .ok (.iload_n 2, 1) := by decide +kernel
theorem dX7_takeNumber_50 : decode cX7_takeNumber 50 = .ok (.imul, 1) := by decide +kernel
theorem dX7_takeNumber_51 : decode cX7_takeNumber 51 = .ok (.aload_n 0, 1) := by decide +kernel
theorem dX7_takeNumber_52 : decode cX7_takeNumber 52 = .ok (.invokevirtual 174, 3) := by decide +kernel
theorem dX7_takeNumber_55 : decode cX7_takeNumber 55 = .ok (.iadd, 1) := by decide +kernel
theorem dX7_takeNumber_56 : decode cX7_takeNumber 56 = .ok (.bipush 48, 2) := by decide +kernel
theorem dX7_takeNumber_58 : decode cX7_takeNumber 58 = .ok (.isub, 1) := by decide +kernel
theorem dX7_takeNumber_59 : decode cX7_takeNumber 59 = .ok (.iload_n 1, 1) := by decide +kernel
theorem dX7_takeNumber_60 : decode cX7_takeNumber 60 = .ok (.if_icmp .gt 29, 3) := by decide +kernel
theorem dX7_takeNumber_63 : decode cX7_takeNumber 63 = .ok (.bipush 10, 2) := by decide +kernel
theorem dX7_takeNumber_65 : decode cX7_takeNumber 65 = .ok (.iload_n 2, 1) := by decide +kernel
theorem dX7_takeNumber_66 : decode cX7_takeNumber 66 = .ok (.imul, 1) := by decide +kernel
theorem dX7_takeNumber_67 : decode cX7_takeNumber 67 = .ok (.aload_n 0, 1) := by decide +kernel
theorem dX7_takeNumber_68 : decode cX7_takeNumber 68 = .ok (.invokevirtual 174, 3) := by decide +kernel
theorem dX7_takeNumber_71 : decode cX7_takeNumber 71 = .ok (.iadd, 1) := by decide +kernel
theorem dX7_takeNumber_72 : decode cX7_takeNumber 72 = .ok (.bipush 48, 2) := by decide +kernel
theorem dX7_takeNumber_74 : decode cX7_takeNumber 74 = .ok (.isub, 1) := by decide +kernel
theorem dX7_takeNumber_75 : decode cX7_takeNumber 75 = .ok (.istore_n 2, 1) := by decide +kernel
theorem dX7_takeNumber_76 : decode cX7_takeNumber 76 = .ok (.aload_n 0, 1) := by decide +kernel
theorem dX7_takeNumber_77 : decode cX7_takeNumber 77 = .ok (.dup, 1) := by decide +kernel
theorem dX7_takeNumber_78 : decode cX7_takeNumber 78 = .ok (.getfield 168, 3) := by decide +kernel
theorem dX7_takeNumber_81 : decode cX7_takeNumber 81 = .ok (.iconst 1, 1) := by decide +kernel
theorem dX7_takeNumber_82 : decode cX7_takeNumber 82 = .ok (.iadd, 1) := by decide +kernel
theorem dX7_takeNumber_83 : decode cX7_takeNumber 83 = .ok (.putfield 168, 3) := by decide +kernel
theorem dX7_takeNumber_86 : decode cX7_takeNumber 86 = .ok (.goto (-64), 3) := by decide +kernel
theorem dX7_takeNumber_89 : decode cX7_takeNumber 89 = .ok (.iload_n 2, 1) := by decide +kernel
theorem dX7_takeNumber_90 : decode cX7_takeNumber 90 = .ok (.ireturn, 1) := by decide +kernel
theorem dX7_takeCall_0 : decode cX7_takeCall 0 = .ok (.aload_n 0, 1) := by decide +kernel
theorem dX7_takeCall_1 : decode cX7_takeCall 1 = .ok (.getfield 171, 3) := by decide +kernel
theorem dX7_takeCall_4 : decode cX7_takeCall 4 = .ok (.ifCond .ne 31, 3) := by decide +kernel
theorem dX7_takeCall_7 : decode cX7_takeCall 7 = .ok (.aload_n 0, 1) := by decide +kernel
theorem dX7_takeCall_8 : decode cX7_takeCall 8 = .ok (.invokevirtual 174, 3) := by decide +kernel
theorem dX7_takeCall_11 : decode cX7_takeCall 11 = .ok (.bipush 112, 2) := by decide +kernel
theorem dX7_takeCall_13 : decode cX7_takeCall 13 = .ok (.if_icmp .ne 22, 3) := by decide +kernel
theorem dX7_takeCall_16 : decode cX7_takeCall 16 = .ok (.aload_n 0, 1) := by decide +kernel
theorem dX7_takeCall_17 : decode cX7_takeCall 17 = .ok (.dup, 1) := by decide +kernel
theorem dX7_takeCall_18 : decode cX7_takeCall 18 = .ok (.getfield 168, 3) := by decide +kernel
theorem dX7_takeCall_21 : decode cX7_takeCall 21 = .ok (.iconst 1, 1) := by decide +kernel
theorem dX7_takeCall_22 : decode cX7_takeCall 22 = .ok (.iadd, 1) := by decide +kernel
theorem dX7_takeCall_23 : decode cX7_takeCall 23 = .ok (.putfield 168, 3) := by decide +kernel
theorem dX7_takeCall_26 : decode cX7_takeCall 26 = .ok (.aload_n 0, 1) := by decide +kernel
theorem dX7_takeCall_27 : decode cX7_takeCall 27 = .ok (.getfield 40, 3) := by decide +kernel
theorem dX7_takeCall_30 : decode cX7_takeCall 30 = .ok (.iconst 1, 1) := by decide +kernel
theorem dX7_takeCall_31 : decode cX7_takeCall 31 = .ok (.bipush 25, 2) := by decide +kernel
theorem dX7_takeCall_33 : decode cX7_takeCall 33 = .ok (.iastore, 1) := by decide +kernel
theorem dX7_takeCall_34 : decode cX7_takeCall 34 = .ok (.return_, 1) := by decide +kernel
theorem dX7_takeCall_35 : decode cX7_takeCall 35 = .ok (.iconst 1, 1) := by decide +kernel
theorem dX7_takeCall_36 : decode cX7_takeCall 36 = .ok (.aload_n 0, 1) := by decide +kernel
theorem dX7_takeCall_37 : decode cX7_takeCall 37 = .ok (.bipush 49, 2) := by decide +kernel
theorem dX7_takeCall_39 : decode cX7_takeCall 39 = .ok (.bipush 53, 2) := by decide +kernel
theorem dX7_takeCall_41 : decode cX7_takeCall 41 = .ok (.invokevirtual 177, 3) := by decide +kernel
theorem dX7_takeCall_44 : decode cX7_takeCall 44 = .ok (.iadd, 1) := by decide +kernel
theorem dX7_takeCall_45 : decode cX7_takeCall 45 = .ok (.istore_n 1, 1) := by decide +kernel
theorem dX7_takeCall_46 : decode cX7_takeCall 46 = .ok (.aload_n 0, 1) := by decide +kernel
theorem dX7_takeCall_47 : decode cX7_takeCall 47 = .ok (.invokevirtual 174, 3) := by decide +kernel
theorem dX7_takeCall_50 : decode cX7_takeCall 50 = .ok (.bipush 110, 2) := by decide +kernel
theorem dX7_takeCall_52 : decode cX7_takeCall 52 = .ok (.if_icmp .ne 7, 3) := by decide +kernel
theorem dX7_takeCall_55 : decode cX7_takeCall 55 = .ok (.iconst 4, 1) := by decide +kernel
theorem dX7_takeCall_56 : decode cX7_takeCall 56 = .ok (.goto 10, 3) := by decide +kernel
theorem dX7_takeCall_59 : decode cX7_takeCall 59 = .ok (.aload_n 0, 1) := by decide +kernel
theorem dX7_takeCall_60 : decode cX7_takeCall 60 = .ok (.invokevirtual 174, 3) := by decide +kernel
theorem dX7_takeCall_63 : decode cX7_takeCall 63 = .ok (.invokestatic 180, 3) := by decide +kernel
theorem dX7_takeCall_66 : decode cX7_takeCall 66 = .ok (.istore_n 2, 1) := by decide +kernel
theorem dX7_takeCall_67 : decode cX7_takeCall 67 = .ok (.aload_n 0, 1) := by decide +kernel
theorem dX7_takeCall_68 : decode cX7_takeCall 68 = .ok (.aload_n 0, 1) := by decide +kernel
theorem dX7_takeCall_69 : decode cX7_takeCall 69 = .ok (.getfield 171, 3) := by decide +kernel
theorem dX7_takeCall_72 : decode cX7_takeCall 72 = .ok (.ifCond .ne 7, 3) := by decide +kernel
theorem dX7_takeCall_75 : decode cX7_takeCall 75 = .ok (.iload_n 2, 1) := by decide +kernel
theorem dX7_takeCall_76 : decode cX7_takeCall 76 = .ok (.ifCond .ge 7, 3) := by decide +kernel
theorem dX7_takeCall_79 : decode cX7_takeCall 79 = .ok (.iconst 1, 1) := by decide +kernel
theorem dX7_takeCall_80 : decode cX7_takeCall 80 = .ok (.goto 4, 3) := by decide +kernel
theorem dX7_takeCall_83 : decode cX7_takeCall 83 = .ok (.iconst 0, 1) := by decide +kernel
theorem dX7_takeCall_84 : decode cX7_takeCall 84 = .ok (.putfield 171, 3) := by decide +kernel
theorem dX7_takeCall_87 : decode cX7_takeCall 87 = .ok (.aload_n 0, 1) := by decide +kernel
theorem dX7_takeCall_88 : decode cX7_takeCall 88 = .ok (.dup, 1) := by decide +kernel
theorem dX7_takeCall_89 : decode cX7_takeCall 89 = .ok (.getfield 168, 3) := by decide +kernel
theorem dX7_takeCall_92 : decode cX7_takeCall 92 = .ok (.aload_n 0, 1) := by decide +kernel
theorem dX7_takeCall_93 : decode cX7_takeCall 93 = .ok (.getfield 171, 3) := by decide +kernel
theorem dX7_takeCall_96 : decode cX7_takeCall 96 = .ok (.ifCond .eq 7, 3) := by decide +kernel
theorem dX7_takeCall_99 : decode cX7_takeCall 99 = .ok (.iconst 0, 1) := by decide +kernel
theorem dX7_takeCall_100 : decode cX7_takeCall 100 = .ok (.goto 4, 3) := by decide +kernel
theorem dX7_takeCall_103 : decode cX7_takeCall 103 = .ok (.iconst 1, 1) := by decide +kernel
theorem dX7_takeCall_104 : decode cX7_takeCall 104 = .ok (.iadd, 1) := by decide +kernel
theorem dX7_takeCall_105 : decode cX7_takeCall 105 = .ok (.putfield 168, 3) := by decide +kernel
theorem dX7_takeCall_108 : decode cX7_takeCall 108 = .ok (.aload_n 0, 1) := by decide +kernel
theorem dX7_takeCall_109 : decode cX7_takeCall 109 = .ok (.getfield 40, 3) := by decide +kernel
theorem dX7_takeCall_112 : decode cX7_takeCall 112 = .ok (.iconst 1, 1) := by decide +kernel
theorem dX7_takeCall_113 : decode cX7_takeCall 113 = .ok (.iconst 5, 1) := by decide +kernel
theorem dX7_takeCall_114 : decode cX7_takeCall 114 = .ok (.iload_n 1, 1) := by decide +kernel
theorem dX7_takeCall_115 : decode cX7_takeCall 115 = .ok (.iconst 1, 1) := by decide +kernel
theorem dX7_takeCall_116 : decode cX7_takeCall 116 = .ok (.isub, 1) := by decide +kernel
theorem dX7_takeCall_117 : decode cX7_takeCall 117 = .ok (.imul, 1) := by decide +kernel
theorem dX7_takeCall_118 : decode cX7_takeCall 118 = .ok (.iload_n 2, 1) := by decide +kernel
theorem dX7_takeCall_119 : decode cX7_takeCall 119 = .ok (.iadd, 1) := by decide +kernel
theorem dX7_takeCall_120 : decode cX7_takeCall 120 = .ok (.iastore, 1) := by decide +kernel
theorem dX7_takeCall_121 : decode cX7_takeCall 121 = .ok (.return_, 1) := by decide +kernel
theorem dX7_takeCondition_0 : decode cX7_takeCondition 0 = .ok (.aload_n 0, 1) := by decide +kernel
theorem dX7_takeCondition_1 : decode cX7_takeCondition 1 = .ok (.invokevirtual 174, 3) := by decide +kernel
theorem dX7_takeCondition_4 : decode cX7_takeCondition 4 = .ok (.bipush 43, 2) := by decide +kernel
theorem dX7_takeCondition_6 : decode cX7_takeCondition 6 = .ok (.if_icmp .ne 7, 3) := by decide +kernel
theorem dX7_takeCondition_9 : decode cX7_takeCondition 9 = .ok (.iconst 4, 1) := by decide +kernel
theorem dX7_takeCondition_10 : decode cX7_takeCondition 10 = .ok (.goto 10, 3) := by decide +kernel
theorem dX7_takeCondition_13 : decode cX7_takeCondition 13 = .ok (.aload_n 0, 1) := by decide +kernel
theorem dX7_takeCondition_14 : decode cX7_takeCondition 14 = .ok (.invokevirtual 174, 3) := by decide +kernel
theorem dX7_takeCondition_17 : decode cX7_takeCondition 17 = .ok (.invokestatic 180, 3) := by decide +kernel
theorem dX7_takeCondition_20 : decode cX7_takeCondition 20 = .ok (.istore_n 2, 1) := by decide +kernel
theorem dX7_takeCondition_21 : decode cX7_takeCondition 21 = .ok (.aload_n 0, 1) := by decide +kernel
theorem dX7_takeCondition_22 : decode cX7_takeCondition 22 = .ok (.aload_n 0, 1) := by decide +kernel
theorem dX7_takeCondition_23 : decode cX7_takeCondition 23 = .ok (.getfield 171, 3) := by decide +kernel
theorem dX7_takeCondition_26 : decode cX7_takeCondition 26 = .ok (.ifCond .ne 16, 3) := by decide +kernel
theorem dX7_takeCondition_29 : decode cX7_takeCondition 29 = .ok (.iload_n 2, 1) := by decide +kernel
theorem dX7_takeCondition_30 : decode cX7_takeCondition 30 = .ok (.ifCond .lt 12, 3) := by decide +kernel
theorem dX7_takeCondition_33 : decode cX7_takeCondition 33 = .ok (.iload_n 1, 1) := by decide +kernel
theorem dX7_takeCondition_34 : decode cX7_takeCondition 34 = .ok (.iload_n 2, 1) := by decide +kernel
theorem dX7_takeCondition_35 : decode cX7_takeCondition 35 = .ok (.ishr, 1) := by decide +kernel
theorem dX7_takeCondition_36 : decode cX7_takeCondition 36 = .ok (.iconst 1, 1) := by decide +kernel
theorem dX7_takeCondition_37 : decode cX7_takeCondition 37 = .ok (.iand, 1) := by decide +kernel
theorem dX7_takeCondition_38 : decode cX7_takeCondition 38 = .ok (.iconst 1, 1) := by decide +kernel
theorem dX7_takeCondition_39 : decode cX7_takeCondition 39 = .ok (.if_icmp .ne 7, 3) := by decide +kernel
theorem dX7_takeCondition_42 : decode cX7_takeCondition 42 = .ok (.iconst 1, 1) := by decide +kernel
theorem dX7_takeCondition_43 : decode cX7_takeCondition 43 = .ok (.goto 4, 3) := by decide +kernel
theorem dX7_takeCondition_46 : decode cX7_takeCondition 46 = .ok (.iconst 0, 1) := by decide +kernel
theorem dX7_takeCondition_47 : decode cX7_takeCondition 47 = .ok (.putfield 171, 3) := by decide +kernel
theorem dX7_takeCondition_50 : decode cX7_takeCondition 50 = .ok (.aload_n 0, 1) := by decide +kernel
theorem dX7_takeCondition_51 : decode cX7_takeCondition 51 = .ok (.getfield 171, 3) := by decide +kernel
theorem dX7_takeCondition_54 : decode cX7_takeCondition 54 = .ok (.ifCond .eq 5, 3) := by decide +kernel
theorem dX7_takeCondition_57 : decode cX7_takeCondition 57 = .ok (.iload_n 1, 1) := by decide +kernel
theorem dX7_takeCondition_58 : decode cX7_takeCondition 58 = .ok (.ireturn, 1) := by decide +kernel
theorem dX7_takeCondition_59 : decode cX7_takeCondition 59 = .ok (.aload_n 0, 1) := by decide +kernel
theorem dX7_takeCondition_60 : decode cX7_takeCondition 60 = .ok (.dup, 1) := by decide +kernel
theorem dX7_takeCondition_61 : decode cX7_takeCondition 61 = .ok (.getfield 168, 3) := by decide +kernel
theorem dX7_takeCondition_64 : decode cX7_takeCondition 64 = .ok (.iconst 1, 1) := by decide +kernel
theorem dX7_takeCondition_65 : decode cX7_takeCondition 65 = .ok (.iadd, 1) := by decide +kernel
theorem dX7_takeCondition_66 : decode cX7_takeCondition 66 = .ok (.putfield 168, 3) := by decide +kernel
theorem dX7_takeCondition_69 : decode cX7_takeCondition 69 = .ok (.iload_n 2, 1) := by decide +kernel
theorem dX7_takeCondition_70 : decode cX7_takeCondition 70 = .ok (.iconst 4, 1) := by decide +kernel
theorem dX7_takeCondition_71 : decode cX7_takeCondition 71 = .ok (.if_icmp .ne 8, 3) := by decide +kernel
theorem dX7_takeCondition_74 : decode cX7_takeCondition 74 = .ok (.bipush 20, 2) := by decide +kernel
theorem dX7_takeCondition_76 : decode cX7_takeCondition 76 = .ok (.goto 4, 3) := by decide +kernel
theorem dX7_takeCondition_79 : decode cX7_takeCondition 79 = .ok (.iconst 5, 1) := by decide +kernel
theorem dX7_takeCondition_80 : decode cX7_takeCondition 80 = .ok (.istore_n 3, 1) := by decide +kernel
theorem dX7_takeCondition_81 : decode cX7_takeCondition 81 = .ok (.aload_n 0, 1) := by decide +kernel
theorem dX7_takeCondition_82 : decode cX7_takeCondition 82 = .ok (.iload_n 3, 1) := by decide +kernel
theorem dX7_takeCondition_83 : decode cX7_takeCondition 83 = .ok (.invokevirtual 183, 3) := by decide +kernel
theorem dX7_takeCondition_86 : decode cX7_takeCondition 86 = .ok (.istore 4, 2) := by decide +kernel
theorem dX7_takeCondition_88 : decode cX7_takeCondition 88 = .ok (.aload_n 0, 1) := by decide +kernel
theorem dX7_takeCondition_89 : decode cX7_takeCondition 89 = .ok (.bipush 45, 2) := by decide +kernel
theorem dX7_takeCondition_91 : decode cX7_takeCondition 91 = .ok (.bipush 45, 2) := by decide +kernel
theorem dX7_takeCondition_93 : decode cX7_takeCondition 93 = .ok (.invokevirtual 177, 3) := by decide +kernel
theorem dX7_takeCondition_96 : decode cX7_takeCondition 96 = .ok (.istore 5, 2) := by decide +kernel
theorem dX7_takeCondition_98 : decode cX7_takeCondition 98 = .ok (.aload_n 0, 1) := by decide +kernel
theorem dX7_takeCondition_99 : decode cX7_takeCondition 99 = .ok (.iload_n 3, 1) := by decide +kernel
theorem dX7_takeCondition_100 : decode cX7_takeCondition 100 = .ok (.invokevirtual 183, 3) := by decide +kernel
theorem dX7_takeCondition_103 : decode cX7_takeCondition 103 = .ok (.istore 6, 2) := by decide +kernel
theorem dX7_takeCondition_105 : decode cX7_takeCondition 105 = .ok (.aload_n 0, 1) := by decide +kernel
theorem dX7_takeCondition_106 : decode cX7_takeCondition 106 = .ok (.getfield 171, 3) := by decide +kernel
theorem dX7_takeCondition_109 : decode cX7_takeCondition 109 = .ok (.ifCond .ne 25, 3) := by decide +kernel
theorem dX7_takeCondition_112 : decode cX7_takeCondition 112 = .ok (.iload 6, 2) := by decide +kernel
theorem dX7_takeCondition_114 : decode cX7_takeCondition 114 = .ok (.iload 4, 2) := by decide +kernel
theorem dX7_takeCondition_116 : decode cX7_takeCondition 116 = .ok (.if_icmp .ge 18, 3) := by decide +kernel
theorem dX7_takeCondition_119 : decode cX7_takeCondition 119 = .ok (.aload_n 0, 1) := by decide +kernel
theorem dX7_takeCondition_120 : decode cX7_takeCondition 120 = .ok (.iconst 1, 1) := by decide +kernel
theorem dX7_takeCondition_121 : decode cX7_takeCondition 121 = .ok (.putfield 171, 3) := by decide +kernel
theorem dX7_takeCondition_124 : decode cX7_takeCondition 124 = .ok (.aload_n 0, 1) := by decide +kernel
theorem dX7_takeCondition_125 : decode cX7_takeCondition 125 = .ok (.dup, 1) := by decide +kernel
theorem dX7_takeCondition_126 : decode cX7_takeCondition 126 = .ok (.getfield 168, 3) := by decide +kernel
theorem dX7_takeCondition_129 : decode cX7_takeCondition 129 = .ok (.iconst 1, 1) := by decide +kernel
theorem dX7_takeCondition_130 : decode cX7_takeCondition 130 = .ok (.isub, 1) := by decide +kernel
theorem dX7_takeCondition_131 : decode cX7_takeCondition 131 = .ok (.putfield 168, 3) := by decide +kernel
theorem dX7_takeCondition_134 : decode cX7_takeCondition 134 = .ok (.aload_n 0, 1) := by decide +kernel
theorem dX7_takeCondition_135 : decode cX7_takeCondition 135 = .ok (.getfield 40, 3) := by decide +kernel
theorem dX7_takeCondition_138 : decode cX7_takeCondition 138 = .ok (.iconst 4, 1) := by decide +kernel
theorem dX7_takeCondition_139 : decode cX7_takeCondition 139 = .ok (.iconst 2, 1) := by decide +kernel
theorem dX7_takeCondition_140 : decode cX7_takeCondition 140 = .ok (.iload_n 2, 1) := by decide +kernel
theorem dX7_takeCondition_141 : decode cX7_takeCondition 141 = .ok (.imul, 1) := by decide +kernel
theorem dX7_takeCondition_142 : decode cX7_takeCondition 142 = .ok (.iadd, 1) := by decide +kernel
theorem dX7_takeCondition_143 : decode cX7_takeCondition 143 = .ok (.iload 4, 2) := by decide +kernel
theorem dX7_takeCondition_145 : decode cX7_takeCondition 145 = .ok (.iastore, 1) := by decide +kernel
theorem dX7_takeCondition_146 : decode cX7_takeCondition 146 = .ok (.aload_n 0, 1) := by decide +kernel
theorem dX7_takeCondition_147 : decode cX7_takeCondition 147 = .ok (.getfield 40, 3) := by decide +kernel
theorem dX7_takeCondition_150 : decode cX7_takeCondition 150 = .ok (.iconst 4, 1) := by decide +kernel
theorem dX7_takeCondition_151 : decode cX7_takeCondition 151 = .ok (.iconst 2, 1) := by decide +kernel
theorem dX7_takeCondition_152 : decode cX7_takeCondition 152 = .ok (.iload_n 2, 1) := by decide +kernel
theorem dX7_takeCondition_153 : decode cX7_takeCondition 153 = .ok (.imul, 1) := by decide +kernel
theorem dX7_takeCondition_154 : decode cX7_takeCondition 154 = .ok (.iadd, 1) := by decide +kernel
theorem dX7_takeCondition_155 : decode cX7_takeCondition 155 = .ok (.iconst 1, 1) := by decide +kernel
theorem dX7_takeCondition_156 : decode cX7_takeCondition 156 = .ok (.iadd, 1) := by decide +kernel
theorem dX7_takeCondition_157 : decode cX7_takeCondition 157 = .ok (.iload 6, 2) := by decide +kernel
theorem dX7_takeCondition_159 : decode cX7_takeCondition 159 = .ok (.iload 5, 2) := by decide +kernel
theorem dX7_takeCondition_161 : decode cX7_takeCondition 161 = .ok (.iadd, 1) := by decide +kernel
theorem dX7_takeCondition_162 : decode cX7_takeCondition 162 = .ok (.iastore, 1) := by decide +kernel
theorem dX7_takeCondition_163 : decode cX7_takeCondition 163 = .ok (.iload_n 1, 1) := by decide +kernel
theorem dX7_takeCondition_164 : decode cX7_takeCondition 164 = .ok (.iconst 1, 1) := by decide +kernel
theorem dX7_takeCondition_165 : decode cX7_takeCondition 165 = .ok (.iload_n 2, 1) := by decide +kernel
theorem dX7_takeCondition_166 : decode cX7_takeCondition 166 = .ok (.ishl, 1) := by decide +kernel
theorem dX7_takeCondition_167 : decode cX7_takeCondition 167 = .ok (.ior, 1) := by decide +kernel
theorem dX7_takeCondition_168 : decode cX7_takeCondition 168 = .ok (.ireturn, 1) := by decide +kernel
theorem dX7_fault_0 : decode cX7_fault 0 = .ok (.aload_n 0, 1) := by decide +kernel
theorem dX7_fault_1 : decode cX7_fault 1 = .ok (.iconst 0, 1) := by decide +kernel
theorem dX7_fault_2 : decode cX7_fault 2 = .ok (.putfield 168, 3) := by decide +kernel
theorem dX7_fault_5 : decode cX7_fault 5 = .ok (.aload_n 0, 1) := by decide +kernel
theorem dX7_fault_6 : decode cX7_fault 6 = .ok (.iconst 0, 1) := by decide +kernel
theorem dX7_fault_7 : decode cX7_fault 7 = .ok (.putfield 171, 3) := by decide +kernel
theorem dX7_fault_10 : decode cX7_fault 10 = .ok (.aload_n 0, 1) := by decide +kernel
theorem dX7_fault_11 : decode cX7_fault 11 = .ok (.invokevirtual 84, 3) := by decide +kernel
theorem dX7_fault_14 : decode cX7_fault 14 = .ok (.aload_n 0, 1) := by decide +kernel
theorem dX7_fault_15 : decode cX7_fault 15 = .ok (.getfield 40, 3) := by decide +kernel
theorem dX7_fault_18 : decode cX7_fault 18 = .ok (.iconst 0, 1) := by decide +kernel
theorem dX7_fault_19 : decode cX7_fault 19 = .ok (.aload_n 0, 1) := by decide +kernel
theorem dX7_fault_20 : decode cX7_fault 20 = .ok (.bipush 48, 2) := by decide +kernel
theorem dX7_fault_22 : decode cX7_fault 22 = .ok (.bipush 55, 2) := by decide +kernel
theorem dX7_fault_24 : decode cX7_fault 24 = .ok (.invokevirtual 177, 3) := by decide +kernel
theorem dX7_fault_27 : decode cX7_fault 27 = .ok (.iastore, 1) := by decide +kernel
theorem dX7_fault_28 : decode cX7_fault 28 = .ok (.aload_n 0, 1) := by decide +kernel
theorem dX7_fault_29 : decode cX7_fault 29 = .ok (.bipush 58, 2) := by decide +kernel
theorem dX7_fault_31 : decode cX7_fault 31 = .ok (.bipush 58, 2) := by decide +kernel
theorem dX7_fault_33 : decode cX7_fault 33 = .ok (.invokevirtual 177, 3) := by decide +kernel
theorem dX7_fault_36 : decode cX7_fault 36 = .ok (.istore_n 1, 1) := by decide +kernel
theorem dX7_fault_37 : decode cX7_fault 37 = .ok (.aload_n 0, 1) := by decide +kernel
theorem dX7_fault_38 : decode cX7_fault 38 = .ok (.invokevirtual 186, 3) := by decide +kernel
theorem dX7_fault_41 : decode cX7_fault 41 = .ok (.aload_n 0, 1) := by decide +kernel
theorem dX7_fault_42 : decode cX7_fault 42 = .ok (.bipush 62, 2) := by decide +kernel
theorem dX7_fault_44 : decode cX7_fault 44 = .ok (.bipush 62, 2) := by decide +kernel
theorem dX7_fault_46 : decode cX7_fault 46 = .ok (.invokevirtual 177, 3) := by decide +kernel
theorem dX7_fault_49 : decode cX7_fault 49 = .ok (.istore_n 1, 1) := by decide +kernel
theorem dX7_fault_50 : decode cX7_fault 50 = .ok (.aload_n 0, 1) := by decide +kernel
theorem dX7_fault_51 : decode cX7_fault 51 = .ok (.getfield 40, 3) := by decide +kernel
theorem dX7_fault_54 : decode cX7_fault 54 = .ok (.iconst 2, 1) := by decide +kernel
theorem dX7_fault_55 : decode cX7_fault 55 = .ok (.aload_n 0, 1) := by decide +kernel
theorem dX7_fault_56 : decode cX7_fault 56 = .ok (.bipush 48, 2) := by decide +kernel
theorem dX7_fault_58 : decode cX7_fault 58 = .ok (.bipush 55, 2) := by decide +kernel
theorem dX7_fault_60 : decode cX7_fault 60 = .ok (.invokevirtual 177, 3) := by decide +kernel
theorem dX7_fault_63 : decode cX7_fault 63 = .ok (.iastore, 1) := by decide +kernel
theorem dX7_fault_64 : decode cX7_fault 64 = .ok (.aload_n 0, 1) := by decide +kernel
theorem dX7_fault_65 : decode cX7_fault 65 = .ok (.getfield 40, 3) := by decide +kernel
theorem dX7_fault_68 : decode cX7_fault 68 = .ok (.iconst 3, 1) := by decide +kernel
theorem dX7_fault_69 : decode cX7_fault 69 = .ok (.aload_n 0, 1) := by decide +kernel
theorem dX7_fault_70 : decode cX7_fault 70 = .ok (.getfield 171, 3) := by decide +kernel
theorem dX7_fault_73 : decode cX7_fault 73 = .ok (.ifCond .ne 16, 3) := by decide +kernel
theorem dX7_fault_76 : decode cX7_fault 76 = .ok (.aload_n 0, 1) := by decide +kernel
theorem dX7_fault_77 : decode cX7_fault 77 = .ok (.invokevirtual 174, 3) := by decide +kernel
theorem dX7_fault_80 : decode cX7_fault 80 = .ok (.bipush 33, 2) := by decide +kernel
theorem dX7_fault_82 : decode cX7_fault 82 = .ok (.if_icmp .ne 7, 3) := by decide +kernel
theorem dX7_fault_85 : decode cX7_fault 85 = .ok (.iconst 1, 1) := by decide +kernel
theorem dX7_fault_86 : decode cX7_fault 86 = .ok (.goto 4, 3) := by decide +kernel
theorem dX7_fault_89 : decode cX7_fault 89 = .ok (.iconst 0, 1) := by decide +kernel
theorem dX7_fault_90 : decode cX7_fault 90 = .ok (.iastore, 1) := by decide +kernel
theorem dX7_fault_91 : decode cX7_fault 91 = .ok (.aload_n 0, 1) := by decide +kernel
theorem dX7_fault_92 : decode cX7_fault 92 = .ok (.dup, 1) := by decide +kernel
theorem dX7_fault_93 : decode cX7_fault 93 = .ok (.getfield 168, 3) := by decide +kernel
theorem dX7_fault_96 : decode cX7_fault 96 = .ok (.aload_n 0, 1) := by decide +kernel
theorem dX7_fault_97 : decode cX7_fault 97 = .ok (.getfield 40, 3) := by decide +kernel
theorem dX7_fault_100 : decode cX7_fault 100 = .ok (.iconst 3, 1) := by decide +kernel
theorem dX7_fault_101 : decode cX7_fault 101 = .ok (.iaload, 1) := by decide +kernel
theorem dX7_fault_102 : decode cX7_fault 102 = .ok (.iadd, 1) := by decide +kernel
theorem dX7_fault_103 : decode cX7_fault 103 = .ok (.putfield 168, 3) := by decide +kernel
theorem dX7_fault_106 : decode cX7_fault 106 = .ok (.iload_n 1, 1) := by decide +kernel
theorem dX7_fault_107 : decode cX7_fault 107 = .ok (.istore_n 2, 1) := by decide +kernel
theorem dX7_fault_108 : decode cX7_fault 108 = .ok (.aload_n 0, 1) := by decide +kernel
theorem dX7_fault_109 : decode cX7_fault 109 = .ok (.getfield 171, 3) := by decide +kernel
theorem dX7_fault_112 : decode cX7_fault 112 = .ok (.ifCond .ne 31, 3) := by decide +kernel
theorem dX7_fault_115 : decode cX7_fault 115 = .ok (.aload_n 0, 1) := by decide +kernel
theorem dX7_fault_116 : decode cX7_fault 116 = .ok (.invokevirtual 174, 3) := by decide +kernel
theorem dX7_fault_119 : decode cX7_fault 119 = .ok (.bipush 44, 2) := by decide +kernel
theorem dX7_fault_121 : decode cX7_fault 121 = .ok (.if_icmp .ne 22, 3) := by decide +kernel
theorem dX7_fault_124 : decode cX7_fault 124 = .ok (.aload_n 0, 1) := by decide +kernel
theorem dX7_fault_125 : decode cX7_fault 125 = .ok (.dup, 1) := by decide +kernel
theorem dX7_fault_126 : decode cX7_fault 126 = .ok (.getfield 168, 3) := by decide +kernel
theorem dX7_fault_129 : decode cX7_fault 129 = .ok (.iconst 1, 1) := by decide +kernel
theorem dX7_fault_130 : decode cX7_fault 130 = .ok (.iadd, 1) := by decide +kernel
theorem dX7_fault_131 : decode cX7_fault 131 = .ok (.putfield 168, 3) := by decide +kernel
theorem dX7_fault_134 : decode cX7_fault 134 = .ok (.aload_n 0, 1) := by decide +kernel
theorem dX7_fault_135 : decode cX7_fault 135 = .ok (.iload_n 2, 1) := by decide +kernel
theorem dX7_fault_136 : decode cX7_fault 136 = .ok (.invokevirtual 189, 3) := by decide +kernel
theorem dX7_fault_139 : decode cX7_fault 139 = .ok (.istore_n 2, 1) := by decide +kernel
theorem dX7_fault_140 : decode cX7_fault 140 = .ok (.goto (-32), 3) := by decide +kernel
theorem dX7_fault_143 : decode cX7_fault 143 = .ok (.aload_n 0, 1) := by decide +kernel
theorem dX7_fault_144 : decode cX7_fault 144 = .ok (.getfield 171, 3) := by decide +kernel
theorem dX7_fault_147 : decode cX7_fault 147 = .ok (.ifCond .ne 14, 3) := by decide +kernel
theorem dX7_fault_150 : decode cX7_fault 150 = .ok (.aload_n 0, 1) := by decide +kernel
theorem dX7_fault_151 : decode cX7_fault 151 = .ok (.getfield 168, 3) := by decide +kernel
theorem dX7_fault_154 : decode cX7_fault 154 = .ok (.aload_n 0, 1) := by decide +kernel
theorem dX7_fault_155 : decode cX7_fault 155 = .ok (.getfield 131, 3) := by decide +kernel
theorem dX7_fault_158 : decode cX7_fault 158 = .ok (.if_icmp .ge 10, 3) := by decide +kernel
theorem dX7_fault_161 : decode cX7_fault 161 = .ok (.aload_n 0, 1) := by decide +kernel
theorem dX7_fault_162 : decode cX7_fault 162 = .ok (.getfield 168, 3) := by decide +kernel
theorem dX7_fault_165 : decode cX7_fault 165 = .ok (.goto 5, 3) := by decide +kernel
theorem dX7_fault_168 : decode cX7_fault 168 = .ok (.bipush (-6), 2) := by decide +kernel
theorem dX7_fault_170 : decode cX7_fault 170 = .ok (.ireturn, 1) := by decide +kernel
theorem dX7_load_0 : decode cX7_load 0 = .ok (.aload_n 0, 1) := by decide +kernel
theorem dX7_load_1 : decode cX7_load 1 = .ok (.invokevirtual 192, 3) := by decide +kernel
theorem dX7_load_4 : decode cX7_load 4 = .ok (.bipush (-6), 2) := by decide +kernel
theorem dX7_load_6 : decode cX7_load 6 = .ok (.if_icmp .eq 6, 3) := by decide +kernel
theorem dX7_load_9 : decode cX7_load 9 = .ok (.bipush (-3), 2) := by decide +kernel
theorem dX7_load_11 : decode cX7_load 11 = .ok (.ireturn, 1) := by decide +kernel
theorem dX7_load_12 : decode cX7_load 12 = .ok (.aload_n 0, 1) := by decide +kernel
theorem dX7_load_13 : decode cX7_load 13 = .ok (.invokevirtual 87, 3) := by decide +kernel
theorem dX7_load_16 : decode cX7_load 16 = .ok (.istore_n 1, 1) := by decide +kernel
theorem dX7_load_17 : decode cX7_load 17 = .ok (.aload_n 0, 1) := by decide +kernel
theorem dX7_load_18 : decode cX7_load 18 = .ok (.iload_n 1, 1) := by decide +kernel
theorem dX7_load_19 : decode cX7_load 19 = .ok (.ifCond .ge 10, 3) := by decide +kernel
theorem dX7_load_22 : decode cX7_load 22 = .ok (.aload_n 0, 1) := by decide +kernel
theorem dX7_load_23 : decode cX7_load 23 = .ok (.getfield 131, 3) := by decide +kernel
theorem dX7_load_26 : decode cX7_load 26 = .ok (.goto 4, 3) := by decide +kernel
theorem dX7_load_29 : decode cX7_load 29 = .ok (.iconst 0, 1) := by decide +kernel
theorem dX7_load_30 : decode cX7_load 30 = .ok (.putfield 131, 3) := by decide +kernel
theorem dX7_load_33 : decode cX7_load 33 = .ok (.iload_n 1, 1) := by decide +kernel
theorem dX7_load_34 : decode cX7_load 34 = .ok (.ireturn, 1) := by decide +kernel
theorem dJ5_init_d00df_0 : decode cJ5_init_d00df 0 = .ok (.aload_n 0, 1) := by decide +kernel
theorem dJ5_init_d00df_1 : decode cJ5_init_d00df 1 = .ok (.invokespecial 3, 3) := by decide +kernel
theorem dJ5_init_d00df_4 : decode cJ5_init_d00df 4 = .ok (.getstatic 18, 3) := by decide +kernel
theorem dJ5_init_d00df_7 : decode cJ5_init_d00df 7 = .ok (.ifCond .eq 18, 3) := by decide +kernel
theorem dJ5_init_d00df_10 : decode cJ5_init_d00df 10 = .ok (.aload_n 0, 1) := by decide +kernel
theorem dJ5_init_d00df_11 : decode cJ5_init_d00df 11 = .ok (.iload_n 1, 1) := by decide +kernel
theorem dJ5_init_d00df_12 : decode cJ5_init_d00df 12 = .ok (.newarray .byte, 2) := by decide +kernel
theorem dJ5_init_d00df_14 : decode cJ5_init_d00df 14 = .ok (.putfield 15, 3) := by decide +kernel
theorem dJ5_init_d00df_17 : decode cJ5_init_d00df 17 = .ok (.aload_n 0, 1) := by decide +kernel
theorem dJ5_init_d00df_18 : decode cJ5_init_d00df 18 = .ok (.iconst 0, 1) := by decide +kernel
theorem dJ5_init_d00df_19 : decode cJ5_init_d00df 19 = .ok (.putfield 22, 3) := by decide +kernel
theorem dJ5_init_d00df_22 : decode cJ5_init_d00df 22 = .ok (.goto 16, 3) := by decide +kernel
theorem dJ5_init_d00df_25 : decode cJ5_init_d00df 25 = .ok (.aload_n 0, 1) := by decide +kernel
theorem dJ5_init_d00df_26 : decode cJ5_init_d00df 26 = .ok (.iload_n 1, 1) := by decide +kernel
theorem dJ5_init_d00df_27 : decode cJ5_init_d00df 27 = .ok (.invokestatic 26, 3) := by decide +kernel
theorem dJ5_init_d00df_30 : decode cJ5_init_d00df 30 = .ok (.putfield 15, 3) := by decide +kernel
theorem dJ5_init_d00df_33 : decode cJ5_init_d00df 33 = .ok (.aload_n 0, 1) := by decide +kernel
theorem dJ5_init_d00df_34 : decode cJ5_init_d00df 34 = .ok (.iconst 1, 1) := by decide +kernel
theorem dJ5_init_d00df_35 : decode cJ5_init_d00df 35 = .ok (.putfield 22, 3) := by decide +kernel
theorem dJ5_init_d00df_38 : decode cJ5_init_d00df 38 = .ok (.return_, 1) := by decide +kernel
theorem dJ5_length_8abf5_0 : decode cJ5_length_8abf5 0 = .ok (.aload_n 0, 1) := by decide +kernel
theorem dJ5_length_8abf5_1 : decode cJ5_length_8abf5 1 = .ok (.getfield 79, 3) := by decide +kernel
theorem dJ5_length_8abf5_4 : decode cJ5_length_8abf5 4 = .ok (.ireturn, 1) := by decide +kernel
theorem dJ5_ensureCapacityInternal_d00df_0 : decode cJ5_ensureCapacityInternal_d00df 0 = .ok (.aload_n 0, 1) := by decide +kernel
theorem dJ5_ensureCapacityInternal_d00df_1 : decode cJ5_ensureCapacityInternal_d00df 1 = .ok (.getfield 15, 3) := by decide +kernel
theorem dJ5_ensureCapacityInternal_d00df_4 : decode cJ5_ensureCapacityInternal_d00df 4 = .ok (.arraylength, 1) := by decide +kernel
theorem dJ5_ensureCapacityInternal_d00df_5 : decode cJ5_ensureCapacityInternal_d00df 5 = .ok (.aload_n 0, 1) := by decide +kernel
theorem dJ5_ensureCapacityInternal_d00df_6 : decode cJ5_ensureCapacityInternal_d00df 6 = .ok (.getfield 22, 3) := by decide +kernel
theorem dJ5_ensureCapacityInternal_d00df_9 : decode cJ5_ensureCapacityInternal_d00df 9 = .ok (.ishr, 1) := by decide +kernel
theorem dJ5_ensureCapacityInternal_d00df_10 : decode cJ5_ensureCapacityInternal_d00df 10 = .ok (.istore_n 2, 1) := by decide +kernel
theorem dJ5_ensureCapacityInternal_d00df_11 : decode cJ5_ensureCapacityInternal_d00df 11 = .ok (.iload_n 1, 1) := by decide +kernel
theorem dJ5_ensureCapacityInternal_d00df_12 : decode cJ5_ensureCapacityInternal_d00df 12 = .ok (.iload_n 2, 1) := by decide +kernel
theorem dJ5_ensureCapacityInternal_d00df_13 : decode cJ5_ensureCapacityInternal_d00df 13 = .ok (.isub, 1) := by decide +kernel
theorem dJ5_ensureCapacityInternal_d00df_14 : decode cJ5_ensureCapacityInternal_d00df 14 = .ok (.ifCond .le 24, 3) := by decide +kernel
theorem dJ5_ensureCapacityInternal_d00df_17 : decode cJ5_ensureCapacityInternal_d00df 17 = .ok (.aload_n 0, 1) := by decide +kernel
theorem dJ5_ensureCapacityInternal_d00df_18 : decode cJ5_ensureCapacityInternal_d00df 18 = .ok (.aload_n 0, 1) := by decide +kernel
theorem dJ5_ensureCapacityInternal_d00df_19 : decode cJ5_ensureCapacityInternal_d00df 19 = .ok (.getfield 15, 3) := by decide +kernel
theorem dJ5_ensureCapacityInternal_d00df_22 : decode cJ5_ensureCapacityInternal_d00df 22 = .ok (.aload_n 0, 1) := by decide +kernel
theorem dJ5_ensureCapacityInternal_d00df_23 : decode cJ5_ensureCapacityInternal_d00df 23 = .ok (.iload_n 1, 1) := by decide +kernel
theorem dJ5_ensureCapacityInternal_d00df_24 : decode cJ5_ensureCapacityInternal_d00df 24 = .ok (.invokevirtual 104, 3) := by decide +kernel
theorem dJ5_ensureCapacityInternal_d00df_27 : decode cJ5_ensureCapacityInternal_d00df 27 = .ok (.aload_n 0, 1) := by decide +kernel
theorem dJ5_ensureCapacityInternal_d00df_28 : decode cJ5_ensureCapacityInternal_d00df 28 = .ok (.getfield 22, 3) := by decide +kernel
theorem dJ5_ensureCapacityInternal_d00df_31 : decode cJ5_ensureCapacityInternal_d00df 31 = .ok (.ishl, 1) := by decide +kernel
theorem dJ5_ensureCapacityInternal_d00df_32 : decode cJ5_ensureCapacityInternal_d00df 32 = .ok (.invokestatic 108, 3) := by decide +kernel
theorem dJ5_ensureCapacityInternal_d00df_35 : decode cJ5_ensureCapacityInternal_d00df 35 = .ok (.putfield 15, 3) := by decide +kernel
theorem dJ5_ensureCapacityInternal_d00df_38 : decode cJ5_ensureCapacityInternal_d00df 38 = .ok (.return_, 1) := by decide +kernel
theorem dJ5_newCapacity_0f7a4_0 : decode cJ5_newCapacity_0f7a4 0 = .ok (.aload_n 0, 1) := by decide +kernel
theorem dJ5_newCapacity_0f7a4_1 : decode cJ5_newCapacity_0f7a4 1 = .ok (.getfield 15, 3) := by decide +kernel
theorem dJ5_newCapacity_0f7a4_4 : decode cJ5_newCapacity_0f7a4 4 = .ok (.arraylength, 1) := by decide +kernel
theorem dJ5_newCapacity_0f7a4_5 : decode cJ5_newCapacity_0f7a4 5 = .ok (.istore_n 2, 1) := by decide +kernel
theorem dJ5_newCapacity_0f7a4_6 : decode cJ5_newCapacity_0f7a4 6 = .ok (.iload_n 1, 1) := by decide +kernel
theorem dJ5_newCapacity_0f7a4_7 : decode cJ5_newCapacity_0f7a4 7 = .ok (.aload_n 0, 1) := by decide +kernel
theorem dJ5_newCapacity_0f7a4_8 : decode cJ5_newCapacity_0f7a4 8 = .ok (.getfield 22, 3) := by decide +kernel
theorem dJ5_newCapacity_0f7a4_11 : decode cJ5_newCapacity_0f7a4 11 = .ok (.ishl, 1) := by decide +kernel
theorem dJ5_newCapacity_0f7a4_12 : decode cJ5_newCapacity_0f7a4 12 = .ok (.istore_n 3, 1) := by decide +kernel
theorem dJ5_newCapacity_0f7a4_13 : decode cJ5_newCapacity_0f7a4 13 = .ok (.iload_n 3, 1) := by decide +kernel
theorem dJ5_newCapacity_0f7a4_14 : decode cJ5_newCapacity_0f7a4 14 = .ok (.iload_n 2, 1) := by decide +kernel
theorem dJ5_newCapacity_0f7a4_15 : decode cJ5_newCapacity_0f7a4 15 = .ok (.isub, 1) := by decide +kernel
theorem dJ5_newCapacity_0f7a4_16 : decode cJ5_newCapacity_0f7a4 16 = .ok (.istore 4, 2) := by decide +kernel
theorem dJ5_newCapacity_0f7a4_18 : decode cJ5_newCapacity_0f7a4 18 = .ok (.iload_n 2, 1) := by decide +kernel
theorem dJ5_newCapacity_0f7a4_19 : decode cJ5_newCapacity_0f7a4 19 = .ok (.iload 4, 2) := by decide +kernel
theorem dJ5_newCapacity_0f7a4_21 : decode cJ5_newCapacity_0f7a4 21 = .ok (.iload_n 2, 1) := by decide +kernel
theorem dJ5_newCapacity_0f7a4_22 : decode cJ5_newCapacity_0f7a4 22 = .ok (.iconst 2, 1) := by decide +kernel
theorem dJ5_newCapacity_0f7a4_23 : decode cJ5_newCapacity_0f7a4 23 = .ok (.aload_n 0, 1) := by decide +kernel
theorem dJ5_newCapacity_0f7a4_24 : decode cJ5_newCapacity_0f7a4 24 = .ok (.getfield 22, 3) := by decide +kernel
theorem dJ5_newCapacity_0f7a4_27 : decode cJ5_newCapacity_0f7a4 27 = .ok (.ishl, 1) := by decide +kernel
theorem dJ5_newCapacity_0f7a4_28 : decode cJ5_newCapacity_0f7a4 28 = .ok (.iadd, 1) := by decide +kernel
theorem dJ5_newCapacity_0f7a4_29 : decode cJ5_newCapacity_0f7a4 29 = .ok (.invokestatic 114, 3) := by decide +kernel
theorem dJ5_newCapacity_0f7a4_32 : decode cJ5_newCapacity_0f7a4 32 = .ok (.istore 5, 2) := by decide +kernel
theorem dJ5_newCapacity_0f7a4_34 : decode cJ5_newCapacity_0f7a4 34 = .ok (.iload 5, 2) := by decide +kernel
theorem dJ5_newCapacity_0f7a4_36 : decode cJ5_newCapacity_0f7a4 36 = .ok (.ldc 39, 2) := by decide +kernel
theorem dJ5_newCapacity_0f7a4_38 : decode cJ5_newCapacity_0f7a4 38 = .ok (.if_icmp .ne 13, 3) := by decide +kernel
theorem dJ5_newCapacity_0f7a4_41 : decode cJ5_newCapacity_0f7a4 41 = .ok (.new 120, 3) := by decide +kernel
theorem dJ5_newCapacity_0f7a4_44 : decode cJ5_newCapacity_0f7a4 44 = .ok (.dup, 1) := by decide +kernel
theorem dJ5_newCapacity_0f7a4_45 : decode cJ5_newCapacity_0f7a4 45 = .ok (.ldc 122, 2) := by decide +kernel
theorem dJ5_newCapacity_0f7a4_47 : decode cJ5_newCapacity_0f7a4 47 = .ok (.invokespecial 124, 3) := by decide +kernel
theorem dJ5_newCapacity_0f7a4_50 : decode cJ5_newCapacity_0f7a4 50 = .ok (.athrow, 1) := by decide +kernel
theorem dJ5_newCapacity_0f7a4_51 : decode cJ5_newCapacity_0f7a4 51 = .ok (.iload 5, 2) := by decide +kernel
theorem dJ5_newCapacity_0f7a4_53 : decode cJ5_newCapacity_0f7a4 53 = .ok (.aload_n 0, 1) := by decide +kernel
theorem dJ5_newCapacity_0f7a4_54 : decode cJ5_newCapacity_0f7a4 54 = .ok (.getfield 22, 3) := by decide +kernel
theorem dJ5_newCapacity_0f7a4_57 : decode cJ5_newCapacity_0f7a4 57 = .ok (.ishr, 1) := by decide +kernel
theorem dJ5_newCapacity_0f7a4_58 : decode cJ5_newCapacity_0f7a4 58 = .ok (.ireturn, 1) := by decide +kernel
theorem dJ5_inflate_da8c8_0 : decode cJ5_inflate_da8c8 0 = .ok (.aload_n 0, 1) := by decide +kernel
theorem dJ5_inflate_da8c8_1 : decode cJ5_inflate_da8c8 1 = .ok (.invokevirtual 83, 3) := by decide +kernel
theorem dJ5_inflate_da8c8_4 : decode cJ5_inflate_da8c8 4 = .ok (.ifCond .ne 4, 3) := by decide +kernel
theorem dJ5_inflate_da8c8_7 : decode cJ5_inflate_da8c8 7 = .ok (.return_, 1) := by decide +kernel
theorem dJ5_inflate_da8c8_8 : decode cJ5_inflate_da8c8 8 = .ok (.aload_n 0, 1) := by decide +kernel
theorem dJ5_inflate_da8c8_9 : decode cJ5_inflate_da8c8 9 = .ok (.getfield 15, 3) := by decide +kernel
theorem dJ5_inflate_da8c8_12 : decode cJ5_inflate_da8c8 12 = .ok (.arraylength, 1) := by decide +kernel
theorem dJ5_inflate_da8c8_13 : decode cJ5_inflate_da8c8 13 = .ok (.invokestatic 26, 3) := by decide +kernel
theorem dJ5_inflate_da8c8_16 : decode cJ5_inflate_da8c8 16 = .ok (.astore_n 1, 1) := by decide +kernel
theorem dJ5_inflate_da8c8_17 : decode cJ5_inflate_da8c8 17 = .ok (.aload_n 0, 1) := by decide +kernel
theorem dJ5_inflate_da8c8_18 : decode cJ5_inflate_da8c8 18 = .ok (.getfield 15, 3) := by decide +kernel
theorem dJ5_inflate_da8c8_21 : decode cJ5_inflate_da8c8 21 = .ok (.iconst 0, 1) := by decide +kernel
theorem dJ5_inflate_da8c8_22 : decode cJ5_inflate_da8c8 22 = .ok (.aload_n 1, 1) := by decide +kernel
theorem dJ5_inflate_da8c8_23 : decode cJ5_inflate_da8c8 23 = .ok (.iconst 0, 1) := by decide +kernel
theorem dJ5_inflate_da8c8_24 : decode cJ5_inflate_da8c8 24 = .ok (.aload_n 0, 1) := by decide +kernel
theorem dJ5_inflate_da8c8_25 : decode cJ5_inflate_da8c8 25 = .ok (.getfield 79, 3) := by decide +kernel
theorem dJ5_inflate_da8c8_28 : decode cJ5_inflate_da8c8 28 = .ok (.invokestatic 125, 3) := by decide +kernel
theorem dJ5_inflate_da8c8_31 : decode cJ5_inflate_da8c8 31 = .ok (.aload_n 0, 1) := by decide +kernel
theorem dJ5_inflate_da8c8_32 : decode cJ5_inflate_da8c8 32 = .ok (.aload_n 1, 1) := by decide +kernel
theorem dJ5_inflate_da8c8_33 : decode cJ5_inflate_da8c8 33 = .ok (.putfield 15, 3) := by decide +kernel
theorem dJ5_inflate_da8c8_36 : decode cJ5_inflate_da8c8 36 = .ok (.aload_n 0, 1) := by decide +kernel
theorem dJ5_inflate_da8c8_37 : decode cJ5_inflate_da8c8 37 = .ok (.iconst 1, 1) := by decide +kernel
theorem dJ5_inflate_da8c8_38 : decode cJ5_inflate_da8c8 38 = .ok (.putfield 22, 3) := by decide +kernel
theorem dJ5_inflate_da8c8_41 : decode cJ5_inflate_da8c8 41 = .ok (.return_, 1) := by decide +kernel
theorem dJ5_setLength_d00df_0 : decode cJ5_setLength_d00df 0 = .ok (.iload_n 1, 1) := by decide +kernel
theorem dJ5_setLength_d00df_1 : decode cJ5_setLength_d00df 1 = .ok (.ifCond .ge 12, 3) := by decide +kernel
theorem dJ5_setLength_d00df_4 : decode cJ5_setLength_d00df 4 = .ok (.new 129, 3) := by decide +kernel
theorem dJ5_setLength_d00df_7 : decode cJ5_setLength_d00df 7 = .ok (.dup, 1) := by decide +kernel
theorem dJ5_setLength_d00df_8 : decode cJ5_setLength_d00df 8 = .ok (.iload_n 1, 1) := by decide +kernel
theorem dJ5_setLength_d00df_9 : decode cJ5_setLength_d00df 9 = .ok (.invokespecial 131, 3) := by decide +kernel
theorem dJ5_setLength_d00df_12 : decode cJ5_setLength_d00df 12 = .ok (.athrow, 1) := by decide +kernel
theorem dJ5_setLength_d00df_13 : decode cJ5_setLength_d00df 13 = .ok (.aload_n 0, 1) := by decide +kernel
theorem dJ5_setLength_d00df_14 : decode cJ5_setLength_d00df 14 = .ok (.iload_n 1, 1) := by decide +kernel
theorem dJ5_setLength_d00df_15 : decode cJ5_setLength_d00df 15 = .ok (.invokevirtual 100, 3) := by decide +kernel
theorem dJ5_setLength_d00df_18 : decode cJ5_setLength_d00df 18 = .ok (.aload_n 0, 1) := by decide +kernel
theorem dJ5_setLength_d00df_19 : decode cJ5_setLength_d00df 19 = .ok (.getfield 79, 3) := by decide +kernel
theorem dJ5_setLength_d00df_22 : decode cJ5_setLength_d00df 22 = .ok (.iload_n 1, 1) := by decide +kernel
theorem dJ5_setLength_d00df_23 : decode cJ5_setLength_d00df 23 = .ok (.if_icmp .ge 40, 3) := by decide +kernel
theorem dJ5_setLength_d00df_26 : decode cJ5_setLength_d00df 26 = .ok (.aload_n 0, 1) := by decide +kernel
theorem dJ5_setLength_d00df_27 : decode cJ5_setLength_d00df 27 = .ok (.invokevirtual 83, 3) := by decide +kernel
theorem dJ5_setLength_d00df_30 : decode cJ5_setLength_d00df 30 = .ok (.ifCond .eq 18, 3) := by decide +kernel
theorem dJ5_setLength_d00df_33 : decode cJ5_setLength_d00df 33 = .ok (.aload_n 0, 1) := by decide +kernel
theorem dJ5_setLength_d00df_34 : decode cJ5_setLength_d00df 34 = .ok (.getfield 15, 3) := by decide +kernel
theorem dJ5_setLength_d00df_37 : decode cJ5_setLength_d00df 37 = .ok (.aload_n 0, 1) := by decide +kernel
theorem dJ5_setLength_d00df_38 : decode cJ5_setLength_d00df 38 = .ok (.getfield 79, 3) := by decide +kernel
theorem dJ5_setLength_d00df_41 : decode cJ5_setLength_d00df 41 = .ok (.iload_n 1, 1) := by decide +kernel
theorem dJ5_setLength_d00df_42 : decode cJ5_setLength_d00df 42 = .ok (.invokestatic 133, 3) := by decide +kernel
theorem dJ5_setLength_d00df_45 : decode cJ5_setLength_d00df 45 = .ok (.goto 31, 3) := by decide +kernel
theorem dJ5_setLength_d00df_48 : decode cJ5_setLength_d00df 48 = .ok (.aload_n 0, 1) := by decide +kernel
theorem dJ5_setLength_d00df_49 : decode cJ5_setLength_d00df 49 = .ok (.getfield 15, 3) := by decide +kernel
theorem dJ5_setLength_d00df_52 : decode cJ5_setLength_d00df 52 = .ok (.aload_n 0, 1) := by decide +kernel
theorem dJ5_setLength_d00df_53 : decode cJ5_setLength_d00df 53 = .ok (.getfield 79, 3) := by decide +kernel
theorem dJ5_setLength_d00df_56 : decode cJ5_setLength_d00df 56 = .ok (.iload_n 1, 1) := by decide +kernel
theorem dJ5_setLength_d00df_57 : decode cJ5_setLength_d00df 57 = .ok (.invokestatic 137, 3) := by decide +kernel
theorem dJ5_setLength_d00df_60 : decode cJ5_setLength_d00df 60 = .ok (.goto 16, 3) := by decide +kernel
theorem dJ5_setLength_d00df_63 : decode cJ5_setLength_d00df 63 = .ok (.aload_n 0, 1) := by decide +kernel
theorem dJ5_setLength_d00df_64 : decode cJ5_setLength_d00df 64 = .ok (.getfield 79, 3) := by decide +kernel
theorem dJ5_setLength_d00df_67 : decode cJ5_setLength_d00df 67 = .ok (.iload_n 1, 1) := by decide +kernel
theorem dJ5_setLength_d00df_68 : decode cJ5_setLength_d00df 68 = .ok (.if_icmp .le 8, 3) := by decide +kernel
theorem dJ5_setLength_d00df_71 : decode cJ5_setLength_d00df 71 = .ok (.aload_n 0, 1) := by decide +kernel
theorem dJ5_setLength_d00df_72 : decode cJ5_setLength_d00df 72 = .ok (.iconst 1, 1) := by decide +kernel
theorem dJ5_setLength_d00df_73 : decode cJ5_setLength_d00df 73 = .ok (.putfield 73, 3) := by decide +kernel
theorem dJ5_setLength_d00df_76 : decode cJ5_setLength_d00df 76 = .ok (.aload_n 0, 1) := by decide +kernel
theorem dJ5_setLength_d00df_77 : decode cJ5_setLength_d00df 77 = .ok (.iload_n 1, 1) := by decide +kernel
theorem dJ5_setLength_d00df_78 : decode cJ5_setLength_d00df 78 = .ok (.putfield 79, 3) := by decide +kernel
theorem dJ5_setLength_d00df_81 : decode cJ5_setLength_d00df 81 = .ok (.return_, 1) := by decide +kernel
theorem dJ5_charAt_5068e_0 : decode cJ5_charAt_5068e 0 = .ok (.aload_n 0, 1) := by decide +kernel
theorem dJ5_charAt_5068e_1 : decode cJ5_charAt_5068e 1 = .ok (.getfield 22, 3) := by decide +kernel
theorem dJ5_charAt_5068e_4 : decode cJ5_charAt_5068e 4 = .ok (.istore_n 2, 1) := by decide +kernel
theorem dJ5_charAt_5068e_5 : decode cJ5_charAt_5068e 5 = .ok (.aload_n 0, 1) := by decide +kernel
theorem dJ5_charAt_5068e_6 : decode cJ5_charAt_5068e 6 = .ok (.getfield 15, 3) := by decide +kernel
theorem dJ5_charAt_5068e_9 : decode cJ5_charAt_5068e 9 = .ok (.astore_n 3, 1) := by decide +kernel
theorem dJ5_charAt_5068e_10 : decode cJ5_charAt_5068e 10 = .ok (.aload_n 0, 1) := by decide +kernel
theorem dJ5_charAt_5068e_11 : decode cJ5_charAt_5068e 11 = .ok (.getfield 79, 3) := by decide +kernel
theorem dJ5_charAt_5068e_14 : decode cJ5_charAt_5068e 14 = .ok (.aload_n 3, 1) := by decide +kernel
theorem dJ5_charAt_5068e_15 : decode cJ5_charAt_5068e 15 = .ok (.arraylength, 1) := by decide +kernel
theorem dJ5_charAt_5068e_16 : decode cJ5_charAt_5068e 16 = .ok (.iload_n 2, 1) := by decide +kernel
theorem dJ5_charAt_5068e_17 : decode cJ5_charAt_5068e 17 = .ok (.ishr, 1) := by decide +kernel
theorem dJ5_charAt_5068e_18 : decode cJ5_charAt_5068e 18 = .ok (.invokestatic 138, 3) := by decide +kernel
theorem dJ5_charAt_5068e_21 : decode cJ5_charAt_5068e 21 = .ok (.istore 4, 2) := by decide +kernel
theorem dJ5_charAt_5068e_23 : decode cJ5_charAt_5068e 23 = .ok (.iload_n 1, 1) := by decide +kernel
theorem dJ5_charAt_5068e_24 : decode cJ5_charAt_5068e 24 = .ok (.iload 4, 2) := by decide +kernel
theorem dJ5_charAt_5068e_26 : decode cJ5_charAt_5068e 26 = .ok (.invokestatic 144, 3) := by decide +kernel
theorem dJ5_charAt_5068e_29 : decode cJ5_charAt_5068e 29 = .ok (.iload_n 2, 1) := by decide +kernel
theorem dJ5_charAt_5068e_30 : decode cJ5_charAt_5068e 30 = .ok (.ifCond .ne 12, 3) := by decide +kernel
theorem dJ5_charAt_5068e_33 : decode cJ5_charAt_5068e 33 = .ok (.aload_n 3, 1) := by decide +kernel
theorem dJ5_charAt_5068e_34 : decode cJ5_charAt_5068e 34 = .ok (.iload_n 1, 1) := by decide +kernel
theorem dJ5_charAt_5068e_35 : decode cJ5_charAt_5068e 35 = .ok (.baload, 1) := by decide +kernel
theorem dJ5_charAt_5068e_36 : decode cJ5_charAt_5068e 36 = .ok (.sipush 255, 3) := by decide +kernel
theorem dJ5_charAt_5068e_39 : decode cJ5_charAt_5068e 39 = .ok (.iand, 1) := by decide +kernel
theorem dJ5_charAt_5068e_40 : decode cJ5_charAt_5068e 40 = .ok (.i2c, 1) := by decide +kernel
theorem dJ5_charAt_5068e_41 : decode cJ5_charAt_5068e 41 = .ok (.ireturn, 1) := by decide +kernel
theorem dJ5_charAt_5068e_42 : decode cJ5_charAt_5068e 42 = .ok (.aload_n 3, 1) := by decide +kernel
theorem dJ5_charAt_5068e_43 : decode cJ5_charAt_5068e 43 = .ok (.iload_n 1, 1) := by decide +kernel
theorem dJ5_charAt_5068e_44 : decode cJ5_charAt_5068e 44 = .ok (.invokestatic 148, 3) := by decide +kernel
theorem dJ5_charAt_5068e_47 : decode cJ5_charAt_5068e 47 = .ok (.ireturn, 1) := by decide +kernel
theorem dJ5_append_3fe6f_0 : decode cJ5_append_3fe6f 0 = .ok (.aload_n 0, 1) := by decide +kernel
theorem dJ5_append_3fe6f_1 : decode cJ5_append_3fe6f 1 = .ok (.aload_n 0, 1) := by decide +kernel
theorem dJ5_append_3fe6f_2 : decode cJ5_append_3fe6f 2 = .ok (.getfield 79, 3) := by decide +kernel
theorem dJ5_append_3fe6f_5 : decode cJ5_append_3fe6f 5 = .ok (.iconst 1, 1) := by decide +kernel
theorem dJ5_append_3fe6f_6 : decode cJ5_append_3fe6f 6 = .ok (.iadd, 1) := by decide +kernel
theorem dJ5_append_3fe6f_7 : decode cJ5_append_3fe6f 7 = .ok (.invokevirtual 100, 3) := by decide +kernel
theorem dJ5_append_3fe6f_10 : decode cJ5_append_3fe6f 10 = .ok (.aload_n 0, 1) := by decide +kernel
theorem dJ5_append_3fe6f_11 : decode cJ5_append_3fe6f 11 = .ok (.invokevirtual 83, 3) := by decide +kernel
theorem dJ5_append_3fe6f_14 : decode cJ5_append_3fe6f 14 = .ok (.ifCond .eq 31, 3) := by decide +kernel
theorem dJ5_append_3fe6f_17 : decode cJ5_append_3fe6f 17 = .ok (.iload_n 1, 1) := by decide +kernel
theorem dJ5_append_3fe6f_18 : decode cJ5_append_3fe6f 18 = .ok (.invokestatic 191, 3) := by decide +kernel
theorem dJ5_append_3fe6f_21 : decode cJ5_append_3fe6f 21 = .ok (.ifCond .eq 24, 3) := by decide +kernel
theorem dJ5_append_3fe6f_24 : decode cJ5_append_3fe6f 24 = .ok (.aload_n 0, 1) := by decide +kernel
theorem dJ5_append_3fe6f_25 : decode cJ5_append_3fe6f 25 = .ok (.getfield 15, 3) := by decide +kernel
theorem dJ5_append_3fe6f_28 : decode cJ5_append_3fe6f 28 = .ok (.aload_n 0, 1) := by decide +kernel
theorem dJ5_append_3fe6f_29 : decode cJ5_append_3fe6f 29 = .ok (.dup, 1) := by decide +kernel
theorem dJ5_append_3fe6f_30 : decode cJ5_append_3fe6f 30 = .ok (.getfield 79, 3) := by decide +kernel
theorem dJ5_append_3fe6f_33 : decode cJ5_append_3fe6f 33 = .ok (.dup_x1, 1) := by decide +kernel
theorem dJ5_append_3fe6f_34 : decode cJ5_append_3fe6f 34 = .ok (.iconst 1, 1) := by decide +kernel
theorem dJ5_append_3fe6f_35 : decode cJ5_append_3fe6f 35 = .ok (.iadd, 1) := by decide +kernel
theorem dJ5_append_3fe6f_36 : decode cJ5_append_3fe6f 36 = .ok (.putfield 79, 3) := by decide +kernel
theorem dJ5_append_3fe6f_39 : decode cJ5_append_3fe6f 39 = .ok (.iload_n 1, 1) := by decide +kernel
theorem dJ5_append_3fe6f_40 : decode cJ5_append_3fe6f 40 = .ok (.i2b, 1) := by decide +kernel
theorem dJ5_append_3fe6f_41 : decode cJ5_append_3fe6f 41 = .ok (.bastore, 1) := by decide +kernel
theorem dJ5_append_3fe6f_42 : decode cJ5_append_3fe6f 42 = .ok (.goto 33, 3) := by decide +kernel
theorem dJ5_append_3fe6f_45 : decode cJ5_append_3fe6f 45 = .ok (.aload_n 0, 1) := by decide +kernel
theorem dJ5_append_3fe6f_46 : decode cJ5_append_3fe6f 46 = .ok (.invokevirtual 83, 3) := by decide +kernel
theorem dJ5_append_3fe6f_49 : decode cJ5_append_3fe6f 49 = .ok (.ifCond .eq 7, 3) := by decide +kernel
theorem dJ5_append_3fe6f_52 : decode cJ5_append_3fe6f 52 = .ok (.aload_n 0, 1) := by decide +kernel
theorem dJ5_append_3fe6f_53 : decode cJ5_append_3fe6f 53 = .ok (.invokevirtual 195, 3) := by decide +kernel
theorem dJ5_append_3fe6f_56 : decode cJ5_append_3fe6f 56 = .ok (.aload_n 0, 1) := by decide +kernel
theorem dJ5_append_3fe6f_57 : decode cJ5_append_3fe6f 57 = .ok (.getfield 15, 3) := by decide +kernel
theorem dJ5_append_3fe6f_60 : decode cJ5_append_3fe6f 60 = .ok (.aload_n 0, 1) := by decide +kernel
theorem dJ5_append_3fe6f_61 : decode cJ5_append_3fe6f 61 = .ok (.dup, 1) := by decide +kernel
theorem dJ5_append_3fe6f_62 : decode cJ5_append_3fe6f 62 = .ok (.getfield 79, 3) := by decide +kernel
theorem dJ5_append_3fe6f_65 : decode cJ5_append_3fe6f 65 = .ok (.dup_x1, 1) := by decide +kernel
theorem dJ5_append_3fe6f_66 : decode cJ5_append_3fe6f 66 = .ok (.iconst 1, 1) := by decide +kernel
theorem dJ5_append_3fe6f_67 : decode cJ5_append_3fe6f 67 = .ok (.iadd, 1) := by decide +kernel
theorem dJ5_append_3fe6f_68 : decode cJ5_append_3fe6f 68 = .ok (.putfield 79, 3) := by decide +kernel
theorem dJ5_append_3fe6f_71 : decode cJ5_append_3fe6f 71 = .ok (.iload_n 1, 1) := by decide +kernel
theorem dJ5_append_3fe6f_72 : decode cJ5_append_3fe6f 72 = .ok (.invokestatic 197, 3) := by decide +kernel
theorem dJ5_append_3fe6f_75 : decode cJ5_append_3fe6f 75 = .ok (.aload_n 0, 1) := by decide +kernel
theorem dJ5_append_3fe6f_76 : decode cJ5_append_3fe6f 76 = .ok (.areturn, 1) := by decide +kernel
theorem dJ5_isLatin1_aae02_0 : decode cJ5_isLatin1_aae02 0 = .ok (.getstatic 18, 3) := by decide +kernel
theorem dJ5_isLatin1_aae02_3 : decode cJ5_isLatin1_aae02 3 = .ok (.ifCond .eq 14, 3) := by decide +kernel
theorem dJ5_isLatin1_aae02_6 : decode cJ5_isLatin1_aae02 6 = .ok (.aload_n 0, 1) := by decide +kernel
theorem dJ5_isLatin1_aae02_7 : decode cJ5_isLatin1_aae02 7 = .ok (.getfield 22, 3) := by decide +kernel
theorem dJ5_isLatin1_aae02_10 : decode cJ5_isLatin1_aae02 10 = .ok (.ifCond .ne 7, 3) := by decide +kernel
theorem dJ5_isLatin1_aae02_13 : decode cJ5_isLatin1_aae02 13 = .ok (.iconst 1, 1) := by decide +kernel
theorem dJ5_isLatin1_aae02_14 : decode cJ5_isLatin1_aae02 14 = .ok (.goto 4, 3) := by decide +kernel
theorem dJ5_isLatin1_aae02_17 : decode cJ5_isLatin1_aae02 17 = .ok (.iconst 0, 1) := by decide +kernel
theorem dJ5_isLatin1_aae02_18 : decode cJ5_isLatin1_aae02 18 = .ok (.ireturn, 1) := by decide +kernel
theorem dJ6_numberOfTrailingZeros_0f7a4_0 : decode cJ6_numberOfTrailingZeros_0f7a4 0 = .ok (.iload_n 0, 1) := by decide +kernel
theorem dJ6_numberOfTrailingZeros_0f7a4_1 : decode cJ6_numberOfTrailingZeros_0f7a4 1 = .ok (.iconst (-1), 1) := by decide +kernel
theorem dJ6_numberOfTrailingZeros_0f7a4_2 : decode cJ6_numberOfTrailingZeros_0f7a4 2 = .ok (.ixor, 1) := by decide +kernel
theorem dJ6_numberOfTrailingZeros_0f7a4_3 : decode cJ6_numberOfTrailingZeros_0f7a4 3 = .ok (.iload_n 0, 1) := by decide +kernel
theorem dJ6_numberOfTrailingZeros_0f7a4_4 : decode cJ6_numberOfTrailingZeros_0f7a4 4 = .ok (.iconst 1, 1) := by decide +kernel
theorem dJ6_numberOfTrailingZeros_0f7a4_5 : decode cJ6_numberOfTrailingZeros_0f7a4 5 = .ok (.isub, 1) := by decide +kernel
theorem dJ6_numberOfTrailingZeros_0f7a4_6 : decode cJ6_numberOfTrailingZeros_0f7a4 6 = .ok (.iand, 1) := by decide +kernel
theorem dJ6_numberOfTrailingZeros_0f7a4_7 : decode cJ6_numberOfTrailingZeros_0f7a4 7 = .ok (.istore_n 0, 1) := by decide +kernel
theorem dJ6_numberOfTrailingZeros_0f7a4_8 : decode cJ6_numberOfTrailingZeros_0f7a4 8 = .ok (.iload_n 0, 1) := by decide +kernel
theorem dJ6_numberOfTrailingZeros_0f7a4_9 : decode cJ6_numberOfTrailingZeros_0f7a4 9 = .ok (.ifCond .gt 8, 3) := by decide +kernel
theorem dJ6_numberOfTrailingZeros_0f7a4_12 : decode cJ6_numberOfTrailingZeros_0f7a4 12 = .ok (.iload_n 0, 1) := by decide +kernel
theorem dJ6_numberOfTrailingZeros_0f7a4_13 : decode cJ6_numberOfTrailingZeros_0f7a4 13 = .ok (.bipush 32, 2) := by decide +kernel
theorem dJ6_numberOfTrailingZeros_0f7a4_15 : decode cJ6_numberOfTrailingZeros_0f7a4 15 = .ok (.iand, 1) := by decide +kernel
theorem dJ6_numberOfTrailingZeros_0f7a4_16 : decode cJ6_numberOfTrailingZeros_0f7a4 16 = .ok (.ireturn, 1) := by decide +kernel
theorem dJ6_numberOfTrailingZeros_0f7a4_17 : decode cJ6_numberOfTrailingZeros_0f7a4 17 = .ok (.iconst 1, 1) := by decide +kernel
theorem dJ6_numberOfTrailingZeros_0f7a4_18 : decode cJ6_numberOfTrailingZeros_0f7a4 18 = .ok (.istore_n 1, 1) := by decide +kernel
theorem dJ6_numberOfTrailingZeros_0f7a4_19 : decode cJ6_numberOfTrailingZeros_0f7a4 19 = .ok (.iload_n 0, 1) := by decide +kernel
theorem dJ6_numberOfTrailingZeros_0f7a4_20 : decode cJ6_numberOfTrailingZeros_0f7a4 20 = .ok (.ldc_w 264, 3) := by decide +kernel
theorem dJ6_numberOfTrailingZeros_0f7a4_23 : decode cJ6_numberOfTrailingZeros_0f7a4 23 = .ok (.if_icmp .le 11, 3) := by decide +kernel
theorem dJ6_numberOfTrailingZeros_0f7a4_26 : decode cJ6_numberOfTrailingZeros_0f7a4 26 = .ok (.iinc 1 16, 3) := by decide +kernel
theorem dJ6_numberOfTrailingZeros_0f7a4_29 : decode cJ6_numberOfTrailingZeros_0f7a4 29 = .ok (.iload_n 0, 1) := by decide +kernel
theorem dJ6_numberOfTrailingZeros_0f7a4_30 : decode cJ6_numberOfTrailingZeros_0f7a4 30 = .ok (.bipush 16, 2) := by decide +kernel
theorem dJ6_numberOfTrailingZeros_0f7a4_32 : decode cJ6_numberOfTrailingZeros_0f7a4 32 = .ok (.iushr, 1) := by decide +kernel
theorem dJ6_numberOfTrailingZeros_0f7a4_33 : decode cJ6_numberOfTrailingZeros_0f7a4 33 = .ok (.istore_n 0, 1) := by decide +kernel
theorem dJ6_numberOfTrailingZeros_0f7a4_34 : decode cJ6_numberOfTrailingZeros_0f7a4 34 = .ok (.iload_n 0, 1) := by decide +kernel
theorem dJ6_numberOfTrailingZeros_0f7a4_35 : decode cJ6_numberOfTrailingZeros_0f7a4 35 = .ok (.sipush 256, 3) := by decide +kernel
theorem dJ6_numberOfTrailingZeros_0f7a4_38 : decode cJ6_numberOfTrailingZeros_0f7a4 38 = .ok (.if_icmp .le 11, 3) := by decide +kernel
theorem dJ6_numberOfTrailingZeros_0f7a4_41 : decode cJ6_numberOfTrailingZeros_0f7a4 41 = .ok (.iinc 1 8, 3) := by decide +kernel
theorem dJ6_numberOfTrailingZeros_0f7a4_44 : decode cJ6_numberOfTrailingZeros_0f7a4 44 = .ok (.iload_n 0, 1) := by decide +kernel
theorem dJ6_numberOfTrailingZeros_0f7a4_45 : decode cJ6_numberOfTrailingZeros_0f7a4 45 = .ok (.bipush 8, 2) := by decide +kernel
theorem dJ6_numberOfTrailingZeros_0f7a4_47 : decode cJ6_numberOfTrailingZeros_0f7a4 47 = .ok (.iushr, 1) := by decide +kernel
theorem dJ6_numberOfTrailingZeros_0f7a4_48 : decode cJ6_numberOfTrailingZeros_0f7a4 48 = .ok (.istore_n 0, 1) := by decide +kernel
theorem dJ6_numberOfTrailingZeros_0f7a4_49 : decode cJ6_numberOfTrailingZeros_0f7a4 49 = .ok (.iload_n 0, 1) := by decide +kernel
theorem dJ6_numberOfTrailingZeros_0f7a4_50 : decode cJ6_numberOfTrailingZeros_0f7a4 50 = .ok (.bipush 16, 2) := by decide +kernel
theorem dJ6_numberOfTrailingZeros_0f7a4_52 : decode cJ6_numberOfTrailingZeros_0f7a4 52 = .ok (.if_icmp .le 10, 3) := by decide +kernel
theorem dJ6_numberOfTrailingZeros_0f7a4_55 : decode cJ6_numberOfTrailingZeros_0f7a4 55 = .ok (.iinc 1 4, 3) := by decide +kernel
theorem dJ6_numberOfTrailingZeros_0f7a4_58 : decode cJ6_numberOfTrailingZeros_0f7a4 58 = .ok (.iload_n 0, 1) := by decide +kernel
theorem dJ6_numberOfTrailingZeros_0f7a4_59 : decode cJ6_numberOfTrailingZeros_0f7a4 59 = .ok (.iconst 4, 1) := by decide +kernel
theorem dJ6_numberOfTrailingZeros_0f7a4_60 : decode cJ6_numberOfTrailingZeros_0f7a4 60 = .ok (.iushr, 1) := by decide +kernel
theorem dJ6_numberOfTrailingZeros_0f7a4_61 : decode cJ6_numberOfTrailingZeros_0f7a4 61 = .ok (.istore_n 0, 1) := by decide +kernel
theorem dJ6_numberOfTrailingZeros_0f7a4_62 : decode cJ6_numberOfTrailingZeros_0f7a4 62 = .ok (.iload_n 0, 1) := by decide +kernel
theorem dJ6_numberOfTrailingZeros_0f7a4_63 : decode cJ6_numberOfTrailingZeros_0f7a4 63 = .ok (.iconst 4, 1) := by decide +kernel
theorem dJ6_numberOfTrailingZeros_0f7a4_64 : decode cJ6_numberOfTrailingZeros_0f7a4 64 = .ok (.if_icmp .le 10, 3) := by decide +kernel
theorem dJ6_numberOfTrailingZeros_0f7a4_67 : decode cJ6_numberOfTrailingZeros_0f7a4 67 = .ok (.iinc 1 2, 3) := by decide +kernel
theorem dJ6_numberOfTrailingZeros_0f7a4_70 : decode cJ6_numberOfTrailingZeros_0f7a4 70 = .ok (.iload_n 0, 1) := by decide +kernel
theorem dJ6_numberOfTrailingZeros_0f7a4_71 : decode cJ6_numberOfTrailingZeros_0f7a4 71 = .ok (.iconst 2, 1) := by decide +kernel
theorem dJ6_numberOfTrailingZeros_0f7a4_72 : decode cJ6_numberOfTrailingZeros_0f7a4 72 = .ok (.iushr, 1) := by decide +kernel
theorem dJ6_numberOfTrailingZeros_0f7a4_73 : decode cJ6_numberOfTrailingZeros_0f7a4 73 = .ok (.istore_n 0, 1) := by decide +kernel
theorem dJ6_numberOfTrailingZeros_0f7a4_74 : decode cJ6_numberOfTrailingZeros_0f7a4 74 = .ok (.iload_n 1, 1) := by decide +kernel
theorem dJ6_numberOfTrailingZeros_0f7a4_75 : decode cJ6_numberOfTrailingZeros_0f7a4 75 = .ok (.iload_n 0, 1) := by decide +kernel
theorem dJ6_numberOfTrailingZeros_0f7a4_76 : decode cJ6_numberOfTrailingZeros_0f7a4 76 = .ok (.iconst 1, 1) := by decide +kernel
theorem dJ6_numberOfTrailingZeros_0f7a4_77 : decode cJ6_numberOfTrailingZeros_0f7a4 77 = .ok (.iushr, 1) := by decide +kernel
theorem dJ6_numberOfTrailingZeros_0f7a4_78 : decode cJ6_numberOfTrailingZeros_0f7a4 78 = .ok (.iadd, 1) := by decide +kernel
theorem dJ6_numberOfTrailingZeros_0f7a4_79 : decode cJ6_numberOfTrailingZeros_0f7a4 79 = .ok (.ireturn, 1) := by decide +kernel
theorem dJ6_bitCount_0f7a4_0 : decode cJ6_bitCount_0f7a4 0 = .ok (.iload_n 0, 1) := by decide +kernel
theorem dJ6_bitCount_0f7a4_1 : decode cJ6_bitCount_0f7a4 1 = .ok (.iload_n 0, 1) := by decide +kernel
theorem dJ6_bitCount_0f7a4_2 : decode cJ6_bitCount_0f7a4 2 = .ok (.iconst 1, 1) := by decide +kernel
theorem dJ6_bitCount_0f7a4_3 : decode cJ6_bitCount_0f7a4 3 = .ok (.iushr, 1) := by decide +kernel
theorem dJ6_bitCount_0f7a4_4 : decode cJ6_bitCount_0f7a4 4 = .ok (.ldc_w 265, 3) := by decide +kernel
theorem dJ6_bitCount_0f7a4_7 : decode cJ6_bitCount_0f7a4 7 = .ok (.iand, 1) := by decide +kernel
theorem dJ6_bitCount_0f7a4_8 : decode cJ6_bitCount_0f7a4 8 = .ok (.isub, 1) := by decide +kernel
theorem dJ6_bitCount_0f7a4_9 : decode cJ6_bitCount_0f7a4 9 = .ok (.istore_n 0, 1) := by decide +kernel
theorem dJ6_bitCount_0f7a4_10 : decode cJ6_bitCount_0f7a4 10 = .ok (.iload_n 0, 1) := by decide +kernel
theorem dJ6_bitCount_0f7a4_11 : decode cJ6_bitCount_0f7a4 11 = .ok (.ldc_w 266, 3) := by decide +kernel
theorem dJ6_bitCount_0f7a4_14 : decode cJ6_bitCount_0f7a4 14 = .ok (.iand, 1) := by decide +kernel
theorem dJ6_bitCount_0f7a4_15 : decode cJ6_bitCount_0f7a4 15 = .ok (.iload_n 0, 1) := by decide +kernel
theorem dJ6_bitCount_0f7a4_16 : decode cJ6_bitCount_0f7a4 16 = .ok (.iconst 2, 1) := by decide +kernel
theorem dJ6_bitCount_0f7a4_17 : decode cJ6_bitCount_0f7a4 17 = .ok (.iushr, 1) := by decide +kernel
theorem dJ6_bitCount_0f7a4_18 : decode cJ6_bitCount_0f7a4 18 = .ok (.ldc_w 266, 3) := by decide +kernel
theorem dJ6_bitCount_0f7a4_21 : decode cJ6_bitCount_0f7a4 21 = .ok (.iand, 1) := by decide +kernel
theorem dJ6_bitCount_0f7a4_22 : decode cJ6_bitCount_0f7a4 22 = .ok (.iadd, 1) := by decide +kernel
theorem dJ6_bitCount_0f7a4_23 : decode cJ6_bitCount_0f7a4 23 = .ok (.istore_n 0, 1) := by decide +kernel
theorem dJ6_bitCount_0f7a4_24 : decode cJ6_bitCount_0f7a4 24 = .ok (.iload_n 0, 1) := by decide +kernel
theorem dJ6_bitCount_0f7a4_25 : decode cJ6_bitCount_0f7a4 25 = .ok (.iload_n 0, 1) := by decide +kernel
theorem dJ6_bitCount_0f7a4_26 : decode cJ6_bitCount_0f7a4 26 = .ok (.iconst 4, 1) := by decide +kernel
theorem dJ6_bitCount_0f7a4_27 : decode cJ6_bitCount_0f7a4 27 = .ok (.iushr, 1) := by decide +kernel
theorem dJ6_bitCount_0f7a4_28 : decode cJ6_bitCount_0f7a4 28 = .ok (.iadd, 1) := by decide +kernel
theorem dJ6_bitCount_0f7a4_29 : decode cJ6_bitCount_0f7a4 29 = .ok (.ldc_w 267, 3) := by decide +kernel
theorem dJ6_bitCount_0f7a4_32 : decode cJ6_bitCount_0f7a4 32 = .ok (.iand, 1) := by decide +kernel
theorem dJ6_bitCount_0f7a4_33 : decode cJ6_bitCount_0f7a4 33 = .ok (.istore_n 0, 1) := by decide +kernel
theorem dJ6_bitCount_0f7a4_34 : decode cJ6_bitCount_0f7a4 34 = .ok (.iload_n 0, 1) := by decide +kernel
theorem dJ6_bitCount_0f7a4_35 : decode cJ6_bitCount_0f7a4 35 = .ok (.iload_n 0, 1) := by decide +kernel
theorem dJ6_bitCount_0f7a4_36 : decode cJ6_bitCount_0f7a4 36 = .ok (.bipush 8, 2) := by decide +kernel
theorem dJ6_bitCount_0f7a4_38 : decode cJ6_bitCount_0f7a4 38 = .ok (.iushr, 1) := by decide +kernel
theorem dJ6_bitCount_0f7a4_39 : decode cJ6_bitCount_0f7a4 39 = .ok (.iadd, 1) := by decide +kernel
theorem dJ6_bitCount_0f7a4_40 : decode cJ6_bitCount_0f7a4 40 = .ok (.istore_n 0, 1) := by decide +kernel
theorem dJ6_bitCount_0f7a4_41 : decode cJ6_bitCount_0f7a4 41 = .ok (.iload_n 0, 1) := by decide +kernel
theorem dJ6_bitCount_0f7a4_42 : decode cJ6_bitCount_0f7a4 42 = .ok (.iload_n 0, 1) := by decide +kernel
theorem dJ6_bitCount_0f7a4_43 : decode cJ6_bitCount_0f7a4 43 = .ok (.bipush 16, 2) := by decide +kernel
theorem dJ6_bitCount_0f7a4_45 : decode cJ6_bitCount_0f7a4 45 = .ok (.iushr, 1) := by decide +kernel
theorem dJ6_bitCount_0f7a4_46 : decode cJ6_bitCount_0f7a4 46 = .ok (.iadd, 1) := by decide +kernel
theorem dJ6_bitCount_0f7a4_47 : decode cJ6_bitCount_0f7a4 47 = .ok (.istore_n 0, 1) := by decide +kernel
theorem dJ6_bitCount_0f7a4_48 : decode cJ6_bitCount_0f7a4 48 = .ok (.iload_n 0, 1) := by decide +kernel
theorem dJ6_bitCount_0f7a4_49 : decode cJ6_bitCount_0f7a4 49 = .ok (.bipush 63, 2) := by decide +kernel
theorem dJ6_bitCount_0f7a4_51 : decode cJ6_bitCount_0f7a4 51 = .ok (.iand, 1) := by decide +kernel
theorem dJ6_bitCount_0f7a4_52 : decode cJ6_bitCount_0f7a4 52 = .ok (.ireturn, 1) := by decide +kernel
theorem dJ9_max_7cf53_0 : decode cJ9_max_7cf53 0 = .ok (.iload_n 0, 1) := by decide +kernel
theorem dJ9_max_7cf53_1 : decode cJ9_max_7cf53 1 = .ok (.iload_n 1, 1) := by decide +kernel
theorem dJ9_max_7cf53_2 : decode cJ9_max_7cf53 2 = .ok (.if_icmp .lt 7, 3) := by decide +kernel
theorem dJ9_max_7cf53_5 : decode cJ9_max_7cf53 5 = .ok (.iload_n 0, 1) := by decide +kernel
theorem dJ9_max_7cf53_6 : decode cJ9_max_7cf53 6 = .ok (.goto 4, 3) := by decide +kernel
theorem dJ9_max_7cf53_9 : decode cJ9_max_7cf53 9 = .ok (.iload_n 1, 1) := by decide +kernel
theorem dJ9_max_7cf53_10 : decode cJ9_max_7cf53 10 = .ok (.ireturn, 1) := by decide +kernel
theorem dJ9_min_7cf53_0 : decode cJ9_min_7cf53 0 = .ok (.iload_n 0, 1) := by decide +kernel
theorem dJ9_min_7cf53_1 : decode cJ9_min_7cf53 1 = .ok (.iload_n 1, 1) := by decide +kernel
theorem dJ9_min_7cf53_2 : decode cJ9_min_7cf53 2 = .ok (.if_icmp .gt 7, 3) := by decide +kernel
theorem dJ9_min_7cf53_5 : decode cJ9_min_7cf53 5 = .ok (.iload_n 0, 1) := by decide +kernel
theorem dJ9_min_7cf53_6 : decode cJ9_min_7cf53 6 = .ok (.goto 4, 3) := by decide +kernel
theorem dJ9_min_7cf53_9 : decode cJ9_min_7cf53 9 = .ok (.iload_n 1, 1) := by decide +kernel
theorem dJ9_min_7cf53_10 : decode cJ9_min_7cf53 10 = .ok (.ireturn, 1) := by decide +kernel
theorem dJ0_checkIndex_df160_0 : decode cJ0_checkIndex_df160 0 = .ok (.iload_n 0, 1) := by decide +kernel
theorem dJ0_checkIndex_df160_1 : decode cJ0_checkIndex_df160 1 = .ok (.iload_n 1, 1) := by decide +kernel
theorem dJ0_checkIndex_df160_2 : decode cJ0_checkIndex_df160 2 = .ok (.getstatic 1053, 3) := by decide +kernel
theorem dJ0_checkIndex_df160_5 : decode cJ0_checkIndex_df160 5 = .ok (.invokestatic 1059, 3) := by decide +kernel
theorem dJ0_checkIndex_df160_8 : decode cJ0_checkIndex_df160 8 = .ok (.pop, 1) := by decide +kernel
theorem dJ0_checkIndex_df160_9 : decode cJ0_checkIndex_df160 9 = .ok (.return_, 1) := by decide +kernel
theorem dJ0_checkBoundsOffCount_cabcc_0 : decode cJ0_checkBoundsOffCount_cabcc 0 = .ok (.iload_n 0, 1) := by decide +kernel
theorem dJ0_checkBoundsOffCount_cabcc_1 : decode cJ0_checkBoundsOffCount_cabcc 1 = .ok (.iload_n 1, 1) := by decide +kernel
theorem dJ0_checkBoundsOffCount_cabcc_2 : decode cJ0_checkBoundsOffCount_cabcc 2 = .ok (.iload_n 2, 1) := by decide +kernel
theorem dJ0_checkBoundsOffCount_cabcc_3 : decode cJ0_checkBoundsOffCount_cabcc 3 = .ok (.getstatic 1053, 3) := by decide +kernel
theorem dJ0_checkBoundsOffCount_cabcc_6 : decode cJ0_checkBoundsOffCount_cabcc 6 = .ok (.invokestatic 1065, 3) := by decide +kernel
theorem dJ0_checkBoundsOffCount_cabcc_9 : decode cJ0_checkBoundsOffCount_cabcc 9 = .ok (.ireturn, 1) := by decide +kernel
theorem dJ4_init_da8c8_0 : decode cJ4_init_da8c8 0 = .ok (.aload_n 0, 1) := by decide +kernel
theorem dJ4_init_da8c8_1 : decode cJ4_init_da8c8 1 = .ok (.bipush 16, 2) := by decide +kernel
theorem dJ4_init_da8c8_3 : decode cJ4_init_da8c8 3 = .ok (.invokespecial 1, 3) := by decide +kernel
theorem dJ4_init_da8c8_6 : decode cJ4_init_da8c8 6 = .ok (.return_, 1) := by decide +kernel
theorem dJ4_append_cf468_0 : decode cJ4_append_cf468 0 = .ok (.aload_n 0, 1) := by decide +kernel
theorem dJ4_append_cf468_1 : decode cJ4_append_cf468 1 = .ok (.iload_n 1, 1) := by decide +kernel
theorem dJ4_append_cf468_2 : decode cJ4_append_cf468 2 = .ok (.invokespecial 50, 3) := by decide +kernel
theorem dJ4_append_cf468_5 : decode cJ4_append_cf468 5 = .ok (.pop, 1) := by decide +kernel
theorem dJ4_append_cf468_6 : decode cJ4_append_cf468 6 = .ok (.aload_n 0, 1) := by decide +kernel
theorem dJ4_append_cf468_7 : decode cJ4_append_cf468 7 = .ok (.areturn, 1) := by decide +kernel
theorem dJ4_charAt_5068e_0 : decode cJ4_charAt_5068e 0 = .ok (.aload_n 0, 1) := by decide +kernel
theorem dJ4_charAt_5068e_1 : decode cJ4_charAt_5068e 1 = .ok (.iload_n 1, 1) := by decide +kernel
theorem dJ4_charAt_5068e_2 : decode cJ4_charAt_5068e 2 = .ok (.invokespecial 329, 3) := by decide +kernel
theorem dJ4_charAt_5068e_5 : decode cJ4_charAt_5068e 5 = .ok (.ireturn, 1) := by decide +kernel
theorem dJ4_setLength_d00df_0 : decode cJ4_setLength_d00df 0 = .ok (.aload_n 0, 1) := by decide +kernel
theorem dJ4_setLength_d00df_1 : decode cJ4_setLength_d00df 1 = .ok (.iload_n 1, 1) := by decide +kernel
theorem dJ4_setLength_d00df_2 : decode cJ4_setLength_d00df 2 = .ok (.invokespecial 333, 3) := by decide +kernel
theorem dJ4_setLength_d00df_5 : decode cJ4_setLength_d00df 5 = .ok (.return_, 1) := by decide +kernel
theorem dJ4_length_8abf5_0 : decode cJ4_length_8abf5 0 = .ok (.aload_n 0, 1) := by decide +kernel
theorem dJ4_length_8abf5_1 : decode cJ4_length_8abf5 1 = .ok (.invokespecial 343, 3) := by decide +kernel
theorem dJ4_length_8abf5_4 : decode cJ4_length_8abf5 4 = .ok (.ireturn, 1) := by decide +kernel
theorem dJ1_canEncode_fc78d_0 : decode cJ1_canEncode_fc78d 0 = .ok (.iload_n 0, 1) := by decide +kernel
theorem dJ1_canEncode_fc78d_1 : decode cJ1_canEncode_fc78d 1 = .ok (.sipush 255, 3) := by decide +kernel
theorem dJ1_canEncode_fc78d_4 : decode cJ1_canEncode_fc78d 4 = .ok (.if_icmp .gt 7, 3) := by decide +kernel
theorem dJ1_canEncode_fc78d_7 : decode cJ1_canEncode_fc78d 7 = .ok (.iconst 1, 1) := by decide +kernel
theorem dJ1_canEncode_fc78d_8 : decode cJ1_canEncode_fc78d 8 = .ok (.goto 4, 3) := by decide +kernel
theorem dJ1_canEncode_fc78d_11 : decode cJ1_canEncode_fc78d 11 = .ok (.iconst 0, 1) := by decide +kernel
theorem dJ1_canEncode_fc78d_12 : decode cJ1_canEncode_fc78d 12 = .ok (.ireturn, 1) := by decide +kernel
theorem dJ1_fillNull_b72d1_0 : decode cJ1_fillNull_b72d1 0 = .ok (.aload_n 0, 1) := by decide +kernel
theorem dJ1_fillNull_b72d1_1 : decode cJ1_fillNull_b72d1 1 = .ok (.iload_n 1, 1) := by decide +kernel
theorem dJ1_fillNull_b72d1_2 : decode cJ1_fillNull_b72d1 2 = .ok (.iload_n 2, 1) := by decide +kernel
theorem dJ1_fillNull_b72d1_3 : decode cJ1_fillNull_b72d1 3 = .ok (.iconst 0, 1) := by decide +kernel
theorem dJ1_fillNull_b72d1_4 : decode cJ1_fillNull_b72d1 4 = .ok (.invokestatic 236, 3) := by decide +kernel
theorem dJ1_fillNull_b72d1_7 : decode cJ1_fillNull_b72d1 7 = .ok (.return_, 1) := by decide +kernel
theorem dJ1_inflate_0e8fd_0 : decode cJ1_inflate_0e8fd 0 = .ok (.aload_n 0, 1) := by decide +kernel
theorem dJ1_inflate_0e8fd_1 : decode cJ1_inflate_0e8fd 1 = .ok (.iload_n 1, 1) := by decide +kernel
theorem dJ1_inflate_0e8fd_2 : decode cJ1_inflate_0e8fd 2 = .ok (.aload_n 2, 1) := by decide +kernel
theorem dJ1_inflate_0e8fd_3 : decode cJ1_inflate_0e8fd 3 = .ok (.iload_n 3, 1) := by decide +kernel
theorem dJ1_inflate_0e8fd_4 : decode cJ1_inflate_0e8fd 4 = .ok (.iload 4, 2) := by decide +kernel
theorem dJ1_inflate_0e8fd_6 : decode cJ1_inflate_0e8fd 6 = .ok (.invokestatic 240, 3) := by decide +kernel
theorem dJ1_inflate_0e8fd_9 : decode cJ1_inflate_0e8fd 9 = .ok (.return_, 1) := by decide +kernel
theorem dJ2_newBytesFor_77867_0 : decode cJ2_newBytesFor_77867 0 = .ok (.iload_n 0, 1) := by decide +kernel
theorem dJ2_newBytesFor_77867_1 : decode cJ2_newBytesFor_77867 1 = .ok (.invokestatic 11, 3) := by decide +kernel
theorem dJ2_newBytesFor_77867_4 : decode cJ2_newBytesFor_77867 4 = .ok (.newarray .byte, 2) := by decide +kernel
theorem dJ2_newBytesFor_77867_6 : decode cJ2_newBytesFor_77867 6 = .ok (.areturn, 1) := by decide +kernel
theorem dJ2_newBytesLength_0f7a4_0 : decode cJ2_newBytesLength_0f7a4 0 = .ok (.iload_n 0, 1) := by decide +kernel
theorem dJ2_newBytesLength_0f7a4_1 : decode cJ2_newBytesLength_0f7a4 1 = .ok (.ifCond .ge 11, 3) := by decide +kernel
theorem dJ2_newBytesLength_0f7a4_4 : decode cJ2_newBytesLength_0f7a4 4 = .ok (.new 17, 3) := by decide +kernel
theorem dJ2_newBytesLength_0f7a4_7 : decode cJ2_newBytesLength_0f7a4 7 = .ok (.dup, 1) := by decide +kernel
theorem dJ2_newBytesLength_0f7a4_8 : decode cJ2_newBytesLength_0f7a4 8 = .ok (.invokespecial 19, 3) := by decide +kernel
theorem dJ2_newBytesLength_0f7a4_11 : decode cJ2_newBytesLength_0f7a4 11 = .ok (.athrow, 1) := by decide +kernel
theorem dJ2_newBytesLength_0f7a4_12 : decode cJ2_newBytesLength_0f7a4 12 = .ok (.iload_n 0, 1) := by decide +kernel
theorem dJ2_newBytesLength_0f7a4_13 : decode cJ2_newBytesLength_0f7a4 13 = .ok (.ldc 20, 2) := by decide +kernel
theorem dJ2_newBytesLength_0f7a4_15 : decode cJ2_newBytesLength_0f7a4 15 = .ok (.if_icmp .lt 40, 3) := by decide +kernel
theorem dJ2_newBytesLength_0f7a4_18 : decode cJ2_newBytesLength_0f7a4 18 = .ok (.new 21, 3) := by decide +kernel
theorem dJ2_newBytesLength_0f7a4_21 : decode cJ2_newBytesLength_0f7a4 21 = .ok (.dup, 1) := by decide +kernel
theorem dJ2_newBytesLength_0f7a4_22 : decode cJ2_newBytesLength_0f7a4 22 = .ok (.new 23, 3) := by decide +kernel
theorem dJ2_newBytesLength_0f7a4_25 : decode cJ2_newBytesLength_0f7a4 25 = .ok (.dup, 1) := by decide +kernel
theorem dJ2_newBytesLength_0f7a4_26 : decode cJ2_newBytesLength_0f7a4 26 = .ok (.invokespecial 25, 3) := by decide +kernel
theorem dJ2_newBytesLength_0f7a4_29 : decode cJ2_newBytesLength_0f7a4 29 = .ok (.ldc 26, 2) := by decide +kernel
theorem dJ2_newBytesLength_0f7a4_31 : decode cJ2_newBytesLength_0f7a4 31 = .ok (.invokevirtual 28, 3) := by decide +kernel
theorem dJ2_newBytesLength_0f7a4_34 : decode cJ2_newBytesLength_0f7a4 34 = .ok (.iload_n 0, 1) := by decide +kernel
theorem dJ2_newBytesLength_0f7a4_35 : decode cJ2_newBytesLength_0f7a4 35 = .ok (.invokevirtual 32, 3) := by decide +kernel
theorem dJ2_newBytesLength_0f7a4_38 : decode cJ2_newBytesLength_0f7a4 38 = .ok (.ldc 35, 2) := by decide +kernel
theorem dJ2_newBytesLength_0f7a4_40 : decode cJ2_newBytesLength_0f7a4 40 = .ok (.invokevirtual 28, 3) := by decide +kernel
theorem dJ2_newBytesLength_0f7a4_43 : decode cJ2_newBytesLength_0f7a4 43 = .ok (.ldc 20, 2) := by decide +kernel
theorem dJ2_newBytesLength_0f7a4_45 : decode cJ2_newBytesLength_0f7a4 45 = .ok (.invokevirtual 32, 3) := by decide +kernel
theorem dJ2_newBytesLength_0f7a4_48 : decode cJ2_newBytesLength_0f7a4 48 = .ok (.invokevirtual 37, 3) := by decide +kernel
theorem dJ2_newBytesLength_0f7a4_51 : decode cJ2_newBytesLength_0f7a4 51 = .ok (.invokespecial 41, 3) := by decide +kernel
theorem dJ2_newBytesLength_0f7a4_54 : decode cJ2_newBytesLength_0f7a4 54 = .ok (.athrow, 1) := by decide +kernel
theorem dJ2_newBytesLength_0f7a4_55 : decode cJ2_newBytesLength_0f7a4 55 = .ok (.iload_n 0, 1) := by decide +kernel
theorem dJ2_newBytesLength_0f7a4_56 : decode cJ2_newBytesLength_0f7a4 56 = .ok (.iconst 1, 1) := by decide +kernel
theorem dJ2_newBytesLength_0f7a4_57 : decode cJ2_newBytesLength_0f7a4 57 = .ok (.ishl, 1) := by decide +kernel
theorem dJ2_newBytesLength_0f7a4_58 : decode cJ2_newBytesLength_0f7a4 58 = .ok (.ireturn, 1) := by decide +kernel
theorem dJ2_putChar_b72d1_0 : decode cJ2_putChar_b72d1 0 = .ok (.getstatic 44, 3) := by decide +kernel
theorem dJ2_putChar_b72d1_3 : decode cJ2_putChar_b72d1 3 = .ok (.ifCond .ne 25, 3) := by decide +kernel
theorem dJ2_putChar_b72d1_6 : decode cJ2_putChar_b72d1 6 = .ok (.iload_n 1, 1) := by decide +kernel
theorem dJ2_putChar_b72d1_7 : decode cJ2_putChar_b72d1 7 = .ok (.ifCond .lt 11, 3) := by decide +kernel
theorem dJ2_putChar_b72d1_10 : decode cJ2_putChar_b72d1 10 = .ok (.iload_n 1, 1) := by decide +kernel
theorem dJ2_putChar_b72d1_11 : decode cJ2_putChar_b72d1 11 = .ok (.aload_n 0, 1) := by decide +kernel
theorem dJ2_putChar_b72d1_12 : decode cJ2_putChar_b72d1 12 = .ok (.invokestatic 48, 3) := by decide +kernel
theorem dJ2_putChar_b72d1_15 : decode cJ2_putChar_b72d1 15 = .ok (.if_icmp .lt 13, 3) := by decide +kernel
theorem dJ2_putChar_b72d1_18 : decode cJ2_putChar_b72d1 18 = .ok (.new 52, 3) := by decide +kernel
theorem dJ2_putChar_b72d1_21 : decode cJ2_putChar_b72d1 21 = .ok (.dup, 1) := by decide +kernel
theorem dJ2_putChar_b72d1_22 : decode cJ2_putChar_b72d1 22 = .ok (.ldc 54, 2) := by decide +kernel
theorem dJ2_putChar_b72d1_24 : decode cJ2_putChar_b72d1 24 = .ok (.invokespecial 56, 3) := by decide +kernel
theorem dJ2_putChar_b72d1_27 : decode cJ2_putChar_b72d1 27 = .ok (.athrow, 1) := by decide +kernel
theorem dJ2_putChar_b72d1_28 : decode cJ2_putChar_b72d1 28 = .ok (.iload_n 1, 1) := by decide +kernel
theorem dJ2_putChar_b72d1_29 : decode cJ2_putChar_b72d1 29 = .ok (.iconst 1, 1) := by decide +kernel
theorem dJ2_putChar_b72d1_30 : decode cJ2_putChar_b72d1 30 = .ok (.ishl, 1) := by decide +kernel
theorem dJ2_putChar_b72d1_31 : decode cJ2_putChar_b72d1 31 = .ok (.istore_n 1, 1) := by decide +kernel
theorem dJ2_putChar_b72d1_32 : decode cJ2_putChar_b72d1 32 = .ok (.aload_n 0, 1) := by decide +kernel
theorem dJ2_putChar_b72d1_33 : decode cJ2_putChar_b72d1 33 = .ok (.iload_n 1, 1) := by decide +kernel
theorem dJ2_putChar_b72d1_34 : decode cJ2_putChar_b72d1 34 = .ok (.iinc 1 1, 3) := by decide +kernel
theorem dJ2_putChar_b72d1_37 : decode cJ2_putChar_b72d1 37 = .ok (.iload_n 2, 1) := by decide +kernel
theorem dJ2_putChar_b72d1_38 : decode cJ2_putChar_b72d1 38 = .ok (.getstatic 59, 3) := by decide +kernel
theorem dJ2_putChar_b72d1_41 : decode cJ2_putChar_b72d1 41 = .ok (.ishr, 1) := by decide +kernel
theorem dJ2_putChar_b72d1_42 : decode cJ2_putChar_b72d1 42 = .ok (.i2b, 1) := by decide +kernel
theorem dJ2_putChar_b72d1_43 : decode cJ2_putChar_b72d1 43 = .ok (.bastore, 1) := by decide +kernel
theorem dJ2_putChar_b72d1_44 : decode cJ2_putChar_b72d1 44 = .ok (.aload_n 0, 1) := by decide +kernel
theorem dJ2_putChar_b72d1_45 : decode cJ2_putChar_b72d1 45 = .ok (.iload_n 1, 1) := by decide +kernel
theorem dJ2_putChar_b72d1_46 : decode cJ2_putChar_b72d1 46 = .ok (.iload_n 2, 1) := by decide +kernel
theorem dJ2_putChar_b72d1_47 : decode cJ2_putChar_b72d1 47 = .ok (.getstatic 63, 3) := by decide +kernel
theorem dJ2_putChar_b72d1_50 : decode cJ2_putChar_b72d1 50 = .ok (.ishr, 1) := by decide +kernel
theorem dJ2_putChar_b72d1_51 : decode cJ2_putChar_b72d1 51 = .ok (.i2b, 1) := by decide +kernel
theorem dJ2_putChar_b72d1_52 : decode cJ2_putChar_b72d1 52 = .ok (.bastore, 1) := by decide +kernel
theorem dJ2_putChar_b72d1_53 : decode cJ2_putChar_b72d1 53 = .ok (.return_, 1) := by decide +kernel
theorem dJ2_getChar_3b067_0 : decode cJ2_getChar_3b067 0 = .ok (.getstatic 44, 3) := by decide +kernel
theorem dJ2_getChar_3b067_3 : decode cJ2_getChar_3b067 3 = .ok (.ifCond .ne 25, 3) := by decide +kernel
theorem dJ2_getChar_3b067_6 : decode cJ2_getChar_3b067 6 = .ok (.iload_n 1, 1) := by decide +kernel
theorem dJ2_getChar_3b067_7 : decode cJ2_getChar_3b067 7 = .ok (.ifCond .lt 11, 3) := by decide +kernel
theorem dJ2_getChar_3b067_10 : decode cJ2_getChar_3b067 10 = .ok (.iload_n 1, 1) := by decide +kernel
theorem dJ2_getChar_3b067_11 : decode cJ2_getChar_3b067 11 = .ok (.aload_n 0, 1) := by decide +kernel
theorem dJ2_getChar_3b067_12 : decode cJ2_getChar_3b067 12 = .ok (.invokestatic 48, 3) := by decide +kernel
theorem dJ2_getChar_3b067_15 : decode cJ2_getChar_3b067 15 = .ok (.if_icmp .lt 13, 3) := by decide +kernel
theorem dJ2_getChar_3b067_18 : decode cJ2_getChar_3b067 18 = .ok (.new 52, 3) := by decide +kernel
theorem dJ2_getChar_3b067_21 : decode cJ2_getChar_3b067 21 = .ok (.dup, 1) := by decide +kernel
theorem dJ2_getChar_3b067_22 : decode cJ2_getChar_3b067 22 = .ok (.ldc 54, 2) := by decide +kernel
theorem dJ2_getChar_3b067_24 : decode cJ2_getChar_3b067 24 = .ok (.invokespecial 56, 3) := by decide +kernel
theorem dJ2_getChar_3b067_27 : decode cJ2_getChar_3b067 27 = .ok (.athrow, 1) := by decide +kernel
theorem dJ2_getChar_3b067_28 : decode cJ2_getChar_3b067 28 = .ok (.iload_n 1, 1) := by decide +kernel
theorem dJ2_getChar_3b067_29 : decode cJ2_getChar_3b067 29 = .ok (.iconst 1, 1) := by decide +kernel
theorem dJ2_getChar_3b067_30 : decode cJ2_getChar_3b067 30 = .ok (.ishl, 1) := by decide +kernel
theorem dJ2_getChar_3b067_31 : decode cJ2_getChar_3b067 31 = .ok (.istore_n 1, 1) := by decide +kernel
theorem dJ2_getChar_3b067_32 : decode cJ2_getChar_3b067 32 = .ok (.aload_n 0, 1) := by decide +kernel
theorem dJ2_getChar_3b067_33 : decode cJ2_getChar_3b067 33 = .ok (.iload_n 1, 1) := by decide +kernel
theorem dJ2_getChar_3b067_34 : decode cJ2_getChar_3b067 34 = .ok (.iinc 1 1, 3) := by decide +kernel
theorem dJ2_getChar_3b067_37 : decode cJ2_getChar_3b067 37 = .ok (.baload, 1) := by decide +kernel
theorem dJ2_getChar_3b067_38 : decode cJ2_getChar_3b067 38 = .ok (.sipush 255, 3) := by decide +kernel
theorem dJ2_getChar_3b067_41 : decode cJ2_getChar_3b067 41 = .ok (.iand, 1) := by decide +kernel
theorem dJ2_getChar_3b067_42 : decode cJ2_getChar_3b067 42 = .ok (.getstatic 59, 3) := by decide +kernel
theorem dJ2_getChar_3b067_45 : decode cJ2_getChar_3b067 45 = .ok (.ishl, 1) := by decide +kernel
theorem dJ2_getChar_3b067_46 : decode cJ2_getChar_3b067 46 = .ok (.aload_n 0, 1) := by decide +kernel
theorem dJ2_getChar_3b067_47 : decode cJ2_getChar_3b067 47 = .ok (.iload_n 1, 1) := by decide +kernel
theorem dJ2_getChar_3b067_48 : decode cJ2_getChar_3b067 48 = .ok (.baload, 1) := by decide +kernel
theorem dJ2_getChar_3b067_49 : decode cJ2_getChar_3b067 49 = .ok (.sipush 255, 3) := by decide +kernel
theorem dJ2_getChar_3b067_52 : decode cJ2_getChar_3b067 52 = .ok (.iand, 1) := by decide +kernel
theorem dJ2_getChar_3b067_53 : decode cJ2_getChar_3b067 53 = .ok (.getstatic 63, 3) := by decide +kernel
theorem dJ2_getChar_3b067_56 : decode cJ2_getChar_3b067 56 = .ok (.ishl, 1) := by decide +kernel
theorem dJ2_getChar_3b067_57 : decode cJ2_getChar_3b067 57 = .ok (.ior, 1) := by decide +kernel
theorem dJ2_getChar_3b067_58 : decode cJ2_getChar_3b067 58 = .ok (.i2c, 1) := by decide +kernel
theorem dJ2_getChar_3b067_59 : decode cJ2_getChar_3b067 59 = .ok (.ireturn, 1) := by decide +kernel
theorem dJ2_length_9d52b_0 : decode cJ2_length_9d52b 0 = .ok (.aload_n 0, 1) := by decide +kernel
theorem dJ2_length_9d52b_1 : decode cJ2_length_9d52b 1 = .ok (.arraylength, 1) := by decide +kernel
theorem dJ2_length_9d52b_2 : decode cJ2_length_9d52b 2 = .ok (.iconst 1, 1) := by decide +kernel
theorem dJ2_length_9d52b_3 : decode cJ2_length_9d52b 3 = .ok (.ishr, 1) := by decide +kernel
theorem dJ2_length_9d52b_4 : decode cJ2_length_9d52b 4 = .ok (.ireturn, 1) := by decide +kernel
theorem dJ2_fillNull_b72d1_0 : decode cJ2_fillNull_b72d1 0 = .ok (.aload_n 0, 1) := by decide +kernel
theorem dJ2_fillNull_b72d1_1 : decode cJ2_fillNull_b72d1 1 = .ok (.iload_n 1, 1) := by decide +kernel
theorem dJ2_fillNull_b72d1_2 : decode cJ2_fillNull_b72d1 2 = .ok (.iconst 1, 1) := by decide +kernel
theorem dJ2_fillNull_b72d1_3 : decode cJ2_fillNull_b72d1 3 = .ok (.ishl, 1) := by decide +kernel
theorem dJ2_fillNull_b72d1_4 : decode cJ2_fillNull_b72d1 4 = .ok (.iload_n 2, 1) := by decide +kernel
theorem dJ2_fillNull_b72d1_5 : decode cJ2_fillNull_b72d1 5 = .ok (.iconst 1, 1) := by decide +kernel
theorem dJ2_fillNull_b72d1_6 : decode cJ2_fillNull_b72d1 6 = .ok (.ishl, 1) := by decide +kernel
theorem dJ2_fillNull_b72d1_7 : decode cJ2_fillNull_b72d1 7 = .ok (.iconst 0, 1) := by decide +kernel
theorem dJ2_fillNull_b72d1_8 : decode cJ2_fillNull_b72d1 8 = .ok (.invokestatic 380, 3) := by decide +kernel
theorem dJ2_fillNull_b72d1_11 : decode cJ2_fillNull_b72d1 11 = .ok (.return_, 1) := by decide +kernel
theorem dJ2_putCharSB_b72d1_0 : decode cJ2_putCharSB_b72d1 0 = .ok (.iload_n 1, 1) := by decide +kernel
theorem dJ2_putCharSB_b72d1_1 : decode cJ2_putCharSB_b72d1 1 = .ok (.aload_n 0, 1) := by decide +kernel
theorem dJ2_putCharSB_b72d1_2 : decode cJ2_putCharSB_b72d1 2 = .ok (.invokestatic 67, 3) := by decide +kernel
theorem dJ2_putCharSB_b72d1_5 : decode cJ2_putCharSB_b72d1 5 = .ok (.aload_n 0, 1) := by decide +kernel
theorem dJ2_putCharSB_b72d1_6 : decode cJ2_putCharSB_b72d1 6 = .ok (.iload_n 1, 1) := by decide +kernel
theorem dJ2_putCharSB_b72d1_7 : decode cJ2_putCharSB_b72d1 7 = .ok (.iload_n 2, 1) := by decide +kernel
theorem dJ2_putCharSB_b72d1_8 : decode cJ2_putCharSB_b72d1 8 = .ok (.invokestatic 111, 3) := by decide +kernel
theorem dJ2_putCharSB_b72d1_11 : decode cJ2_putCharSB_b72d1 11 = .ok (.return_, 1) := by decide +kernel
theorem dJ2_inflate_0e8fd_0 : decode cJ2_inflate_0e8fd 0 = .ok (.iload_n 3, 1) := by decide +kernel
theorem dJ2_inflate_0e8fd_1 : decode cJ2_inflate_0e8fd 1 = .ok (.iload 4, 2) := by decide +kernel
theorem dJ2_inflate_0e8fd_3 : decode cJ2_inflate_0e8fd 3 = .ok (.aload_n 2, 1) := by decide +kernel
theorem dJ2_inflate_0e8fd_4 : decode cJ2_inflate_0e8fd 4 = .ok (.invokestatic 173, 3) := by decide +kernel
theorem dJ2_inflate_0e8fd_7 : decode cJ2_inflate_0e8fd 7 = .ok (.iconst 0, 1) := by decide +kernel
theorem dJ2_inflate_0e8fd_8 : decode cJ2_inflate_0e8fd 8 = .ok (.istore 5, 2) := by decide +kernel
theorem dJ2_inflate_0e8fd_10 : decode cJ2_inflate_0e8fd 10 = .ok (.iload 5, 2) := by decide +kernel
theorem dJ2_inflate_0e8fd_12 : decode cJ2_inflate_0e8fd 12 = .ok (.iload 4, 2) := by decide +kernel
theorem dJ2_inflate_0e8fd_14 : decode cJ2_inflate_0e8fd 14 = .ok (.if_icmp .ge 27, 3) := by decide +kernel
theorem dJ2_inflate_0e8fd_17 : decode cJ2_inflate_0e8fd 17 = .ok (.aload_n 2, 1) := by decide +kernel
theorem dJ2_inflate_0e8fd_18 : decode cJ2_inflate_0e8fd 18 = .ok (.iload_n 3, 1) := by decide +kernel
theorem dJ2_inflate_0e8fd_19 : decode cJ2_inflate_0e8fd 19 = .ok (.iinc 3 1, 3) := by decide +kernel
theorem dJ2_inflate_0e8fd_22 : decode cJ2_inflate_0e8fd 22 = .ok (.aload_n 0, 1) := by decide +kernel
theorem dJ2_inflate_0e8fd_23 : decode cJ2_inflate_0e8fd 23 = .ok (.iload_n 1, 1) := by decide +kernel
theorem dJ2_inflate_0e8fd_24 : decode cJ2_inflate_0e8fd 24 = .ok (.iinc 1 1, 3) := by decide +kernel
theorem dJ2_inflate_0e8fd_27 : decode cJ2_inflate_0e8fd 27 = .ok (.baload, 1) := by decide +kernel
theorem dJ2_inflate_0e8fd_28 : decode cJ2_inflate_0e8fd 28 = .ok (.sipush 255, 3) := by decide +kernel
theorem dJ2_inflate_0e8fd_31 : decode cJ2_inflate_0e8fd 31 = .ok (.iand, 1) := by decide +kernel
theorem dJ2_inflate_0e8fd_32 : decode cJ2_inflate_0e8fd 32 = .ok (.invokestatic 111, 3) := by decide +kernel
theorem dJ2_inflate_0e8fd_35 : decode cJ2_inflate_0e8fd 35 = .ok (.iinc 5 1, 3) := by decide +kernel
theorem dJ2_inflate_0e8fd_38 : decode cJ2_inflate_0e8fd 38 = .ok (.goto (-28), 3) := by decide +kernel
theorem dJ2_inflate_0e8fd_41 : decode cJ2_inflate_0e8fd 41 = .ok (.return_, 1) := by decide +kernel
theorem dJ2_checkIndex_2214a_0 : decode cJ2_checkIndex_2214a 0 = .ok (.iload_n 0, 1) := by decide +kernel
theorem dJ2_checkIndex_2214a_1 : decode cJ2_checkIndex_2214a 1 = .ok (.aload_n 1, 1) := by decide +kernel
theorem dJ2_checkIndex_2214a_2 : decode cJ2_checkIndex_2214a 2 = .ok (.invokestatic 48, 3) := by decide +kernel
theorem dJ2_checkIndex_2214a_5 : decode cJ2_checkIndex_2214a 5 = .ok (.invokestatic 414, 3) := by decide +kernel
theorem dJ2_checkIndex_2214a_8 : decode cJ2_checkIndex_2214a 8 = .ok (.return_, 1) := by decide +kernel
theorem dJ2_checkBoundsOffCount_d044e_0 : decode cJ2_checkBoundsOffCount_d044e 0 = .ok (.iload_n 0, 1) := by decide +kernel
theorem dJ2_checkBoundsOffCount_d044e_1 : decode cJ2_checkBoundsOffCount_d044e 1 = .ok (.iload_n 1, 1) := by decide +kernel
theorem dJ2_checkBoundsOffCount_d044e_2 : decode cJ2_checkBoundsOffCount_d044e 2 = .ok (.aload_n 2, 1) := by decide +kernel
theorem dJ2_checkBoundsOffCount_d044e_3 : decode cJ2_checkBoundsOffCount_d044e 3 = .ok (.invokestatic 48, 3) := by decide +kernel
theorem dJ2_checkBoundsOffCount_d044e_6 : decode cJ2_checkBoundsOffCount_d044e 6 = .ok (.invokestatic 419, 3) := by decide +kernel
theorem dJ2_checkBoundsOffCount_d044e_9 : decode cJ2_checkBoundsOffCount_d044e 9 = .ok (.pop, 1) := by decide +kernel
theorem dJ2_checkBoundsOffCount_d044e_10 : decode cJ2_checkBoundsOffCount_d044e 10 = .ok (.return_, 1) := by decide +kernel
theorem dJxa1e45_init_da8c8_0 : decode cJxa1e45_init_da8c8 0 = .ok (.aload_n 0, 1) := by decide +kernel
theorem dJxa1e45_init_da8c8_1 : decode cJxa1e45_init_da8c8 1 = .ok (.invokespecial 1, 3) := by decide +kernel
theorem dJxa1e45_init_da8c8_4 : decode cJxa1e45_init_da8c8 4 = .ok (.return_, 1) := by decide +kernel
theorem dJxc12de_init_da8c8_0 : decode cJxc12de_init_da8c8 0 = .ok (.aload_n 0, 1) := by decide +kernel
theorem dJxc12de_init_da8c8_1 : decode cJxc12de_init_da8c8 1 = .ok (.invokespecial 1, 3) := by decide +kernel
theorem dJxc12de_init_da8c8_4 : decode cJxc12de_init_da8c8 4 = .ok (.aload_n 0, 1) := by decide +kernel
theorem dJxc12de_init_da8c8_5 : decode cJxc12de_init_da8c8 5 = .ok (.iconst 0, 1) := by decide +kernel
theorem dJxc12de_init_da8c8_6 : decode cJxc12de_init_da8c8 6 = .ok (.putfield 7, 3) := by decide +kernel
theorem dJxc12de_init_da8c8_9 : decode cJxc12de_init_da8c8 9 = .ok (.return_, 1) := by decide +kernel
theorem dJx4a65c_init_da8c8_0 : decode cJx4a65c_init_da8c8 0 = .ok (.aload_n 0, 1) := by decide +kernel
theorem dJx4a65c_init_da8c8_1 : decode cJx4a65c_init_da8c8 1 = .ok (.invokespecial 1, 3) := by decide +kernel
theorem dJx4a65c_init_da8c8_4 : decode cJx4a65c_init_da8c8 4 = .ok (.aload_n 0, 1) := by decide +kernel
theorem dJx4a65c_init_da8c8_5 : decode cJx4a65c_init_da8c8 5 = .ok (.getstatic 39, 3) := by decide +kernel
theorem dJx4a65c_init_da8c8_8 : decode cJx4a65c_init_da8c8 8 = .ok (.putfield 9, 3) := by decide +kernel
theorem dJx4a65c_init_da8c8_11 : decode cJx4a65c_init_da8c8 11 = .ok (.return_, 1) := by decide +kernel
theorem dJx4a65c_grow_92f84_0 : decode cJx4a65c_grow_92f84 0 = .ok (.aload_n 0, 1) := by decide +kernel
theorem dJx4a65c_grow_92f84_1 : decode cJx4a65c_grow_92f84 1 = .ok (.getfield 9, 3) := by decide +kernel
theorem dJx4a65c_grow_92f84_4 : decode cJx4a65c_grow_92f84 4 = .ok (.arraylength, 1) := by decide +kernel
theorem dJx4a65c_grow_92f84_5 : decode cJx4a65c_grow_92f84 5 = .ok (.istore_n 2, 1) := by decide +kernel
theorem dJx4a65c_grow_92f84_6 : decode cJx4a65c_grow_92f84 6 = .ok (.iload_n 2, 1) := by decide +kernel
theorem dJx4a65c_grow_92f84_7 : decode cJx4a65c_grow_92f84 7 = .ok (.ifCond .gt 13, 3) := by decide +kernel
theorem dJx4a65c_grow_92f84_10 : decode cJx4a65c_grow_92f84 10 = .ok (.aload_n 0, 1) := by decide +kernel
theorem dJx4a65c_grow_92f84_11 : decode cJx4a65c_grow_92f84 11 = .ok (.getfield 9, 3) := by decide +kernel
theorem dJx4a65c_grow_92f84_14 : decode cJx4a65c_grow_92f84 14 = .ok (.getstatic 39, 3) := by decide +kernel
theorem dJx4a65c_grow_92f84_17 : decode cJx4a65c_grow_92f84 17 = .ok (.if_acmp .eq 28, 3) := by decide +kernel
theorem dJx4a65c_grow_92f84_20 : decode cJx4a65c_grow_92f84 20 = .ok (.iload_n 2, 1) := by decide +kernel
theorem dJx4a65c_grow_92f84_21 : decode cJx4a65c_grow_92f84 21 = .ok (.iload_n 1, 1) := by decide +kernel
theorem dJx4a65c_grow_92f84_22 : decode cJx4a65c_grow_92f84 22 = .ok (.iload_n 2, 1) := by decide +kernel
theorem dJx4a65c_grow_92f84_23 : decode cJx4a65c_grow_92f84 23 = .ok (.isub, 1) := by decide +kernel
theorem dJx4a65c_grow_92f84_24 : decode cJx4a65c_grow_92f84 24 = .ok (.iload_n 2, 1) := by decide +kernel
theorem dJx4a65c_grow_92f84_25 : decode cJx4a65c_grow_92f84 25 = .ok (.iconst 1, 1) := by decide +kernel
theorem dJx4a65c_grow_92f84_26 : decode cJx4a65c_grow_92f84 26 = .ok (.ishr, 1) := by decide +kernel
theorem dJx4a65c_grow_92f84_27 : decode cJx4a65c_grow_92f84 27 = .ok (.invokestatic 73, 3) := by decide +kernel
theorem dJx4a65c_grow_92f84_30 : decode cJx4a65c_grow_92f84 30 = .ok (.istore_n 3, 1) := by decide +kernel
theorem dJx4a65c_grow_92f84_31 : decode cJx4a65c_grow_92f84 31 = .ok (.aload_n 0, 1) := by decide +kernel
theorem dJx4a65c_grow_92f84_32 : decode cJx4a65c_grow_92f84 32 = .ok (.aload_n 0, 1) := by decide +kernel
theorem dJx4a65c_grow_92f84_33 : decode cJx4a65c_grow_92f84 33 = .ok (.getfield 9, 3) := by decide +kernel
theorem dJx4a65c_grow_92f84_36 : decode cJx4a65c_grow_92f84 36 = .ok (.iload_n 3, 1) := by decide +kernel
theorem dJx4a65c_grow_92f84_37 : decode cJx4a65c_grow_92f84 37 = .ok (.invokestatic 66, 3) := by decide +kernel
theorem dJx4a65c_grow_92f84_40 : decode cJx4a65c_grow_92f84 40 = .ok (.dup_x1, 1) := by decide +kernel
theorem dJx4a65c_grow_92f84_41 : decode cJx4a65c_grow_92f84 41 = .ok (.putfield 9, 3) := by decide +kernel
theorem dJx4a65c_grow_92f84_44 : decode cJx4a65c_grow_92f84 44 = .ok (.areturn, 1) := by decide +kernel
theorem dJx4a65c_grow_92f84_45 : decode cJx4a65c_grow_92f84 45 = .ok (.aload_n 0, 1) := by decide +kernel
theorem dJx4a65c_grow_92f84_46 : decode cJx4a65c_grow_92f84 46 = .ok (.bipush 10, 2) := by decide +kernel
theorem dJx4a65c_grow_92f84_48 : decode cJx4a65c_grow_92f84 48 = .ok (.iload_n 1, 1) := by decide +kernel
theorem dJx4a65c_grow_92f84_49 : decode cJx4a65c_grow_92f84 49 = .ok (.invokestatic 79, 3) := by decide +kernel
theorem dJx4a65c_grow_92f84_52 : decode cJx4a65c_grow_92f84 52 = .ok (.anewarray 7, 3) := by decide +kernel
theorem dJx4a65c_grow_92f84_55 : decode cJx4a65c_grow_92f84 55 = .ok (.dup_x1, 1) := by decide +kernel
theorem dJx4a65c_grow_92f84_56 : decode cJx4a65c_grow_92f84 56 = .ok (.putfield 9, 3) := by decide +kernel
theorem dJx4a65c_grow_92f84_59 : decode cJx4a65c_grow_92f84 59 = .ok (.areturn, 1) := by decide +kernel
theorem dJx4a65c_grow_d5877_0 : decode cJx4a65c_grow_d5877 0 = .ok (.aload_n 0, 1) := by decide +kernel
theorem dJx4a65c_grow_d5877_1 : decode cJx4a65c_grow_d5877 1 = .ok (.aload_n 0, 1) := by decide +kernel
theorem dJx4a65c_grow_d5877_2 : decode cJx4a65c_grow_d5877 2 = .ok (.getfield 48, 3) := by decide +kernel
theorem dJx4a65c_grow_d5877_5 : decode cJx4a65c_grow_d5877 5 = .ok (.iconst 1, 1) := by decide +kernel
theorem dJx4a65c_grow_d5877_6 : decode cJx4a65c_grow_d5877 6 = .ok (.iadd, 1) := by decide +kernel
theorem dJx4a65c_grow_d5877_7 : decode cJx4a65c_grow_d5877 7 = .ok (.invokevirtual 69, 3) := by decide +kernel
theorem dJx4a65c_grow_d5877_10 : decode cJx4a65c_grow_d5877 10 = .ok (.areturn, 1) := by decide +kernel
theorem dJx4a65c_size_8abf5_0 : decode cJx4a65c_size_8abf5 0 = .ok (.aload_n 0, 1) := by decide +kernel
theorem dJx4a65c_size_8abf5_1 : decode cJx4a65c_size_8abf5 1 = .ok (.getfield 48, 3) := by decide +kernel
theorem dJx4a65c_size_8abf5_4 : decode cJx4a65c_size_8abf5 4 = .ok (.ireturn, 1) := by decide +kernel
theorem dJx4a65c_elementData_915e3_0 : decode cJx4a65c_elementData_915e3 0 = .ok (.aload_n 0, 1) := by decide +kernel
theorem dJx4a65c_elementData_915e3_1 : decode cJx4a65c_elementData_915e3 1 = .ok (.getfield 9, 3) := by decide +kernel
theorem dJx4a65c_elementData_915e3_4 : decode cJx4a65c_elementData_915e3 4 = .ok (.iload_n 1, 1) := by decide +kernel
theorem dJx4a65c_elementData_915e3_5 : decode cJx4a65c_elementData_915e3 5 = .ok (.aaload, 1) := by decide +kernel
theorem dJx4a65c_elementData_915e3_6 : decode cJx4a65c_elementData_915e3 6 = .ok (.areturn, 1) := by decide +kernel
theorem dJx4a65c_get_915e3_0 : decode cJx4a65c_get_915e3 0 = .ok (.iload_n 1, 1) := by decide +kernel
theorem dJx4a65c_get_915e3_1 : decode cJx4a65c_get_915e3 1 = .ok (.aload_n 0, 1) := by decide +kernel
theorem dJx4a65c_get_915e3_2 : decode cJx4a65c_get_915e3 2 = .ok (.getfield 48, 3) := by decide +kernel
theorem dJx4a65c_get_915e3_5 : decode cJx4a65c_get_915e3 5 = .ok (.invokestatic 118, 3) := by decide +kernel
theorem dJx4a65c_get_915e3_8 : decode cJx4a65c_get_915e3 8 = .ok (.pop, 1) := by decide +kernel
theorem dJx4a65c_get_915e3_9 : decode cJx4a65c_get_915e3 9 = .ok (.aload_n 0, 1) := by decide +kernel
theorem dJx4a65c_get_915e3_10 : decode cJx4a65c_get_915e3 10 = .ok (.iload_n 1, 1) := by decide +kernel
theorem dJx4a65c_get_915e3_11 : decode cJx4a65c_get_915e3 11 = .ok (.invokevirtual 123, 3) := by decide +kernel
theorem dJx4a65c_get_915e3_14 : decode cJx4a65c_get_915e3 14 = .ok (.areturn, 1) := by decide +kernel
theorem dJx4a65c_add_72be8_0 : decode cJx4a65c_add_72be8 0 = .ok (.iload_n 3, 1) := by decide +kernel
theorem dJx4a65c_add_72be8_1 : decode cJx4a65c_add_72be8 1 = .ok (.aload_n 2, 1) := by decide +kernel
theorem dJx4a65c_add_72be8_2 : decode cJx4a65c_add_72be8 2 = .ok (.arraylength, 1) := by decide +kernel
theorem dJx4a65c_add_72be8_3 : decode cJx4a65c_add_72be8 3 = .ok (.if_icmp .ne 8, 3) := by decide +kernel
theorem dJx4a65c_add_72be8_6 : decode cJx4a65c_add_72be8 6 = .ok (.aload_n 0, 1) := by decide +kernel
theorem dJx4a65c_add_72be8_7 : decode cJx4a65c_add_72be8 7 = .ok (.invokevirtual 129, 3) := by decide +kernel
theorem dJx4a65c_add_72be8_10 : decode cJx4a65c_add_72be8 10 = .ok (.astore_n 2, 1) := by decide +kernel
theorem dJx4a65c_add_72be8_11 : decode cJx4a65c_add_72be8 11 = .ok (.aload_n 2, 1) := by decide +kernel
theorem dJx4a65c_add_72be8_12 : decode cJx4a65c_add_72be8 12 = .ok (.iload_n 3, 1) := by decide +kernel
theorem dJx4a65c_add_72be8_13 : decode cJx4a65c_add_72be8 13 = .ok (.aload_n 1, 1) := by decide +kernel
theorem dJx4a65c_add_72be8_14 : decode cJx4a65c_add_72be8 14 = .ok (.aastore, 1) := by decide +kernel
theorem dJx4a65c_add_72be8_15 : decode cJx4a65c_add_72be8 15 = .ok (.aload_n 0, 1) := by decide +kernel
theorem dJx4a65c_add_72be8_16 : decode cJx4a65c_add_72be8 16 = .ok (.iload_n 3, 1) := by decide +kernel
theorem dJx4a65c_add_72be8_17 : decode cJx4a65c_add_72be8 17 = .ok (.iconst 1, 1) := by decide +kernel
theorem dJx4a65c_add_72be8_18 : decode cJx4a65c_add_72be8 18 = .ok (.iadd, 1) := by decide +kernel
theorem dJx4a65c_add_72be8_19 : decode cJx4a65c_add_72be8 19 = .ok (.putfield 48, 3) := by decide +kernel
theorem dJx4a65c_add_72be8_22 : decode cJx4a65c_add_72be8 22 = .ok (.return_, 1) := by decide +kernel
theorem dJx4a65c_add_9ea2d_0 : decode cJx4a65c_add_9ea2d 0 = .ok (.aload_n 0, 1) := by decide +kernel
theorem dJx4a65c_add_9ea2d_1 : decode cJx4a65c_add_9ea2d 1 = .ok (.dup, 1) := by decide +kernel
theorem dJx4a65c_add_9ea2d_2 : decode cJx4a65c_add_9ea2d 2 = .ok (.getfield 63, 3) := by decide +kernel
theorem dJx4a65c_add_9ea2d_5 : decode cJx4a65c_add_9ea2d 5 = .ok (.iconst 1, 1) := by decide +kernel
theorem dJx4a65c_add_9ea2d_6 : decode cJx4a65c_add_9ea2d 6 = .ok (.iadd, 1) := by decide +kernel
theorem dJx4a65c_add_9ea2d_7 : decode cJx4a65c_add_9ea2d 7 = .ok (.putfield 63, 3) := by decide +kernel
theorem dJx4a65c_add_9ea2d_10 : decode cJx4a65c_add_9ea2d 10 = .ok (.aload_n 0, 1) := by decide +kernel
theorem dJx4a65c_add_9ea2d_11 : decode cJx4a65c_add_9ea2d 11 = .ok (.aload_n 1, 1) := by decide +kernel
theorem dJx4a65c_add_9ea2d_12 : decode cJx4a65c_add_9ea2d 12 = .ok (.aload_n 0, 1) := by decide +kernel
theorem dJx4a65c_add_9ea2d_13 : decode cJx4a65c_add_9ea2d 13 = .ok (.getfield 9, 3) := by decide +kernel
theorem dJx4a65c_add_9ea2d_16 : decode cJx4a65c_add_9ea2d 16 = .ok (.aload_n 0, 1) := by decide +kernel
theorem dJx4a65c_add_9ea2d_17 : decode cJx4a65c_add_9ea2d 17 = .ok (.getfield 48, 3) := by decide +kernel
theorem dJx4a65c_add_9ea2d_20 : decode cJx4a65c_add_9ea2d 20 = .ok (.invokevirtual 131, 3) := by decide +kernel
theorem dJx4a65c_add_9ea2d_23 : decode cJx4a65c_add_9ea2d 23 = .ok (.iconst 1, 1) := by decide +kernel
theorem dJx4a65c_add_9ea2d_24 : decode cJx4a65c_add_9ea2d 24 = .ok (.ireturn, 1) := by decide +kernel
theorem dJx4a65c_add_7a177_0 : decode cJx4a65c_add_7a177 0 = .ok (.aload_n 0, 1) := by decide +kernel
theorem dJx4a65c_add_7a177_1 : decode cJx4a65c_add_7a177 1 = .ok (.iload_n 1, 1) := by decide +kernel
theorem dJx4a65c_add_7a177_2 : decode cJx4a65c_add_7a177 2 = .ok (.invokevirtual 135, 3) := by decide +kernel
theorem dJx4a65c_add_7a177_5 : decode cJx4a65c_add_7a177 5 = .ok (.aload_n 0, 1) := by decide +kernel
theorem dJx4a65c_add_7a177_6 : decode cJx4a65c_add_7a177 6 = .ok (.dup, 1) := by decide +kernel
theorem dJx4a65c_add_7a177_7 : decode cJx4a65c_add_7a177 7 = .ok (.getfield 63, 3) := by decide +kernel
theorem dJx4a65c_add_7a177_10 : decode cJx4a65c_add_7a177 10 = .ok (.iconst 1, 1) := by decide +kernel
theorem dJx4a65c_add_7a177_11 : decode cJx4a65c_add_7a177 11 = .ok (.iadd, 1) := by decide +kernel
theorem dJx4a65c_add_7a177_12 : decode cJx4a65c_add_7a177 12 = .ok (.putfield 63, 3) := by decide +kernel
theorem dJx4a65c_add_7a177_15 : decode cJx4a65c_add_7a177 15 = .ok (.aload_n 0, 1) := by decide +kernel
theorem dJx4a65c_add_7a177_16 : decode cJx4a65c_add_7a177 16 = .ok (.getfield 48, 3) := by decide +kernel
theorem dJx4a65c_add_7a177_19 : decode cJx4a65c_add_7a177 19 = .ok (.dup, 1) := by decide +kernel
theorem dJx4a65c_add_7a177_20 : decode cJx4a65c_add_7a177 20 = .ok (.istore_n 3, 1) := by decide +kernel
theorem dJx4a65c_add_7a177_21 : decode cJx4a65c_add_7a177 21 = .ok (.aload_n 0, 1) := by decide +kernel
theorem dJx4a65c_add_7a177_22 : decode cJx4a65c_add_7a177 22 = .ok (.getfield 9, 3) := by decide +kernel
theorem dJx4a65c_add_7a177_25 : decode cJx4a65c_add_7a177 25 = .ok (.dup, 1) := by decide +kernel
theorem dJx4a65c_add_7a177_26 : decode cJx4a65c_add_7a177 26 = .ok (.astore 4, 2) := by decide +kernel
theorem dJx4a65c_add_7a177_28 : decode cJx4a65c_add_7a177 28 = .ok (.arraylength, 1) := by decide +kernel
theorem dJx4a65c_add_7a177_29 : decode cJx4a65c_add_7a177 29 = .ok (.if_icmp .ne 9, 3) := by decide +kernel
theorem dJx4a65c_add_7a177_32 : decode cJx4a65c_add_7a177 32 = .ok (.aload_n 0, 1) := by decide +kernel
theorem dJx4a65c_add_7a177_33 : decode cJx4a65c_add_7a177 33 = .ok (.invokevirtual 129, 3) := by decide +kernel
theorem dJx4a65c_add_7a177_36 : decode cJx4a65c_add_7a177 36 = .ok (.astore 4, 2) := by decide +kernel
theorem dJx4a65c_add_7a177_38 : decode cJx4a65c_add_7a177 38 = .ok (.aload 4, 2) := by decide +kernel
theorem dJx4a65c_add_7a177_40 : decode cJx4a65c_add_7a177 40 = .ok (.iload_n 1, 1) := by decide +kernel
theorem dJx4a65c_add_7a177_41 : decode cJx4a65c_add_7a177 41 = .ok (.aload 4, 2) := by decide +kernel
theorem dJx4a65c_add_7a177_43 : decode cJx4a65c_add_7a177 43 = .ok (.iload_n 1, 1) := by decide +kernel
theorem dJx4a65c_add_7a177_44 : decode cJx4a65c_add_7a177 44 = .ok (.iconst 1, 1) := by decide +kernel
theorem dJx4a65c_add_7a177_45 : decode cJx4a65c_add_7a177 45 = .ok (.iadd, 1) := by decide +kernel
theorem dJx4a65c_add_7a177_46 : decode cJx4a65c_add_7a177 46 = .ok (.iload_n 3, 1) := by decide +kernel
theorem dJx4a65c_add_7a177_47 : decode cJx4a65c_add_7a177 47 = .ok (.iload_n 1, 1) := by decide +kernel
theorem dJx4a65c_add_7a177_48 : decode cJx4a65c_add_7a177 48 = .ok (.isub, 1) := by decide +kernel
theorem dJx4a65c_add_7a177_49 : decode cJx4a65c_add_7a177 49 = .ok (.invokestatic 112, 3) := by decide +kernel
theorem dJx4a65c_add_7a177_52 : decode cJx4a65c_add_7a177 52 = .ok (.aload 4, 2) := by decide +kernel
theorem dJx4a65c_add_7a177_54 : decode cJx4a65c_add_7a177 54 = .ok (.iload_n 1, 1) := by decide +kernel
theorem dJx4a65c_add_7a177_55 : decode cJx4a65c_add_7a177 55 = .ok (.aload_n 2, 1) := by decide +kernel
theorem dJx4a65c_add_7a177_56 : decode cJx4a65c_add_7a177 56 = .ok (.aastore, 1) := by decide +kernel
theorem dJx4a65c_add_7a177_57 : decode cJx4a65c_add_7a177 57 = .ok (.aload_n 0, 1) := by decide +kernel
theorem dJx4a65c_add_7a177_58 : decode cJx4a65c_add_7a177 58 = .ok (.iload_n 3, 1) := by decide +kernel
theorem dJx4a65c_add_7a177_59 : decode cJx4a65c_add_7a177 59 = .ok (.iconst 1, 1) := by decide +kernel
theorem dJx4a65c_add_7a177_60 : decode cJx4a65c_add_7a177 60 = .ok (.iadd, 1) := by decide +kernel
theorem dJx4a65c_add_7a177_61 : decode cJx4a65c_add_7a177 61 = .ok (.putfield 48, 3) := by decide +kernel
theorem dJx4a65c_add_7a177_64 : decode cJx4a65c_add_7a177 64 = .ok (.return_, 1) := by decide +kernel
theorem dJx4a65c_remove_915e3_0 : decode cJx4a65c_remove_915e3 0 = .ok (.iload_n 1, 1) := by decide +kernel
theorem dJx4a65c_remove_915e3_1 : decode cJx4a65c_remove_915e3 1 = .ok (.aload_n 0, 1) := by decide +kernel
theorem dJx4a65c_remove_915e3_2 : decode cJx4a65c_remove_915e3 2 = .ok (.getfield 48, 3) := by decide +kernel
theorem dJx4a65c_remove_915e3_5 : decode cJx4a65c_remove_915e3 5 = .ok (.invokestatic 118, 3) := by decide +kernel
theorem dJx4a65c_remove_915e3_8 : decode cJx4a65c_remove_915e3 8 = .ok (.pop, 1) := by decide +kernel
theorem dJx4a65c_remove_915e3_9 : decode cJx4a65c_remove_915e3 9 = .ok (.aload_n 0, 1) := by decide +kernel
theorem dJx4a65c_remove_915e3_10 : decode cJx4a65c_remove_915e3 10 = .ok (.getfield 9, 3) := by decide +kernel
theorem dJx4a65c_remove_915e3_13 : decode cJx4a65c_remove_915e3 13 = .ok (.astore_n 2, 1) := by decide +kernel
theorem dJx4a65c_remove_915e3_14 : decode cJx4a65c_remove_915e3 14 = .ok (.aload_n 2, 1) := by decide +kernel
theorem dJx4a65c_remove_915e3_15 : decode cJx4a65c_remove_915e3 15 = .ok (.iload_n 1, 1) := by decide +kernel
theorem dJx4a65c_remove_915e3_16 : decode cJx4a65c_remove_915e3 16 = .ok (.aaload, 1) := by decide +kernel
theorem dJx4a65c_remove_915e3_17 : decode cJx4a65c_remove_915e3 17 = .ok (.astore_n 3, 1) := by decide +kernel
theorem dJx4a65c_remove_915e3_18 : decode cJx4a65c_remove_915e3 18 = .ok (.aload_n 0, 1) := by decide +kernel
theorem dJx4a65c_remove_915e3_19 : decode cJx4a65c_remove_915e3 19 = .ok (.aload_n 2, 1) := by decide +kernel
theorem dJx4a65c_remove_915e3_20 : decode cJx4a65c_remove_915e3 20 = .ok (.iload_n 1, 1) := by decide +kernel
theorem dJx4a65c_remove_915e3_21 : decode cJx4a65c_remove_915e3 21 = .ok (.invokevirtual 144, 3) := by decide +kernel
theorem dJx4a65c_remove_915e3_24 : decode cJx4a65c_remove_915e3 24 = .ok (.aload_n 3, 1) := by decide +kernel
theorem dJx4a65c_remove_915e3_25 : decode cJx4a65c_remove_915e3 25 = .ok (.areturn, 1) := by decide +kernel
theorem dJx4a65c_fastRemove_b59b0_0 : decode cJx4a65c_fastRemove_b59b0 0 = .ok (.aload_n 0, 1) := by decide +kernel
theorem dJx4a65c_fastRemove_b59b0_1 : decode cJx4a65c_fastRemove_b59b0 1 = .ok (.dup, 1) := by decide +kernel
theorem dJx4a65c_fastRemove_b59b0_2 : decode cJx4a65c_fastRemove_b59b0 2 = .ok (.getfield 63, 3) := by decide +kernel
theorem dJx4a65c_fastRemove_b59b0_5 : decode cJx4a65c_fastRemove_b59b0 5 = .ok (.iconst 1, 1) := by decide +kernel
theorem dJx4a65c_fastRemove_b59b0_6 : decode cJx4a65c_fastRemove_b59b0 6 = .ok (.iadd, 1) := by decide +kernel
theorem dJx4a65c_fastRemove_b59b0_7 : decode cJx4a65c_fastRemove_b59b0 7 = .ok (.putfield 63, 3) := by decide +kernel
theorem dJx4a65c_fastRemove_b59b0_10 : decode cJx4a65c_fastRemove_b59b0 10 = .ok (.aload_n 0, 1) := by decide +kernel
theorem dJx4a65c_fastRemove_b59b0_11 : decode cJx4a65c_fastRemove_b59b0 11 = .ok (.getfield 48, 3) := by decide +kernel
theorem dJx4a65c_fastRemove_b59b0_14 : decode cJx4a65c_fastRemove_b59b0 14 = .ok (.iconst 1, 1) := by decide +kernel
theorem dJx4a65c_fastRemove_b59b0_15 : decode cJx4a65c_fastRemove_b59b0 15 = .ok (.isub, 1) := by decide +kernel
theorem dJx4a65c_fastRemove_b59b0_16 : decode cJx4a65c_fastRemove_b59b0 16 = .ok (.dup, 1) := by decide +kernel
theorem dJx4a65c_fastRemove_b59b0_17 : decode cJx4a65c_fastRemove_b59b0 17 = .ok (.istore_n 3, 1) := by decide +kernel
theorem dJx4a65c_fastRemove_b59b0_18 : decode cJx4a65c_fastRemove_b59b0 18 = .ok (.iload_n 2, 1) := by decide +kernel
theorem dJx4a65c_fastRemove_b59b0_19 : decode cJx4a65c_fastRemove_b59b0 19 = .ok (.if_icmp .le 15, 3) := by decide +kernel
theorem dJx4a65c_fastRemove_b59b0_22 : decode cJx4a65c_fastRemove_b59b0 22 = .ok (.aload_n 1, 1) := by decide +kernel
theorem dJx4a65c_fastRemove_b59b0_23 : decode cJx4a65c_fastRemove_b59b0 23 = .ok (.iload_n 2, 1) := by decide +kernel
theorem dJx4a65c_fastRemove_b59b0_24 : decode cJx4a65c_fastRemove_b59b0 24 = .ok (.iconst 1, 1) := by decide +kernel
theorem dJx4a65c_fastRemove_b59b0_25 : decode cJx4a65c_fastRemove_b59b0 25 = .ok (.iadd, 1) := by decide +kernel
theorem dJx4a65c_fastRemove_b59b0_26 : decode cJx4a65c_fastRemove_b59b0 26 = .ok (.aload_n 1, 1) := by decide +kernel
theorem dJx4a65c_fastRemove_b59b0_27 : decode cJx4a65c_fastRemove_b59b0 27 = .ok (.iload_n 2, 1) := by decide +kernel
theorem dJx4a65c_fastRemove_b59b0_28 : decode cJx4a65c_fastRemove_b59b0 28 = .ok (.iload_n 3, 1) := by decide +kernel
theorem dJx4a65c_fastRemove_b59b0_29 : decode cJx4a65c_fastRemove_b59b0 29 = .ok (.iload_n 2, 1) := by decide +kernel
theorem dJx4a65c_fastRemove_b59b0_30 : decode cJx4a65c_fastRemove_b59b0 30 = .ok (.isub, 1) := by decide +kernel
theorem dJx4a65c_fastRemove_b59b0_31 : decode cJx4a65c_fastRemove_b59b0 31 = .ok (.invokestatic 112, 3) := by decide +kernel
theorem dJx4a65c_fastRemove_b59b0_34 : decode cJx4a65c_fastRemove_b59b0 34 = .ok (.aload_n 1, 1) := by decide +kernel
theorem dJx4a65c_fastRemove_b59b0_35 : decode cJx4a65c_fastRemove_b59b0 35 = .ok (.aload_n 0, 1) := by decide +kernel
theorem dJx4a65c_fastRemove_b59b0_36 : decode cJx4a65c_fastRemove_b59b0 36 = .ok (.iload_n 3, 1) := by decide +kernel
theorem dJx4a65c_fastRemove_b59b0_37 : decode cJx4a65c_fastRemove_b59b0 37 = .ok (.dup_x1, 1) := by decide +kernel
theorem dJx4a65c_fastRemove_b59b0_38 : decode cJx4a65c_fastRemove_b59b0 38 = .ok (.putfield 48, 3) := by decide +kernel
theorem dJx4a65c_fastRemove_b59b0_41 : decode cJx4a65c_fastRemove_b59b0 41 = .ok (.aconst_null, 1) := by decide +kernel
theorem dJx4a65c_fastRemove_b59b0_42 : decode cJx4a65c_fastRemove_b59b0 42 = .ok (.aastore, 1) := by decide +kernel
theorem dJx4a65c_fastRemove_b59b0_43 : decode cJx4a65c_fastRemove_b59b0 43 = .ok (.return_, 1) := by decide +kernel
theorem dJx4a65c_clear_da8c8_0 : decode cJx4a65c_clear_da8c8 0 = .ok (.aload_n 0, 1) := by decide +kernel
theorem dJx4a65c_clear_da8c8_1 : decode cJx4a65c_clear_da8c8 1 = .ok (.dup, 1) := by decide +kernel
theorem dJx4a65c_clear_da8c8_2 : decode cJx4a65c_clear_da8c8 2 = .ok (.getfield 63, 3) := by decide +kernel
theorem dJx4a65c_clear_da8c8_5 : decode cJx4a65c_clear_da8c8 5 = .ok (.iconst 1, 1) := by decide +kernel
theorem dJx4a65c_clear_da8c8_6 : decode cJx4a65c_clear_da8c8 6 = .ok (.iadd, 1) := by decide +kernel
theorem dJx4a65c_clear_da8c8_7 : decode cJx4a65c_clear_da8c8 7 = .ok (.putfield 63, 3) := by decide +kernel
theorem dJx4a65c_clear_da8c8_10 : decode cJx4a65c_clear_da8c8 10 = .ok (.aload_n 0, 1) := by decide +kernel
theorem dJx4a65c_clear_da8c8_11 : decode cJx4a65c_clear_da8c8 11 = .ok (.getfield 9, 3) := by decide +kernel
theorem dJx4a65c_clear_da8c8_14 : decode cJx4a65c_clear_da8c8 14 = .ok (.astore_n 1, 1) := by decide +kernel
theorem dJx4a65c_clear_da8c8_15 : decode cJx4a65c_clear_da8c8 15 = .ok (.aload_n 0, 1) := by decide +kernel
theorem dJx4a65c_clear_da8c8_16 : decode cJx4a65c_clear_da8c8 16 = .ok (.getfield 48, 3) := by decide +kernel
theorem dJx4a65c_clear_da8c8_19 : decode cJx4a65c_clear_da8c8 19 = .ok (.istore_n 2, 1) := by decide +kernel
theorem dJx4a65c_clear_da8c8_20 : decode cJx4a65c_clear_da8c8 20 = .ok (.aload_n 0, 1) := by decide +kernel
theorem dJx4a65c_clear_da8c8_21 : decode cJx4a65c_clear_da8c8 21 = .ok (.iconst 0, 1) := by decide +kernel
theorem dJx4a65c_clear_da8c8_22 : decode cJx4a65c_clear_da8c8 22 = .ok (.dup_x1, 1) := by decide +kernel
theorem dJx4a65c_clear_da8c8_23 : decode cJx4a65c_clear_da8c8 23 = .ok (.putfield 48, 3) := by decide +kernel
theorem dJx4a65c_clear_da8c8_26 : decode cJx4a65c_clear_da8c8 26 = .ok (.istore_n 3, 1) := by decide +kernel
theorem dJx4a65c_clear_da8c8_27 : decode cJx4a65c_clear_da8c8 27 = .ok (.iload_n 3, 1) := by decide +kernel
theorem dJx4a65c_clear_da8c8_28 : decode cJx4a65c_clear_da8c8 28 = .ok (.iload_n 2, 1) := by decide +kernel
theorem dJx4a65c_clear_da8c8_29 : decode cJx4a65c_clear_da8c8 29 = .ok (.if_icmp .ge 13, 3) := by decide +kernel
theorem dJx4a65c_clear_da8c8_32 : decode cJx4a65c_clear_da8c8 32 = .ok (.aload_n 1, 1) := by decide +kernel
theorem dJx4a65c_clear_da8c8_33 : decode cJx4a65c_clear_da8c8 33 = .ok (.iload_n 3, 1) := by decide +kernel
theorem dJx4a65c_clear_da8c8_34 : decode cJx4a65c_clear_da8c8 34 = .ok (.aconst_null, 1) := by decide +kernel
theorem dJx4a65c_clear_da8c8_35 : decode cJx4a65c_clear_da8c8 35 = .ok (.aastore, 1) := by decide +kernel
theorem dJx4a65c_clear_da8c8_36 : decode cJx4a65c_clear_da8c8 36 = .ok (.iinc 3 1, 3) := by decide +kernel
theorem dJx4a65c_clear_da8c8_39 : decode cJx4a65c_clear_da8c8 39 = .ok (.goto (-12), 3) := by decide +kernel
theorem dJx4a65c_clear_da8c8_42 : decode cJx4a65c_clear_da8c8 42 = .ok (.return_, 1) := by decide +kernel
theorem dJx4a65c_rangeCheckForAdd_d00df_0 : decode cJx4a65c_rangeCheckForAdd_d00df 0 = .ok (.iload_n 1, 1) := by decide +kernel
theorem dJx4a65c_rangeCheckForAdd_d00df_1 : decode cJx4a65c_rangeCheckForAdd_d00df 1 = .ok (.aload_n 0, 1) := by decide +kernel
theorem dJx4a65c_rangeCheckForAdd_d00df_2 : decode cJx4a65c_rangeCheckForAdd_d00df 2 = .ok (.getfield 48, 3) := by decide +kernel
theorem dJx4a65c_rangeCheckForAdd_d00df_5 : decode cJx4a65c_rangeCheckForAdd_d00df 5 = .ok (.if_icmp .gt 7, 3) := by decide +kernel
theorem dJx4a65c_rangeCheckForAdd_d00df_8 : decode cJx4a65c_rangeCheckForAdd_d00df 8 = .ok (.iload_n 1, 1) := by decide +kernel
theorem dJx4a65c_rangeCheckForAdd_d00df_9 : decode cJx4a65c_rangeCheckForAdd_d00df 9 = .ok (.ifCond .ge 16, 3) := by decide +kernel
theorem dJx4a65c_rangeCheckForAdd_d00df_12 : decode cJx4a65c_rangeCheckForAdd_d00df 12 = .ok (.new 187, 3) := by decide +kernel
theorem dJx4a65c_rangeCheckForAdd_d00df_15 : decode cJx4a65c_rangeCheckForAdd_d00df 15 = .ok (.dup, 1) := by decide +kernel
theorem dJx4a65c_rangeCheckForAdd_d00df_16 : decode cJx4a65c_rangeCheckForAdd_d00df 16 = .ok (.aload_n 0, 1) := by decide +kernel
theorem dJx4a65c_rangeCheckForAdd_d00df_17 : decode cJx4a65c_rangeCheckForAdd_d00df 17 = .ok (.iload_n 1, 1) := by decide +kernel
theorem dJx4a65c_rangeCheckForAdd_d00df_18 : decode cJx4a65c_rangeCheckForAdd_d00df 18 = .ok (.invokevirtual 198, 3) := by decide +kernel
theorem dJx4a65c_rangeCheckForAdd_d00df_21 : decode cJx4a65c_rangeCheckForAdd_d00df 21 = .ok (.invokespecial 193, 3) := by decide +kernel
theorem dJx4a65c_rangeCheckForAdd_d00df_24 : decode cJx4a65c_rangeCheckForAdd_d00df 24 = .ok (.athrow, 1) := by decide +kernel
theorem dJx4a65c_rangeCheckForAdd_d00df_25 : decode cJx4a65c_rangeCheckForAdd_d00df 25 = .ok (.return_, 1) := by decide +kernel
theorem dJ7_rangeCheck_23922_0 : decode cJ7_rangeCheck_23922 0 = .ok (.iload_n 1, 1) := by decide +kernel
theorem dJ7_rangeCheck_23922_1 : decode cJ7_rangeCheck_23922 1 = .ok (.iload_n 2, 1) := by decide +kernel
theorem dJ7_rangeCheck_23922_2 : decode cJ7_rangeCheck_23922 2 = .ok (.if_icmp .le 44, 3) := by decide +kernel
theorem dJ7_rangeCheck_23922_5 : decode cJ7_rangeCheck_23922 5 = .ok (.new 43, 3) := by decide +kernel
theorem dJ7_rangeCheck_23922_8 : decode cJ7_rangeCheck_23922 8 = .ok (.dup, 1) := by decide +kernel
theorem dJ7_rangeCheck_23922_9 : decode cJ7_rangeCheck_23922 9 = .ok (.new 45, 3) := by decide +kernel
theorem dJ7_rangeCheck_23922_12 : decode cJ7_rangeCheck_23922 12 = .ok (.dup, 1) := by decide +kernel
theorem dJ7_rangeCheck_23922_13 : decode cJ7_rangeCheck_23922 13 = .ok (.invokespecial 47, 3) := by decide +kernel
theorem dJ7_rangeCheck_23922_16 : decode cJ7_rangeCheck_23922 16 = .ok (.ldc 48, 2) := by decide +kernel
theorem dJ7_rangeCheck_23922_18 : decode cJ7_rangeCheck_23922 18 = .ok (.invokevirtual 50, 3) := by decide +kernel
theorem dJ7_rangeCheck_23922_21 : decode cJ7_rangeCheck_23922 21 = .ok (.iload_n 1, 1) := by decide +kernel
theorem dJ7_rangeCheck_23922_22 : decode cJ7_rangeCheck_23922 22 = .ok (.invokevirtual 54, 3) := by decide +kernel
theorem dJ7_rangeCheck_23922_25 : decode cJ7_rangeCheck_23922 25 = .ok (.ldc 57, 2) := by decide +kernel
theorem dJ7_rangeCheck_23922_27 : decode cJ7_rangeCheck_23922 27 = .ok (.invokevirtual 50, 3) := by decide +kernel
theorem dJ7_rangeCheck_23922_30 : decode cJ7_rangeCheck_23922 30 = .ok (.iload_n 2, 1) := by decide +kernel
theorem dJ7_rangeCheck_23922_31 : decode cJ7_rangeCheck_23922 31 = .ok (.invokevirtual 54, 3) := by decide +kernel
theorem dJ7_rangeCheck_23922_34 : decode cJ7_rangeCheck_23922 34 = .ok (.ldc 59, 2) := by decide +kernel
theorem dJ7_rangeCheck_23922_36 : decode cJ7_rangeCheck_23922 36 = .ok (.invokevirtual 50, 3) := by decide +kernel
theorem dJ7_rangeCheck_23922_39 : decode cJ7_rangeCheck_23922 39 = .ok (.invokevirtual 61, 3) := by decide +kernel
theorem dJ7_rangeCheck_23922_42 : decode cJ7_rangeCheck_23922 42 = .ok (.invokespecial 65, 3) := by decide +kernel
theorem dJ7_rangeCheck_23922_45 : decode cJ7_rangeCheck_23922 45 = .ok (.athrow, 1) := by decide +kernel
theorem dJ7_rangeCheck_23922_46 : decode cJ7_rangeCheck_23922 46 = .ok (.iload_n 1, 1) := by decide +kernel
theorem dJ7_rangeCheck_23922_47 : decode cJ7_rangeCheck_23922 47 = .ok (.ifCond .ge 12, 3) := by decide +kernel
theorem dJ7_rangeCheck_23922_50 : decode cJ7_rangeCheck_23922 50 = .ok (.new 68, 3) := by decide +kernel
theorem dJ7_rangeCheck_23922_53 : decode cJ7_rangeCheck_23922 53 = .ok (.dup, 1) := by decide +kernel
theorem dJ7_rangeCheck_23922_54 : decode cJ7_rangeCheck_23922 54 = .ok (.iload_n 1, 1) := by decide +kernel
theorem dJ7_rangeCheck_23922_55 : decode cJ7_rangeCheck_23922 55 = .ok (.invokespecial 70, 3) := by decide +kernel
theorem dJ7_rangeCheck_23922_58 : decode cJ7_rangeCheck_23922 58 = .ok (.athrow, 1) := by decide +kernel
theorem dJ7_rangeCheck_23922_59 : decode cJ7_rangeCheck_23922 59 = .ok (.iload_n 2, 1) := by decide +kernel
theorem dJ7_rangeCheck_23922_60 : decode cJ7_rangeCheck_23922 60 = .ok (.iload_n 0, 1) := by decide +kernel
theorem dJ7_rangeCheck_23922_61 : decode cJ7_rangeCheck_23922 61 = .ok (.if_icmp .le 12, 3) := by decide +kernel
theorem dJ7_rangeCheck_23922_64 : decode cJ7_rangeCheck_23922 64 = .ok (.new 68, 3) := by decide +kernel
theorem dJ7_rangeCheck_23922_67 : decode cJ7_rangeCheck_23922 67 = .ok (.dup, 1) := by decide +kernel
theorem dJ7_rangeCheck_23922_68 : decode cJ7_rangeCheck_23922 68 = .ok (.iload_n 2, 1) := by decide +kernel
theorem dJ7_rangeCheck_23922_69 : decode cJ7_rangeCheck_23922 69 = .ok (.invokespecial 70, 3) := by decide +kernel
theorem dJ7_rangeCheck_23922_72 : decode cJ7_rangeCheck_23922 72 = .ok (.athrow, 1) := by decide +kernel
theorem dJ7_rangeCheck_23922_73 : decode cJ7_rangeCheck_23922 73 = .ok (.return_, 1) := by decide +kernel
theorem dJ7_fill_eb02e_0 : decode cJ7_fill_eb02e 0 = .ok (.aload_n 0, 1) := by decide +kernel
theorem dJ7_fill_eb02e_1 : decode cJ7_fill_eb02e 1 = .ok (.arraylength, 1) := by decide +kernel
theorem dJ7_fill_eb02e_2 : decode cJ7_fill_eb02e 2 = .ok (.iload_n 1, 1) := by decide +kernel
theorem dJ7_fill_eb02e_3 : decode cJ7_fill_eb02e 3 = .ok (.iload_n 2, 1) := by decide +kernel
theorem dJ7_fill_eb02e_4 : decode cJ7_fill_eb02e 4 = .ok (.invokestatic 13, 3) := by decide +kernel
theorem dJ7_fill_eb02e_7 : decode cJ7_fill_eb02e 7 = .ok (.iload_n 1, 1) := by decide +kernel
theorem dJ7_fill_eb02e_8 : decode cJ7_fill_eb02e 8 = .ok (.istore 4, 2) := by decide +kernel
theorem dJ7_fill_eb02e_10 : decode cJ7_fill_eb02e 10 = .ok (.iload 4, 2) := by decide +kernel
theorem dJ7_fill_eb02e_12 : decode cJ7_fill_eb02e 12 = .ok (.iload_n 2, 1) := by decide +kernel
theorem dJ7_fill_eb02e_13 : decode cJ7_fill_eb02e 13 = .ok (.if_icmp .ge 14, 3) := by decide +kernel
theorem dJ7_fill_eb02e_16 : decode cJ7_fill_eb02e 16 = .ok (.aload_n 0, 1) := by decide +kernel
theorem dJ7_fill_eb02e_17 : decode cJ7_fill_eb02e 17 = .ok (.iload 4, 2) := by decide +kernel
theorem dJ7_fill_eb02e_19 : decode cJ7_fill_eb02e 19 = .ok (.iload_n 3, 1) := by decide +kernel
theorem dJ7_fill_eb02e_20 : decode cJ7_fill_eb02e 20 = .ok (.bastore, 1) := by decide +kernel
theorem dJ7_fill_eb02e_21 : decode cJ7_fill_eb02e 21 = .ok (.iinc 4 1, 3) := by decide +kernel
theorem dJ7_fill_eb02e_24 : decode cJ7_fill_eb02e 24 = .ok (.goto (-14), 3) := by decide +kernel
theorem dJ7_fill_eb02e_27 : decode cJ7_fill_eb02e 27 = .ok (.return_, 1) := by decide +kernel
theorem dJ7_copyOf_1904c_0 : decode cJ7_copyOf_1904c 0 = .ok (.aload_n 0, 1) := by decide +kernel
theorem dJ7_copyOf_1904c_1 : decode cJ7_copyOf_1904c 1 = .ok (.iload_n 1, 1) := by decide +kernel
theorem dJ7_copyOf_1904c_2 : decode cJ7_copyOf_1904c 2 = .ok (.aload_n 0, 1) := by decide +kernel
theorem dJ7_copyOf_1904c_3 : decode cJ7_copyOf_1904c 3 = .ok (.invokevirtual 86, 3) := by decide +kernel
theorem dJ7_copyOf_1904c_6 : decode cJ7_copyOf_1904c 6 = .ok (.invokestatic 300, 3) := by decide +kernel
theorem dJ7_copyOf_1904c_9 : decode cJ7_copyOf_1904c 9 = .ok (.areturn, 1) := by decide +kernel
theorem dJ7_copyOf_6403c_0 : decode cJ7_copyOf_6403c 0 = .ok (.aload_n 2, 1) := by decide +kernel
theorem dJ7_copyOf_6403c_1 : decode cJ7_copyOf_6403c 1 = .ok (.ldc 110, 2) := by decide +kernel
theorem dJ7_copyOf_6403c_3 : decode cJ7_copyOf_6403c 3 = .ok (.if_acmp .ne 10, 3) := by decide +kernel
theorem dJ7_copyOf_6403c_6 : decode cJ7_copyOf_6403c 6 = .ok (.iload_n 1, 1) := by decide +kernel
theorem dJ7_copyOf_6403c_7 : decode cJ7_copyOf_6403c 7 = .ok (.anewarray 2, 3) := by decide +kernel
theorem dJ7_copyOf_6403c_10 : decode cJ7_copyOf_6403c 10 = .ok (.goto 14, 3) := by decide +kernel
theorem dJ7_copyOf_6403c_13 : decode cJ7_copyOf_6403c 13 = .ok (.aload_n 2, 1) := by decide +kernel
theorem dJ7_copyOf_6403c_14 : decode cJ7_copyOf_6403c 14 = .ok (.invokevirtual 90, 3) := by decide +kernel
theorem dJ7_copyOf_6403c_17 : decode cJ7_copyOf_6403c 17 = .ok (.iload_n 1, 1) := by decide +kernel
theorem dJ7_copyOf_6403c_18 : decode cJ7_copyOf_6403c 18 = .ok (.invokestatic 95, 3) := by decide +kernel
theorem dJ7_copyOf_6403c_21 : decode cJ7_copyOf_6403c 21 = .ok (.checkcast 110, 3) := by decide +kernel
theorem dJ7_copyOf_6403c_24 : decode cJ7_copyOf_6403c 24 = .ok (.astore_n 3, 1) := by decide +kernel
theorem dJ7_copyOf_6403c_25 : decode cJ7_copyOf_6403c 25 = .ok (.aload_n 0, 1) := by decide +kernel
theorem dJ7_copyOf_6403c_26 : decode cJ7_copyOf_6403c 26 = .ok (.iconst 0, 1) := by decide +kernel
theorem dJ7_copyOf_6403c_27 : decode cJ7_copyOf_6403c 27 = .ok (.aload_n 3, 1) := by decide +kernel
theorem dJ7_copyOf_6403c_28 : decode cJ7_copyOf_6403c 28 = .ok (.iconst 0, 1) := by decide +kernel
theorem dJ7_copyOf_6403c_29 : decode cJ7_copyOf_6403c 29 = .ok (.aload_n 0, 1) := by decide +kernel
theorem dJ7_copyOf_6403c_30 : decode cJ7_copyOf_6403c 30 = .ok (.arraylength, 1) := by decide +kernel
theorem dJ7_copyOf_6403c_31 : decode cJ7_copyOf_6403c 31 = .ok (.iload_n 1, 1) := by decide +kernel
theorem dJ7_copyOf_6403c_32 : decode cJ7_copyOf_6403c 32 = .ok (.invokestatic 304, 3) := by decide +kernel
theorem dJ7_copyOf_6403c_35 : decode cJ7_copyOf_6403c 35 = .ok (.invokestatic 150, 3) := by decide +kernel
theorem dJ7_copyOf_6403c_38 : decode cJ7_copyOf_6403c 38 = .ok (.aload_n 3, 1) := by decide +kernel
theorem dJ7_copyOf_6403c_39 : decode cJ7_copyOf_6403c 39 = .ok (.areturn, 1) := by decide +kernel
theorem dJ7_copyOf_9075b_0 : decode cJ7_copyOf_9075b 0 = .ok (.iload_n 1, 1) := by decide +kernel
theorem dJ7_copyOf_9075b_1 : decode cJ7_copyOf_9075b 1 = .ok (.aload_n 0, 1) := by decide +kernel
theorem dJ7_copyOf_9075b_2 : decode cJ7_copyOf_9075b 2 = .ok (.arraylength, 1) := by decide +kernel
theorem dJ7_copyOf_9075b_3 : decode cJ7_copyOf_9075b 3 = .ok (.if_icmp .ne 11, 3) := by decide +kernel
theorem dJ7_copyOf_9075b_6 : decode cJ7_copyOf_9075b 6 = .ok (.aload_n 0, 1) := by decide +kernel
theorem dJ7_copyOf_9075b_7 : decode cJ7_copyOf_9075b 7 = .ok (.invokevirtual 310, 3) := by decide +kernel
theorem dJ7_copyOf_9075b_10 : decode cJ7_copyOf_9075b 10 = .ok (.checkcast 311, 3) := by decide +kernel
theorem dJ7_copyOf_9075b_13 : decode cJ7_copyOf_9075b 13 = .ok (.areturn, 1) := by decide +kernel
theorem dJ7_copyOf_9075b_14 : decode cJ7_copyOf_9075b 14 = .ok (.iload_n 1, 1) := by decide +kernel
theorem dJ7_copyOf_9075b_15 : decode cJ7_copyOf_9075b 15 = .ok (.newarray .byte, 2) := by decide +kernel
theorem dJ7_copyOf_9075b_17 : decode cJ7_copyOf_9075b 17 = .ok (.astore_n 2, 1) := by decide +kernel
theorem dJ7_copyOf_9075b_18 : decode cJ7_copyOf_9075b 18 = .ok (.aload_n 0, 1) := by decide +kernel
theorem dJ7_copyOf_9075b_19 : decode cJ7_copyOf_9075b 19 = .ok (.iconst 0, 1) := by decide +kernel
theorem dJ7_copyOf_9075b_20 : decode cJ7_copyOf_9075b 20 = .ok (.aload_n 2, 1) := by decide +kernel
theorem dJ7_copyOf_9075b_21 : decode cJ7_copyOf_9075b 21 = .ok (.iconst 0, 1) := by decide +kernel
theorem dJ7_copyOf_9075b_22 : decode cJ7_copyOf_9075b 22 = .ok (.aload_n 0, 1) := by decide +kernel
theorem dJ7_copyOf_9075b_23 : decode cJ7_copyOf_9075b 23 = .ok (.arraylength, 1) := by decide +kernel
theorem dJ7_copyOf_9075b_24 : decode cJ7_copyOf_9075b 24 = .ok (.iload_n 1, 1) := by decide +kernel
theorem dJ7_copyOf_9075b_25 : decode cJ7_copyOf_9075b 25 = .ok (.invokestatic 304, 3) := by decide +kernel
theorem dJ7_copyOf_9075b_28 : decode cJ7_copyOf_9075b 28 = .ok (.invokestatic 150, 3) := by decide +kernel
theorem dJ7_copyOf_9075b_31 : decode cJ7_copyOf_9075b 31 = .ok (.aload_n 2, 1) := by decide +kernel
theorem dJ7_copyOf_9075b_32 : decode cJ7_copyOf_9075b 32 = .ok (.areturn, 1) := by decide +kernel
theorem dJ15_checkIndex_7cf53_0 : decode cJ15_checkIndex_7cf53 0 = .ok (.iload_n 0, 1) := by decide +kernel
theorem dJ15_checkIndex_7cf53_1 : decode cJ15_checkIndex_7cf53 1 = .ok (.iload_n 1, 1) := by decide +kernel
theorem dJ15_checkIndex_7cf53_2 : decode cJ15_checkIndex_7cf53 2 = .ok (.aconst_null, 1) := by decide +kernel
theorem dJ15_checkIndex_7cf53_3 : decode cJ15_checkIndex_7cf53 3 = .ok (.invokestatic 105, 3) := by decide +kernel
theorem dJ15_checkIndex_7cf53_6 : decode cJ15_checkIndex_7cf53 6 = .ok (.ireturn, 1) := by decide +kernel
theorem dJ8_newLength_cabcc_0 : decode cJ8_newLength_cabcc 0 = .ok (.iload_n 0, 1) := by decide +kernel
theorem dJ8_newLength_cabcc_1 : decode cJ8_newLength_cabcc 1 = .ok (.iload_n 1, 1) := by decide +kernel
theorem dJ8_newLength_cabcc_2 : decode cJ8_newLength_cabcc 2 = .ok (.iload_n 2, 1) := by decide +kernel
theorem dJ8_newLength_cabcc_3 : decode cJ8_newLength_cabcc 3 = .ok (.invokestatic 194, 3) := by decide +kernel
theorem dJ8_newLength_cabcc_6 : decode cJ8_newLength_cabcc 6 = .ok (.iadd, 1) := by decide +kernel
theorem dJ8_newLength_cabcc_7 : decode cJ8_newLength_cabcc 7 = .ok (.istore_n 3, 1) := by decide +kernel
theorem dJ8_newLength_cabcc_8 : decode cJ8_newLength_cabcc 8 = .ok (.iconst 0, 1) := by decide +kernel
theorem dJ8_newLength_cabcc_9 : decode cJ8_newLength_cabcc 9 = .ok (.iload_n 3, 1) := by decide +kernel
theorem dJ8_newLength_cabcc_10 : decode cJ8_newLength_cabcc 10 = .ok (.if_icmp .ge 11, 3) := by decide +kernel
theorem dJ8_newLength_cabcc_13 : decode cJ8_newLength_cabcc 13 = .ok (.iload_n 3, 1) := by decide +kernel
theorem dJ8_newLength_cabcc_14 : decode cJ8_newLength_cabcc 14 = .ok (.ldc 200, 2) := by decide +kernel
theorem dJ8_newLength_cabcc_16 : decode cJ8_newLength_cabcc 16 = .ok (.if_icmp .gt 5, 3) := by decide +kernel
theorem dJ8_newLength_cabcc_19 : decode cJ8_newLength_cabcc 19 = .ok (.iload_n 3, 1) := by decide +kernel
theorem dJ8_newLength_cabcc_20 : decode cJ8_newLength_cabcc 20 = .ok (.ireturn, 1) := by decide +kernel
theorem dJ8_newLength_cabcc_21 : decode cJ8_newLength_cabcc 21 = .ok (.iload_n 0, 1) := by decide +kernel
theorem dJ8_newLength_cabcc_22 : decode cJ8_newLength_cabcc 22 = .ok (.iload_n 1, 1) := by decide +kernel
theorem dJ8_newLength_cabcc_23 : decode cJ8_newLength_cabcc 23 = .ok (.invokestatic 201, 3) := by decide +kernel
theorem dJ8_newLength_cabcc_26 : decode cJ8_newLength_cabcc 26 = .ok (.ireturn, 1) := by decide +kernel
theorem dJ8_hugeLength_7cf53_0 : decode cJ8_hugeLength_7cf53 0 = .ok (.iload_n 0, 1) := by decide +kernel
theorem dJ8_hugeLength_7cf53_1 : decode cJ8_hugeLength_7cf53 1 = .ok (.iload_n 1, 1) := by decide +kernel
theorem dJ8_hugeLength_7cf53_2 : decode cJ8_hugeLength_7cf53 2 = .ok (.iadd, 1) := by decide +kernel
theorem dJ8_hugeLength_7cf53_3 : decode cJ8_hugeLength_7cf53 3 = .ok (.istore_n 2, 1) := by decide +kernel
theorem dJ8_hugeLength_7cf53_4 : decode cJ8_hugeLength_7cf53 4 = .ok (.iload_n 2, 1) := by decide +kernel
theorem dJ8_hugeLength_7cf53_5 : decode cJ8_hugeLength_7cf53 5 = .ok (.ifCond .ge 44, 3) := by decide +kernel
theorem dJ8_hugeLength_7cf53_8 : decode cJ8_hugeLength_7cf53 8 = .ok (.new 204, 3) := by decide +kernel
theorem dJ8_hugeLength_7cf53_11 : decode cJ8_hugeLength_7cf53 11 = .ok (.dup, 1) := by decide +kernel
theorem dJ8_hugeLength_7cf53_12 : decode cJ8_hugeLength_7cf53 12 = .ok (.new 89, 3) := by decide +kernel
theorem dJ8_hugeLength_7cf53_15 : decode cJ8_hugeLength_7cf53 15 = .ok (.dup, 1) := by decide +kernel
theorem dJ8_hugeLength_7cf53_16 : decode cJ8_hugeLength_7cf53 16 = .ok (.invokespecial 91, 3) := by decide +kernel
theorem dJ8_hugeLength_7cf53_19 : decode cJ8_hugeLength_7cf53 19 = .ok (.ldc 206, 2) := by decide +kernel
theorem dJ8_hugeLength_7cf53_21 : decode cJ8_hugeLength_7cf53 21 = .ok (.invokevirtual 94, 3) := by decide +kernel
theorem dJ8_hugeLength_7cf53_24 : decode cJ8_hugeLength_7cf53 24 = .ok (.iload_n 0, 1) := by decide +kernel
theorem dJ8_hugeLength_7cf53_25 : decode cJ8_hugeLength_7cf53 25 = .ok (.invokevirtual 98, 3) := by decide +kernel
theorem dJ8_hugeLength_7cf53_28 : decode cJ8_hugeLength_7cf53 28 = .ok (.ldc 208, 2) := by decide +kernel
theorem dJ8_hugeLength_7cf53_30 : decode cJ8_hugeLength_7cf53 30 = .ok (.invokevirtual 94, 3) := by decide +kernel
theorem dJ8_hugeLength_7cf53_33 : decode cJ8_hugeLength_7cf53 33 = .ok (.iload_n 1, 1) := by decide +kernel
theorem dJ8_hugeLength_7cf53_34 : decode cJ8_hugeLength_7cf53 34 = .ok (.invokevirtual 98, 3) := by decide +kernel
theorem dJ8_hugeLength_7cf53_37 : decode cJ8_hugeLength_7cf53 37 = .ok (.ldc 210, 2) := by decide +kernel
theorem dJ8_hugeLength_7cf53_39 : decode cJ8_hugeLength_7cf53 39 = .ok (.invokevirtual 94, 3) := by decide +kernel
theorem dJ8_hugeLength_7cf53_42 : decode cJ8_hugeLength_7cf53 42 = .ok (.invokevirtual 101, 3) := by decide +kernel
theorem dJ8_hugeLength_7cf53_45 : decode cJ8_hugeLength_7cf53 45 = .ok (.invokespecial 212, 3) := by decide +kernel
theorem dJ8_hugeLength_7cf53_48 : decode cJ8_hugeLength_7cf53 48 = .ok (.athrow, 1) := by decide +kernel
theorem dJ8_hugeLength_7cf53_49 : decode cJ8_hugeLength_7cf53 49 = .ok (.iload_n 2, 1) := by decide +kernel
theorem dJ8_hugeLength_7cf53_50 : decode cJ8_hugeLength_7cf53 50 = .ok (.ldc 200, 2) := by decide +kernel
theorem dJ8_hugeLength_7cf53_52 : decode cJ8_hugeLength_7cf53 52 = .ok (.if_icmp .gt 6, 3) := by decide +kernel
theorem dJ8_hugeLength_7cf53_55 : decode cJ8_hugeLength_7cf53 55 = .ok (.ldc 200, 2) := by decide +kernel
theorem dJ8_hugeLength_7cf53_57 : decode cJ8_hugeLength_7cf53 57 = .ok (.ireturn, 1) := by decide +kernel
theorem dJ8_hugeLength_7cf53_58 : decode cJ8_hugeLength_7cf53 58 = .ok (.iload_n 2, 1) := by decide +kernel
theorem dJ8_hugeLength_7cf53_59 : decode cJ8_hugeLength_7cf53 59 = .ok (.ireturn, 1) := by decide +kernel
theorem dJ3_checkIndex_8e157_0 : decode cJ3_checkIndex_8e157 0 = .ok (.iload_n 0, 1) := by decide +kernel
theorem dJ3_checkIndex_8e157_1 : decode cJ3_checkIndex_8e157 1 = .ok (.ifCond .lt 8, 3) := by decide +kernel
theorem dJ3_checkIndex_8e157_4 : decode cJ3_checkIndex_8e157 4 = .ok (.iload_n 0, 1) := by decide +kernel
theorem dJ3_checkIndex_8e157_5 : decode cJ3_checkIndex_8e157 5 = .ok (.iload_n 1, 1) := by decide +kernel
theorem dJ3_checkIndex_8e157_6 : decode cJ3_checkIndex_8e157 6 = .ok (.if_icmp .lt 10, 3) := by decide +kernel
theorem dJ3_checkIndex_8e157_9 : decode cJ3_checkIndex_8e157 9 = .ok (.aload_n 2, 1) := by decide +kernel
theorem dJ3_checkIndex_8e157_10 : decode cJ3_checkIndex_8e157 10 = .ok (.iload_n 0, 1) := by decide +kernel
theorem dJ3_checkIndex_8e157_11 : decode cJ3_checkIndex_8e157 11 = .ok (.iload_n 1, 1) := by decide +kernel
theorem dJ3_checkIndex_8e157_12 : decode cJ3_checkIndex_8e157 12 = .ok (.invokestatic 95, 3) := by decide +kernel
theorem dJ3_checkIndex_8e157_15 : decode cJ3_checkIndex_8e157 15 = .ok (.athrow, 1) := by decide +kernel
theorem dJ3_checkIndex_8e157_16 : decode cJ3_checkIndex_8e157 16 = .ok (.iload_n 0, 1) := by decide +kernel
theorem dJ3_checkIndex_8e157_17 : decode cJ3_checkIndex_8e157 17 = .ok (.ireturn, 1) := by decide +kernel
theorem dJ3_checkFromIndexSize_8c36e_0 : decode cJ3_checkFromIndexSize_8c36e 0 = .ok (.iload_n 2, 1) := by decide +kernel
theorem dJ3_checkFromIndexSize_8c36e_1 : decode cJ3_checkFromIndexSize_8c36e 1 = .ok (.iload_n 0, 1) := by decide +kernel
theorem dJ3_checkFromIndexSize_8c36e_2 : decode cJ3_checkFromIndexSize_8c36e 2 = .ok (.ior, 1) := by decide +kernel
theorem dJ3_checkFromIndexSize_8c36e_3 : decode cJ3_checkFromIndexSize_8c36e 3 = .ok (.iload_n 1, 1) := by decide +kernel
theorem dJ3_checkFromIndexSize_8c36e_4 : decode cJ3_checkFromIndexSize_8c36e 4 = .ok (.ior, 1) := by decide +kernel
theorem dJ3_checkFromIndexSize_8c36e_5 : decode cJ3_checkFromIndexSize_8c36e 5 = .ok (.ifCond .lt 10, 3) := by decide +kernel
theorem dJ3_checkFromIndexSize_8c36e_8 : decode cJ3_checkFromIndexSize_8c36e 8 = .ok (.iload_n 1, 1) := by decide +kernel
theorem dJ3_checkFromIndexSize_8c36e_9 : decode cJ3_checkFromIndexSize_8c36e 9 = .ok (.iload_n 2, 1) := by decide +kernel
theorem dJ3_checkFromIndexSize_8c36e_10 : decode cJ3_checkFromIndexSize_8c36e 10 = .ok (.iload_n 0, 1) := by decide +kernel
theorem dJ3_checkFromIndexSize_8c36e_11 : decode cJ3_checkFromIndexSize_8c36e 11 = .ok (.isub, 1) := by decide +kernel
theorem dJ3_checkFromIndexSize_8c36e_12 : decode cJ3_checkFromIndexSize_8c36e 12 = .ok (.if_icmp .le 11, 3) := by decide +kernel
theorem dJ3_checkFromIndexSize_8c36e_15 : decode cJ3_checkFromIndexSize_8c36e 15 = .ok (.aload_n 3, 1) := by decide +kernel
theorem dJ3_checkFromIndexSize_8c36e_16 : decode cJ3_checkFromIndexSize_8c36e 16 = .ok (.iload_n 0, 1) := by decide +kernel
theorem dJ3_checkFromIndexSize_8c36e_17 : decode cJ3_checkFromIndexSize_8c36e 17 = .ok (.iload_n 1, 1) := by decide +kernel
theorem dJ3_checkFromIndexSize_8c36e_18 : decode cJ3_checkFromIndexSize_8c36e 18 = .ok (.iload_n 2, 1) := by decide +kernel
theorem dJ3_checkFromIndexSize_8c36e_19 : decode cJ3_checkFromIndexSize_8c36e 19 = .ok (.invokestatic 103, 3) := by decide +kernel
theorem dJ3_checkFromIndexSize_8c36e_22 : decode cJ3_checkFromIndexSize_8c36e 22 = .ok (.athrow, 1) := by decide +kernel
theorem dJ3_checkFromIndexSize_8c36e_23 : decode cJ3_checkFromIndexSize_8c36e 23 = .ok (.iload_n 0, 1) := by decide +kernel
theorem dJ3_checkFromIndexSize_8c36e_24 : decode cJ3_checkFromIndexSize_8c36e 24 = .ok (.ireturn, 1) := by decide +kernel
