theorem dX0_init_0 : decode cX0_init 0 = .ok (.aload_n 0, 1) := by decide +kernel
theorem dX0_init_1 : decode cX0_init 1 = .ok (.invokespecial 1, 3) := by decide +kernel
theorem dX0_init_4 : decode cX0_init 4 = .ok (.aload_n 0, 1) := by decide +kernel
theorem dX0_init_5 : decode cX0_init 5 = .ok (.sipush 200, 3) := by decide +kernel
theorem dX0_init_8 : decode cX0_init 8 = .ok (.newarray .int, 2) := by decide +kernel
theorem dX0_init_10 : decode cX0_init 10 = .ok (.putfield 9, 3) := by decide +kernel
theorem dX0_init_13 : decode cX0_init 13 = .ok (.aload_n 0, 1) := by decide +kernel
theorem dX0_init_14 : decode cX0_init 14 = .ok (.sipush 201, 3) := by decide +kernel
theorem dX0_init_17 : decode cX0_init 17 = .ok (.newarray .long, 2) := by decide +kernel
theorem dX0_init_19 : decode cX0_init 19 = .ok (.putfield 13, 3) := by decide +kernel
theorem dX0_init_22 : decode cX0_init 22 = .ok (.aload_n 0, 1) := by decide +kernel
theorem dX0_init_23 : decode cX0_init 23 = .ok (.sipush 201, 3) := by decide +kernel
theorem dX0_init_26 : decode cX0_init 26 = .ok (.newarray .long, 2) := by decide +kernel
theorem dX0_init_28 : decode cX0_init 28 = .ok (.putfield 17, 3) := by decide +kernel
theorem dX0_init_31 : decode cX0_init 31 = .ok (.aload_n 0, 1) := by decide +kernel
theorem dX0_init_32 : decode cX0_init 32 = .ok (.iconst 0, 1) := by decide +kernel
theorem dX0_init_33 : decode cX0_init 33 = .ok (.putfield 20, 3) := by decide +kernel
theorem dX0_init_36 : decode cX0_init 36 = .ok (.aload_n 0, 1) := by decide +kernel
theorem dX0_init_37 : decode cX0_init 37 = .ok (.iconst 0, 1) := by decide +kernel
theorem dX0_init_38 : decode cX0_init 38 = .ok (.putfield 24, 3) := by decide +kernel
theorem dX0_init_41 : decode cX0_init 41 = .ok (.aload_n 0, 1) := by decide +kernel
theorem dX0_init_42 : decode cX0_init 42 = .ok (.getfield 13, 3) := by decide +kernel
theorem dX0_init_45 : decode cX0_init 45 = .ok (.iconst 0, 1) := by decide +kernel
theorem dX0_init_46 : decode cX0_init 46 = .ok (.invokestatic 27, 3) := by decide +kernel
theorem dX0_init_49 : decode cX0_init 49 = .ok (.lastore, 1) := by decide +kernel
theorem dX0_init_50 : decode cX0_init 50 = .ok (.return_, 1) := by decide +kernel
theorem dX0_latest_0 : decode cX0_latest 0 = .ok (.aload_n 0, 1) := by decide +kernel
theorem dX0_latest_1 : decode cX0_latest 1 = .ok (.getfield 13, 3) := by decide +kernel
theorem dX0_latest_4 : decode cX0_latest 4 = .ok (.aload_n 0, 1) := by decide +kernel
theorem dX0_latest_5 : decode cX0_latest 5 = .ok (.getfield 20, 3) := by decide +kernel
theorem dX0_latest_8 : decode cX0_latest 8 = .ok (.laload, 1) := by decide +kernel
theorem dX0_latest_9 : decode cX0_latest 9 = .ok (.lreturn, 1) := by decide +kernel
theorem dX0_codeAt_0 : decode cX0_codeAt 0 = .ok (.iload_n 1, 1) := by decide +kernel
theorem dX0_codeAt_1 : decode cX0_codeAt 1 = .ok (.ifCond .lt 20, 3) := by decide +kernel
theorem dX0_codeAt_4 : decode cX0_codeAt 4 = .ok (.iload_n 1, 1) := by decide +kernel
theorem dX0_codeAt_5 : decode cX0_codeAt 5 = .ok (.aload_n 0, 1) := by decide +kernel
theorem dX0_codeAt_6 : decode cX0_codeAt 6 = .ok (.getfield 20, 3) := by decide +kernel
theorem dX0_codeAt_9 : decode cX0_codeAt 9 = .ok (.if_icmp .ge 12, 3) := by decide +kernel
theorem dX0_codeAt_12 : decode cX0_codeAt 12 = .ok (.aload_n 0, 1) := by decide +kernel
theorem dX0_codeAt_13 : decode cX0_codeAt 13 = .ok (.getfield 9, 3) := by decide +kernel
theorem dX0_codeAt_16 : decode cX0_codeAt 16 = .ok (.iload_n 1, 1) := by decide +kernel
theorem dX0_codeAt_17 : decode cX0_codeAt 17 = .ok (.iaload, 1) := by decide +kernel
theorem dX0_codeAt_18 : decode cX0_codeAt 18 = .ok (.goto 4, 3) := by decide +kernel
theorem dX0_codeAt_21 : decode cX0_codeAt 21 = .ok (.iconst 0, 1) := by decide +kernel
theorem dX0_codeAt_22 : decode cX0_codeAt 22 = .ok (.ireturn, 1) := by decide +kernel
theorem dX0_add_0 : decode cX0_add 0 = .ok (.aload_n 0, 1) := by decide +kernel
theorem dX0_add_1 : decode cX0_add 1 = .ok (.getfield 20, 3) := by decide +kernel
theorem dX0_add_4 : decode cX0_add 4 = .ok (.sipush 200, 3) := by decide +kernel
theorem dX0_add_7 : decode cX0_add 7 = .ok (.if_icmp .lt 4, 3) := by decide +kernel
theorem dX0_add_10 : decode cX0_add 10 = .ok (.return_, 1) := by decide +kernel
theorem dX0_add_11 : decode cX0_add 11 = .ok (.aload_n 0, 1) := by decide +kernel
theorem dX0_add_12 : decode cX0_add 12 = .ok (.getfield 9, 3) := by decide +kernel
theorem dX0_add_15 : decode cX0_add 15 = .ok (.aload_n 0, 1) := by decide +kernel
theorem dX0_add_16 : decode cX0_add 16 = .ok (.getfield 20, 3) := by decide +kernel
theorem dX0_add_19 : decode cX0_add 19 = .ok (.iload_n 1, 1) := by decide +kernel
theorem dX0_add_20 : decode cX0_add 20 = .ok (.iastore, 1) := by decide +kernel
theorem dX0_add_21 : decode cX0_add 21 = .ok (.aload_n 0, 1) := by decide +kernel
theorem dX0_add_22 : decode cX0_add 22 = .ok (.dup, 1) := by decide +kernel
theorem dX0_add_23 : decode cX0_add 23 = .ok (.getfield 20, 3) := by decide +kernel
theorem dX0_add_26 : decode cX0_add 26 = .ok (.iconst 1, 1) := by decide +kernel
theorem dX0_add_27 : decode cX0_add 27 = .ok (.iadd, 1) := by decide +kernel
theorem dX0_add_28 : decode cX0_add 28 = .ok (.putfield 20, 3) := by decide +kernel
theorem dX0_add_31 : decode cX0_add 31 = .ok (.aload_n 0, 1) := by decide +kernel
theorem dX0_add_32 : decode cX0_add 32 = .ok (.getfield 13, 3) := by decide +kernel
theorem dX0_add_35 : decode cX0_add 35 = .ok (.aload_n 0, 1) := by decide +kernel
theorem dX0_add_36 : decode cX0_add 36 = .ok (.getfield 20, 3) := by decide +kernel
theorem dX0_add_39 : decode cX0_add 39 = .ok (.lload_n 2, 1) := by decide +kernel
theorem dX0_add_40 : decode cX0_add 40 = .ok (.lastore, 1) := by decide +kernel
theorem dX0_add_41 : decode cX0_add 41 = .ok (.aload_n 0, 1) := by decide +kernel
theorem dX0_add_42 : decode cX0_add 42 = .ok (.aload_n 0, 1) := by decide +kernel
theorem dX0_add_43 : decode cX0_add 43 = .ok (.getfield 20, 3) := by decide +kernel
theorem dX0_add_46 : decode cX0_add 46 = .ok (.putfield 24, 3) := by decide +kernel
theorem dX0_add_49 : decode cX0_add 49 = .ok (.return_, 1) := by decide +kernel
theorem dX0_stepBack_0 : decode cX0_stepBack 0 = .ok (.aload_n 0, 1) := by decide +kernel
theorem dX0_stepBack_1 : decode cX0_stepBack 1 = .ok (.getfield 20, 3) := by decide +kernel
theorem dX0_stepBack_4 : decode cX0_stepBack 4 = .ok (.ifCond .ne 5, 3) := by decide +kernel
theorem dX0_stepBack_7 : decode cX0_stepBack 7 = .ok (.iconst 0, 1) := by decide +kernel
theorem dX0_stepBack_8 : decode cX0_stepBack 8 = .ok (.ireturn, 1) := by decide +kernel
theorem dX0_stepBack_9 : decode cX0_stepBack 9 = .ok (.aload_n 0, 1) := by decide +kernel
theorem dX0_stepBack_10 : decode cX0_stepBack 10 = .ok (.dup, 1) := by decide +kernel
theorem dX0_stepBack_11 : decode cX0_stepBack 11 = .ok (.getfield 20, 3) := by decide +kernel
theorem dX0_stepBack_14 : decode cX0_stepBack 14 = .ok (.iconst 1, 1) := by decide +kernel
theorem dX0_stepBack_15 : decode cX0_stepBack 15 = .ok (.isub, 1) := by decide +kernel
theorem dX0_stepBack_16 : decode cX0_stepBack 16 = .ok (.putfield 20, 3) := by decide +kernel
theorem dX0_stepBack_19 : decode cX0_stepBack 19 = .ok (.iconst 1, 1) := by decide +kernel
theorem dX0_stepBack_20 : decode cX0_stepBack 20 = .ok (.ireturn, 1) := by decide +kernel
theorem dX0_stepAgain_0 : decode cX0_stepAgain 0 = .ok (.aload_n 0, 1) := by decide +kernel
theorem dX0_stepAgain_1 : decode cX0_stepAgain 1 = .ok (.getfield 20, 3) := by decide +kernel
theorem dX0_stepAgain_4 : decode cX0_stepAgain 4 = .ok (.aload_n 0, 1) := by decide +kernel
theorem dX0_stepAgain_5 : decode cX0_stepAgain 5 = .ok (.getfield 24, 3) := by decide +kernel
theorem dX0_stepAgain_8 : decode cX0_stepAgain 8 = .ok (.if_icmp .lt 5, 3) := by decide +kernel
theorem dX0_stepAgain_11 : decode cX0_stepAgain 11 = .ok (.iconst 0, 1) := by decide +kernel
theorem dX0_stepAgain_12 : decode cX0_stepAgain 12 = .ok (.ireturn, 1) := by decide +kernel
theorem dX0_stepAgain_13 : decode cX0_stepAgain 13 = .ok (.aload_n 0, 1) := by decide +kernel
theorem dX0_stepAgain_14 : decode cX0_stepAgain 14 = .ok (.dup, 1) := by decide +kernel
theorem dX0_stepAgain_15 : decode cX0_stepAgain 15 = .ok (.getfield 20, 3) := by decide +kernel
theorem dX0_stepAgain_18 : decode cX0_stepAgain 18 = .ok (.iconst 1, 1) := by decide +kernel
theorem dX0_stepAgain_19 : decode cX0_stepAgain 19 = .ok (.iadd, 1) := by decide +kernel
theorem dX0_stepAgain_20 : decode cX0_stepAgain 20 = .ok (.putfield 20, 3) := by decide +kernel
theorem dX0_stepAgain_23 : decode cX0_stepAgain 23 = .ok (.iconst 1, 1) := by decide +kernel
theorem dX0_stepAgain_24 : decode cX0_stepAgain 24 = .ok (.ireturn, 1) := by decide +kernel
theorem dX0_clear_0 : decode cX0_clear 0 = .ok (.aload_n 0, 1) := by decide +kernel
theorem dX0_clear_1 : decode cX0_clear 1 = .ok (.iconst 0, 1) := by decide +kernel
theorem dX0_clear_2 : decode cX0_clear 2 = .ok (.putfield 20, 3) := by decide +kernel
theorem dX0_clear_5 : decode cX0_clear 5 = .ok (.aload_n 0, 1) := by decide +kernel
theorem dX0_clear_6 : decode cX0_clear 6 = .ok (.iconst 0, 1) := by decide +kernel
theorem dX0_clear_7 : decode cX0_clear 7 = .ok (.putfield 24, 3) := by decide +kernel
theorem dX0_clear_10 : decode cX0_clear 10 = .ok (.return_, 1) := by decide +kernel
theorem dX0_copyFrom_0 : decode cX0_copyFrom 0 = .ok (.aload_n 0, 1) := by decide +kernel
theorem dX0_copyFrom_1 : decode cX0_copyFrom 1 = .ok (.aload_n 1, 1) := by decide +kernel
theorem dX0_copyFrom_2 : decode cX0_copyFrom 2 = .ok (.getfield 20, 3) := by decide +kernel
theorem dX0_copyFrom_5 : decode cX0_copyFrom 5 = .ok (.putfield 20, 3) := by decide +kernel
theorem dX0_copyFrom_8 : decode cX0_copyFrom 8 = .ok (.aload_n 0, 1) := by decide +kernel
theorem dX0_copyFrom_9 : decode cX0_copyFrom 9 = .ok (.aload_n 1, 1) := by decide +kernel
theorem dX0_copyFrom_10 : decode cX0_copyFrom 10 = .ok (.getfield 20, 3) := by decide +kernel
theorem dX0_copyFrom_13 : decode cX0_copyFrom 13 = .ok (.putfield 24, 3) := by decide +kernel
theorem dX0_copyFrom_16 : decode cX0_copyFrom 16 = .ok (.aload_n 1, 1) := by decide +kernel
theorem dX0_copyFrom_17 : decode cX0_copyFrom 17 = .ok (.getfield 9, 3) := by decide +kernel
theorem dX0_copyFrom_20 : decode cX0_copyFrom 20 = .ok (.iconst 0, 1) := by decide +kernel
theorem dX0_copyFrom_21 : decode cX0_copyFrom 21 = .ok (.aload_n 0, 1) := by decide +kernel
theorem dX0_copyFrom_22 : decode cX0_copyFrom 22 = .ok (.getfield 9, 3) := by decide +kernel
theorem dX0_copyFrom_25 : decode cX0_copyFrom 25 = .ok (.iconst 0, 1) := by decide +kernel
theorem dX0_copyFrom_26 : decode cX0_copyFrom 26 = .ok (.aload_n 0, 1) := by decide +kernel
theorem dX0_copyFrom_27 : decode cX0_copyFrom 27 = .ok (.getfield 20, 3) := by decide +kernel
theorem dX0_copyFrom_30 : decode cX0_copyFrom 30 = .ok (.invokestatic 33, 3) := by decide +kernel
theorem dX0_copyFrom_33 : decode cX0_copyFrom 33 = .ok (.aload_n 1, 1) := by decide +kernel
theorem dX0_copyFrom_34 : decode cX0_copyFrom 34 = .ok (.getfield 13, 3) := by decide +kernel
theorem dX0_copyFrom_37 : decode cX0_copyFrom 37 = .ok (.iconst 0, 1) := by decide +kernel
theorem dX0_copyFrom_38 : decode cX0_copyFrom 38 = .ok (.aload_n 0, 1) := by decide +kernel
theorem dX0_copyFrom_39 : decode cX0_copyFrom 39 = .ok (.getfield 13, 3) := by decide +kernel
theorem dX0_copyFrom_42 : decode cX0_copyFrom 42 = .ok (.iconst 0, 1) := by decide +kernel
theorem dX0_copyFrom_43 : decode cX0_copyFrom 43 = .ok (.aload_n 0, 1) := by decide +kernel
theorem dX0_copyFrom_44 : decode cX0_copyFrom 44 = .ok (.getfield 20, 3) := by decide +kernel
theorem dX0_copyFrom_47 : decode cX0_copyFrom 47 = .ok (.iconst 1, 1) := by decide +kernel
theorem dX0_copyFrom_48 : decode cX0_copyFrom 48 = .ok (.iadd, 1) := by decide +kernel
theorem dX0_copyFrom_49 : decode cX0_copyFrom 49 = .ok (.invokestatic 33, 3) := by decide +kernel
theorem dX0_copyFrom_52 : decode cX0_copyFrom 52 = .ok (.return_, 1) := by decide +kernel
theorem dX0_unlike_0 : decode cX0_unlike 0 = .ok (.iconst 0, 1) := by decide +kernel
theorem dX0_unlike_1 : decode cX0_unlike 1 = .ok (.istore_n 2, 1) := by decide +kernel
theorem dX0_unlike_2 : decode cX0_unlike 2 = .ok (.iconst 0, 1) := by decide +kernel
theorem dX0_unlike_3 : decode cX0_unlike 3 = .ok (.istore_n 3, 1) := by decide +kernel
theorem dX0_unlike_4 : decode cX0_unlike 4 = .ok (.iload_n 3, 1) := by decide +kernel
theorem dX0_unlike_5 : decode cX0_unlike 5 = .ok (.aload_n 0, 1) := by decide +kernel
theorem dX0_unlike_6 : decode cX0_unlike 6 = .ok (.getfield 20, 3) := by decide +kernel
theorem dX0_unlike_9 : decode cX0_unlike 9 = .ok (.if_icmp .gt 67, 3) := by decide +kernel
theorem dX0_unlike_12 : decode cX0_unlike 12 = .ok (.iload_n 1, 1) := by decide +kernel
theorem dX0_unlike_13 : decode cX0_unlike 13 = .ok (.ifCond .ne 12, 3) := by decide +kernel
theorem dX0_unlike_16 : decode cX0_unlike 16 = .ok (.aload_n 0, 1) := by decide +kernel
theorem dX0_unlike_17 : decode cX0_unlike 17 = .ok (.getfield 13, 3) := by decide +kernel
theorem dX0_unlike_20 : decode cX0_unlike 20 = .ok (.iload_n 3, 1) := by decide +kernel
theorem dX0_unlike_21 : decode cX0_unlike 21 = .ok (.laload, 1) := by decide +kernel
theorem dX0_unlike_22 : decode cX0_unlike 22 = .ok (.goto 22, 3) := by decide +kernel
theorem dX0_unlike_25 : decode cX0_unlike 25 = .ok (.aload_n 0, 1) := by decide +kernel
theorem dX0_unlike_26 : decode cX0_unlike 26 = .ok (.getfield 13, 3) := by decide +kernel
theorem dX0_unlike_29 : decode cX0_unlike 29 = .ok (.iload_n 3, 1) := by decide +kernel
theorem dX0_unlike_30 : decode cX0_unlike 30 = .ok (.laload, 1) := by decide +kernel
theorem dX0_unlike_31 : decode cX0_unlike 31 = .ok (.iload_n 1, 1) := by decide +kernel
theorem dX0_unlike_32 : decode cX0_unlike 32 = .ok (.iconst 1, 1) := by decide +kernel
theorem dX0_unlike_33 : decode cX0_unlike 33 = .ok (.if_icmp .ne 7, 3) := by decide +kernel
theorem dX0_unlike_36 : decode cX0_unlike 36 = .ok (.iconst 1, 1) := by decide +kernel
theorem dX0_unlike_37 : decode cX0_unlike 37 = .ok (.goto 4, 3) := by decide +kernel
theorem dX0_unlike_40 : decode cX0_unlike 40 = .ok (.iconst 0, 1) := by decide +kernel
theorem dX0_unlike_41 : decode cX0_unlike 41 = .ok (.invokestatic 39, 3) := by decide +kernel
theorem dX0_unlike_44 : decode cX0_unlike 44 = .ok (.lstore 4, 2) := by decide +kernel
theorem dX0_unlike_46 : decode cX0_unlike 46 = .ok (.lload 4, 2) := by decide +kernel
theorem dX0_unlike_48 : decode cX0_unlike 48 = .ok (.aload_n 0, 1) := by decide +kernel
theorem dX0_unlike_49 : decode cX0_unlike 49 = .ok (.getfield 17, 3) := by decide +kernel
theorem dX0_unlike_52 : decode cX0_unlike 52 = .ok (.iload_n 2, 1) := by decide +kernel
theorem dX0_unlike_53 : decode cX0_unlike 53 = .ok (.invokestatic 43, 3) := by decide +kernel
theorem dX0_unlike_56 : decode cX0_unlike 56 = .ok (.ifCond .ne 14, 3) := by decide +kernel
theorem dX0_unlike_59 : decode cX0_unlike 59 = .ok (.aload_n 0, 1) := by decide +kernel
theorem dX0_unlike_60 : decode cX0_unlike 60 = .ok (.getfield 17, 3) := by decide +kernel
theorem dX0_unlike_63 : decode cX0_unlike 63 = .ok (.iload_n 2, 1) := by decide +kernel
theorem dX0_unlike_64 : decode cX0_unlike 64 = .ok (.lload 4, 2) := by decide +kernel
theorem dX0_unlike_66 : decode cX0_unlike 66 = .ok (.lastore, 1) := by decide +kernel
theorem dX0_unlike_67 : decode cX0_unlike 67 = .ok (.iinc 2 1, 3) := by decide +kernel
theorem dX0_unlike_70 : decode cX0_unlike 70 = .ok (.iinc 3 1, 3) := by decide +kernel
theorem dX0_unlike_73 : decode cX0_unlike 73 = .ok (.goto (-69), 3) := by decide +kernel
theorem dX0_unlike_76 : decode cX0_unlike 76 = .ok (.iload_n 2, 1) := by decide +kernel
theorem dX0_unlike_77 : decode cX0_unlike 77 = .ok (.ireturn, 1) := by decide +kernel
theorem dX0_isSameAsNext_0 : decode cX0_isSameAsNext 0 = .ok (.iload_n 1, 1) := by decide +kernel
theorem dX0_isSameAsNext_1 : decode cX0_isSameAsNext 1 = .ok (.iconst 1, 1) := by decide +kernel
theorem dX0_isSameAsNext_2 : decode cX0_isSameAsNext 2 = .ok (.iadd, 1) := by decide +kernel
theorem dX0_isSameAsNext_3 : decode cX0_isSameAsNext 3 = .ok (.aload_n 0, 1) := by decide +kernel
theorem dX0_isSameAsNext_4 : decode cX0_isSameAsNext 4 = .ok (.getfield 20, 3) := by decide +kernel
theorem dX0_isSameAsNext_7 : decode cX0_isSameAsNext 7 = .ok (.if_icmp .ge 22, 3) := by decide +kernel
theorem dX0_isSameAsNext_10 : decode cX0_isSameAsNext 10 = .ok (.aload_n 0, 1) := by decide +kernel
theorem dX0_isSameAsNext_11 : decode cX0_isSameAsNext 11 = .ok (.iload_n 1, 1) := by decide +kernel
theorem dX0_isSameAsNext_12 : decode cX0_isSameAsNext 12 = .ok (.invokevirtual 47, 3) := by decide +kernel
theorem dX0_isSameAsNext_15 : decode cX0_isSameAsNext 15 = .ok (.aload_n 0, 1) := by decide +kernel
theorem dX0_isSameAsNext_16 : decode cX0_isSameAsNext 16 = .ok (.iload_n 1, 1) := by decide +kernel
theorem dX0_isSameAsNext_17 : decode cX0_isSameAsNext 17 = .ok (.iconst 1, 1) := by decide +kernel
theorem dX0_isSameAsNext_18 : decode cX0_isSameAsNext 18 = .ok (.iadd, 1) := by decide +kernel
theorem dX0_isSameAsNext_19 : decode cX0_isSameAsNext 19 = .ok (.invokevirtual 47, 3) := by decide +kernel
theorem dX0_isSameAsNext_22 : decode cX0_isSameAsNext 22 = .ok (.if_icmp .ne 7, 3) := by decide +kernel
theorem dX0_isSameAsNext_25 : decode cX0_isSameAsNext 25 = .ok (.iconst 1, 1) := by decide +kernel
theorem dX0_isSameAsNext_26 : decode cX0_isSameAsNext 26 = .ok (.goto 4, 3) := by decide +kernel
theorem dX0_isSameAsNext_29 : decode cX0_isSameAsNext 29 = .ok (.iconst 0, 1) := by decide +kernel
theorem dX0_isSameAsNext_30 : decode cX0_isSameAsNext 30 = .ok (.ireturn, 1) := by decide +kernel
theorem dX1_init_0 : decode cX1_init 0 = .ok (.aload_n 0, 1) := by decide +kernel
theorem dX1_init_1 : decode cX1_init 1 = .ok (.invokespecial 3, 3) := by decide +kernel
theorem dX1_init_4 : decode cX1_init 4 = .ok (.aload_n 0, 1) := by decide +kernel
theorem dX1_init_5 : decode cX1_init 5 = .ok (.bipush 8, 2) := by decide +kernel
theorem dX1_init_7 : decode cX1_init 7 = .ok (.newarray .int, 2) := by decide +kernel
theorem dX1_init_9 : decode cX1_init 9 = .ok (.putfield 9, 3) := by decide +kernel
theorem dX1_init_12 : decode cX1_init 12 = .ok (.aload_n 0, 1) := by decide +kernel
theorem dX1_init_13 : decode cX1_init 13 = .ok (.iconst 0, 1) := by decide +kernel
theorem dX1_init_14 : decode cX1_init 14 = .ok (.putfield 15, 3) := by decide +kernel
theorem dX1_init_17 : decode cX1_init 17 = .ok (.aload_n 0, 1) := by decide +kernel
theorem dX1_init_18 : decode cX1_init 18 = .ok (.iconst 0, 1) := by decide +kernel
theorem dX1_init_19 : decode cX1_init 19 = .ok (.putfield 19, 3) := by decide +kernel
theorem dX1_init_22 : decode cX1_init 22 = .ok (.return_, 1) := by decide +kernel
theorem dX1_clear_0 : decode cX1_clear 0 = .ok (.aload_n 0, 1) := by decide +kernel
theorem dX1_clear_1 : decode cX1_clear 1 = .ok (.iconst 0, 1) := by decide +kernel
theorem dX1_clear_2 : decode cX1_clear 2 = .ok (.putfield 15, 3) := by decide +kernel
theorem dX1_clear_5 : decode cX1_clear 5 = .ok (.aload_n 0, 1) := by decide +kernel
theorem dX1_clear_6 : decode cX1_clear 6 = .ok (.iconst 0, 1) := by decide +kernel
theorem dX1_clear_7 : decode cX1_clear 7 = .ok (.putfield 19, 3) := by decide +kernel
theorem dX1_clear_10 : decode cX1_clear 10 = .ok (.return_, 1) := by decide +kernel
theorem dX1_note_0 : decode cX1_note 0 = .ok (.aload_n 0, 1) := by decide +kernel
theorem dX1_note_1 : decode cX1_note 1 = .ok (.invokevirtual 22, 3) := by decide +kernel
theorem dX1_note_4 : decode cX1_note 4 = .ok (.aload_n 0, 1) := by decide +kernel
theorem dX1_note_5 : decode cX1_note 5 = .ok (.aload_n 1, 1) := by decide +kernel
theorem dX1_note_6 : decode cX1_note 6 = .ok (.getfield 25, 3) := by decide +kernel
theorem dX1_note_9 : decode cX1_note 9 = .ok (.putfield 19, 3) := by decide +kernel
theorem dX1_note_12 : decode cX1_note 12 = .ok (.iconst 0, 1) := by decide +kernel
theorem dX1_note_13 : decode cX1_note 13 = .ok (.istore_n 2, 1) := by decide +kernel
theorem dX1_note_14 : decode cX1_note 14 = .ok (.iload_n 2, 1) := by decide +kernel
theorem dX1_note_15 : decode cX1_note 15 = .ok (.bipush 8, 2) := by decide +kernel
theorem dX1_note_17 : decode cX1_note 17 = .ok (.if_icmp .ge 48, 3) := by decide +kernel
theorem dX1_note_20 : decode cX1_note 20 = .ok (.aload_n 1, 1) := by decide +kernel
theorem dX1_note_21 : decode cX1_note 21 = .ok (.getfield 28, 3) := by decide +kernel
theorem dX1_note_24 : decode cX1_note 24 = .ok (.iload_n 2, 1) := by decide +kernel
theorem dX1_note_25 : decode cX1_note 25 = .ok (.iaload, 1) := by decide +kernel
theorem dX1_note_26 : decode cX1_note 26 = .ok (.ifCond .eq 33, 3) := by decide +kernel
theorem dX1_note_29 : decode cX1_note 29 = .ok (.aload_n 0, 1) := by decide +kernel
theorem dX1_note_30 : decode cX1_note 30 = .ok (.getfield 9, 3) := by decide +kernel
theorem dX1_note_33 : decode cX1_note 33 = .ok (.aload_n 0, 1) := by decide +kernel
theorem dX1_note_34 : decode cX1_note 34 = .ok (.getfield 15, 3) := by decide +kernel
theorem dX1_note_37 : decode cX1_note 37 = .ok (.bipush 10, 2) := by decide +kernel
theorem dX1_note_39 : decode cX1_note 39 = .ok (.iload_n 2, 1) := by decide +kernel
theorem dX1_note_40 : decode cX1_note 40 = .ok (.imul, 1) := by decide +kernel
theorem dX1_note_41 : decode cX1_note 41 = .ok (.aload_n 1, 1) := by decide +kernel
theorem dX1_note_42 : decode cX1_note 42 = .ok (.getfield 28, 3) := by decide +kernel
theorem dX1_note_45 : decode cX1_note 45 = .ok (.iload_n 2, 1) := by decide +kernel
theorem dX1_note_46 : decode cX1_note 46 = .ok (.iaload, 1) := by decide +kernel
theorem dX1_note_47 : decode cX1_note 47 = .ok (.iadd, 1) := by decide +kernel
theorem dX1_note_48 : decode cX1_note 48 = .ok (.iastore, 1) := by decide +kernel
theorem dX1_note_49 : decode cX1_note 49 = .ok (.aload_n 0, 1) := by decide +kernel
theorem dX1_note_50 : decode cX1_note 50 = .ok (.dup, 1) := by decide +kernel
theorem dX1_note_51 : decode cX1_note 51 = .ok (.getfield 15, 3) := by decide +kernel
theorem dX1_note_54 : decode cX1_note 54 = .ok (.iconst 1, 1) := by decide +kernel
theorem dX1_note_55 : decode cX1_note 55 = .ok (.iadd, 1) := by decide +kernel
theorem dX1_note_56 : decode cX1_note 56 = .ok (.putfield 15, 3) := by decide +kernel
theorem dX1_note_59 : decode cX1_note 59 = .ok (.iinc 2 1, 3) := by decide +kernel
theorem dX1_note_62 : decode cX1_note 62 = .ok (.goto (-48), 3) := by decide +kernel
theorem dX1_note_65 : decode cX1_note 65 = .ok (.return_, 1) := by decide +kernel
theorem dX1_has_0 : decode cX1_has 0 = .ok (.iload_n 1, 1) := by decide +kernel
theorem dX1_has_1 : decode cX1_has 1 = .ok (.ifCond .lt 15, 3) := by decide +kernel
theorem dX1_has_4 : decode cX1_has 4 = .ok (.iload_n 1, 1) := by decide +kernel
theorem dX1_has_5 : decode cX1_has 5 = .ok (.aload_n 0, 1) := by decide +kernel
theorem dX1_has_6 : decode cX1_has 6 = .ok (.getfield 15, 3) := by decide +kernel
theorem dX1_has_9 : decode cX1_has 9 = .ok (.if_icmp .ge 7, 3) := by decide +kernel
theorem dX1_has_12 : decode cX1_has 12 = .ok (.iconst 1, 1) := by decide +kernel
theorem dX1_has_13 : decode cX1_has 13 = .ok (.goto 4, 3) := by decide +kernel
theorem dX1_has_16 : decode cX1_has 16 = .ok (.iconst 0, 1) := by decide +kernel
theorem dX1_has_17 : decode cX1_has 17 = .ok (.ireturn, 1) := by decide +kernel
theorem dX2_init_0 : decode cX2_init 0 = .ok (.aload_n 0, 1) := by decide +kernel
theorem dX2_init_1 : decode cX2_init 1 = .ok (.invokespecial 3, 3) := by decide +kernel
theorem dX2_init_4 : decode cX2_init 4 = .ok (.aload_n 0, 1) := by decide +kernel
theorem dX2_init_5 : decode cX2_init 5 = .ok (.bipush 8, 2) := by decide +kernel
theorem dX2_init_7 : decode cX2_init 7 = .ok (.newarray .int, 2) := by decide +kernel
theorem dX2_init_9 : decode cX2_init 9 = .ok (.putfield 9, 3) := by decide +kernel
theorem dX2_init_12 : decode cX2_init 12 = .ok (.aload_n 0, 1) := by decide +kernel
theorem dX2_init_13 : decode cX2_init 13 = .ok (.bipush 8, 2) := by decide +kernel
theorem dX2_init_15 : decode cX2_init 15 = .ok (.newarray .int, 2) := by decide +kernel
theorem dX2_init_17 : decode cX2_init 17 = .ok (.putfield 15, 3) := by decide +kernel
theorem dX2_init_20 : decode cX2_init 20 = .ok (.aload_n 0, 1) := by decide +kernel
theorem dX2_init_21 : decode cX2_init 21 = .ok (.bipush 16, 2) := by decide +kernel
theorem dX2_init_23 : decode cX2_init 23 = .ok (.newarray .int, 2) := by decide +kernel
theorem dX2_init_25 : decode cX2_init 25 = .ok (.putfield 18, 3) := by decide +kernel
theorem dX2_init_28 : decode cX2_init 28 = .ok (.aload_n 0, 1) := by decide +kernel
theorem dX2_init_29 : decode cX2_init 29 = .ok (.bipush 8, 2) := by decide +kernel
theorem dX2_init_31 : decode cX2_init 31 = .ok (.newarray .int, 2) := by decide +kernel
theorem dX2_init_33 : decode cX2_init 33 = .ok (.putfield 21, 3) := by decide +kernel
theorem dX2_init_36 : decode cX2_init 36 = .ok (.aload_n 0, 1) := by decide +kernel
theorem dX2_init_37 : decode cX2_init 37 = .ok (.bipush 8, 2) := by decide +kernel
theorem dX2_init_39 : decode cX2_init 39 = .ok (.newarray .int, 2) := by decide +kernel
theorem dX2_init_41 : decode cX2_init 41 = .ok (.putfield 24, 3) := by decide +kernel
theorem dX2_init_44 : decode cX2_init 44 = .ok (.aload_n 0, 1) := by decide +kernel
theorem dX2_init_45 : decode cX2_init 45 = .ok (.bipush 8, 2) := by decide +kernel
theorem dX2_init_47 : decode cX2_init 47 = .ok (.newarray .int, 2) := by decide +kernel
theorem dX2_init_49 : decode cX2_init 49 = .ok (.putfield 27, 3) := by decide +kernel
theorem dX2_init_52 : decode cX2_init 52 = .ok (.aload_n 0, 1) := by decide +kernel
theorem dX2_init_53 : decode cX2_init 53 = .ok (.iconst 0, 1) := by decide +kernel
theorem dX2_init_54 : decode cX2_init 54 = .ok (.putfield 30, 3) := by decide +kernel
theorem dX2_init_57 : decode cX2_init 57 = .ok (.aload_n 0, 1) := by decide +kernel
theorem dX2_init_58 : decode cX2_init 58 = .ok (.iconst 0, 1) := by decide +kernel
theorem dX2_init_59 : decode cX2_init 59 = .ok (.putfield 34, 3) := by decide +kernel
theorem dX2_init_62 : decode cX2_init 62 = .ok (.return_, 1) := by decide +kernel
theorem dX2_load_0 : decode cX2_load 0 = .ok (.iconst 0, 1) := by decide +kernel
theorem dX2_load_1 : decode cX2_load 1 = .ok (.istore_n 3, 1) := by decide +kernel
theorem dX2_load_2 : decode cX2_load 2 = .ok (.iload_n 3, 1) := by decide +kernel
theorem dX2_load_3 : decode cX2_load 3 = .ok (.bipush 16, 2) := by decide +kernel
theorem dX2_load_5 : decode cX2_load 5 = .ok (.if_icmp .ge 16, 3) := by decide +kernel
theorem dX2_load_8 : decode cX2_load 8 = .ok (.aload_n 0, 1) := by decide +kernel
theorem dX2_load_9 : decode cX2_load 9 = .ok (.getfield 18, 3) := by decide +kernel
theorem dX2_load_12 : decode cX2_load 12 = .ok (.iload_n 3, 1) := by decide +kernel
theorem dX2_load_13 : decode cX2_load 13 = .ok (.iconst (-1), 1) := by decide +kernel
theorem dX2_load_14 : decode cX2_load 14 = .ok (.iastore, 1) := by decide +kernel
theorem dX2_load_15 : decode cX2_load 15 = .ok (.iinc 3 1, 3) := by decide +kernel
theorem dX2_load_18 : decode cX2_load 18 = .ok (.goto (-16), 3) := by decide +kernel
theorem dX2_load_21 : decode cX2_load 21 = .ok (.iconst 0, 1) := by decide +kernel
theorem dX2_load_22 : decode cX2_load 22 = .ok (.istore_n 3, 1) := by decide +kernel
theorem dX2_load_23 : decode cX2_load 23 = .ok (.iload_n 3, 1) := by decide +kernel
theorem dX2_load_24 : decode cX2_load 24 = .ok (.bipush 8, 2) := by decide +kernel
theorem dX2_load_26 : decode cX2_load 26 = .ok (.if_icmp .ge 43, 3) := by decide +kernel
theorem dX2_load_29 : decode cX2_load 29 = .ok (.lload_n 1, 1) := by decide +kernel
theorem dX2_load_30 : decode cX2_load 30 = .ok (.iload_n 3, 1) := by decide +kernel
theorem dX2_load_31 : decode cX2_load 31 = .ok (.invokestatic 37, 3) := by decide +kernel
theorem dX2_load_34 : decode cX2_load 34 = .ok (.istore 4, 2) := by decide +kernel
theorem dX2_load_36 : decode cX2_load 36 = .ok (.aload_n 0, 1) := by decide +kernel
theorem dX2_load_37 : decode cX2_load 37 = .ok (.getfield 9, 3) := by decide +kernel
theorem dX2_load_40 : decode cX2_load 40 = .ok (.iload_n 3, 1) := by decide +kernel
theorem dX2_load_41 : decode cX2_load 41 = .ok (.iload 4, 2) := by decide +kernel
theorem dX2_load_43 : decode cX2_load 43 = .ok (.iastore, 1) := by decide +kernel
theorem dX2_load_44 : decode cX2_load 44 = .ok (.aload_n 0, 1) := by decide +kernel
theorem dX2_load_45 : decode cX2_load 45 = .ok (.getfield 15, 3) := by decide +kernel
theorem dX2_load_48 : decode cX2_load 48 = .ok (.iload_n 3, 1) := by decide +kernel
theorem dX2_load_49 : decode cX2_load 49 = .ok (.lload_n 1, 1) := by decide +kernel
theorem dX2_load_50 : decode cX2_load 50 = .ok (.iload_n 3, 1) := by decide +kernel
theorem dX2_load_51 : decode cX2_load 51 = .ok (.invokestatic 43, 3) := by decide +kernel
theorem dX2_load_54 : decode cX2_load 54 = .ok (.iastore, 1) := by decide +kernel
theorem dX2_load_55 : decode cX2_load 55 = .ok (.aload_n 0, 1) := by decide +kernel
theorem dX2_load_56 : decode cX2_load 56 = .ok (.getfield 18, 3) := by decide +kernel
theorem dX2_load_59 : decode cX2_load 59 = .ok (.iload 4, 2) := by decide +kernel
theorem dX2_load_61 : decode cX2_load 61 = .ok (.iload_n 3, 1) := by decide +kernel
theorem dX2_load_62 : decode cX2_load 62 = .ok (.iastore, 1) := by decide +kernel
theorem dX2_load_63 : decode cX2_load 63 = .ok (.iinc 3 1, 3) := by decide +kernel
theorem dX2_load_66 : decode cX2_load 66 = .ok (.goto (-43), 3) := by decide +kernel
theorem dX2_load_69 : decode cX2_load 69 = .ok (.return_, 1) := by decide +kernel
theorem dX2_packed_0 : decode cX2_packed 0 = .ok (.aload_n 0, 1) := by decide +kernel
theorem dX2_packed_1 : decode cX2_packed 1 = .ok (.getfield 9, 3) := by decide +kernel
theorem dX2_packed_4 : decode cX2_packed 4 = .ok (.aload_n 0, 1) := by decide +kernel
theorem dX2_packed_5 : decode cX2_packed 5 = .ok (.getfield 15, 3) := by decide +kernel
theorem dX2_packed_8 : decode cX2_packed 8 = .ok (.invokestatic 46, 3) := by decide +kernel
theorem dX2_packed_11 : decode cX2_packed 11 = .ok (.lreturn, 1) := by decide +kernel
theorem dX2_planned_0 : decode cX2_planned 0 = .ok (.aload_n 0, 1) := by decide +kernel
theorem dX2_planned_1 : decode cX2_planned 1 = .ok (.getfield 21, 3) := by decide +kernel
theorem dX2_planned_4 : decode cX2_planned 4 = .ok (.aload_n 0, 1) := by decide +kernel
theorem dX2_planned_5 : decode cX2_planned 5 = .ok (.getfield 24, 3) := by decide +kernel
theorem dX2_planned_8 : decode cX2_planned 8 = .ok (.invokestatic 46, 3) := by decide +kernel
theorem dX2_planned_11 : decode cX2_planned 11 = .ok (.lreturn, 1) := by decide +kernel
theorem dX2_plan_0 : decode cX2_plan 0 = .ok (.iload_n 1, 1) := by decide +kernel
theorem dX2_plan_1 : decode cX2_plan 1 = .ok (.bipush 100, 2) := by decide +kernel
theorem dX2_plan_3 : decode cX2_plan 3 = .ok (.irem, 1) := by decide +kernel
theorem dX2_plan_4 : decode cX2_plan 4 = .ok (.istore_n 2, 1) := by decide +kernel
theorem dX2_plan_5 : decode cX2_plan 5 = .ok (.aload_n 0, 1) := by decide +kernel
theorem dX2_plan_6 : decode cX2_plan 6 = .ok (.iload_n 1, 1) := by decide +kernel
theorem dX2_plan_7 : decode cX2_plan 7 = .ok (.bipush 100, 2) := by decide +kernel
theorem dX2_plan_9 : decode cX2_plan 9 = .ok (.idiv, 1) := by decide +kernel
theorem dX2_plan_10 : decode cX2_plan 10 = .ok (.invokevirtual 50, 3) := by decide +kernel
theorem dX2_plan_13 : decode cX2_plan 13 = .ok (.istore_n 3, 1) := by decide +kernel
theorem dX2_plan_14 : decode cX2_plan 14 = .ok (.aload_n 0, 1) := by decide +kernel
theorem dX2_plan_15 : decode cX2_plan 15 = .ok (.invokevirtual 54, 3) := by decide +kernel
theorem dX2_plan_18 : decode cX2_plan 18 = .ok (.iload_n 3, 1) := by decide +kernel
theorem dX2_plan_19 : decode cX2_plan 19 = .ok (.ifCond .ne 10, 3) := by decide +kernel
theorem dX2_plan_22 : decode cX2_plan 22 = .ok (.aload_n 0, 1) := by decide +kernel
theorem dX2_plan_23 : decode cX2_plan 23 = .ok (.iconst 4, 1) := by decide +kernel
theorem dX2_plan_24 : decode cX2_plan 24 = .ok (.putfield 30, 3) := by decide +kernel
theorem dX2_plan_27 : decode cX2_plan 27 = .ok (.iconst 0, 1) := by decide +kernel
theorem dX2_plan_28 : decode cX2_plan 28 = .ok (.ireturn, 1) := by decide +kernel
theorem dX2_plan_29 : decode cX2_plan 29 = .ok (.iload_n 2, 1) := by decide +kernel
theorem dX2_plan_30 : decode cX2_plan 30 = .ok (.bipush 11, 2) := by decide +kernel
theorem dX2_plan_32 : decode cX2_plan 32 = .ok (.if_icmp .ne 11, 3) := by decide +kernel
theorem dX2_plan_35 : decode cX2_plan 35 = .ok (.aload_n 0, 1) := by decide +kernel
theorem dX2_plan_36 : decode cX2_plan 36 = .ok (.iload_n 3, 1) := by decide +kernel
theorem dX2_plan_37 : decode cX2_plan 37 = .ok (.invokevirtual 57, 3) := by decide +kernel
theorem dX2_plan_40 : decode cX2_plan 40 = .ok (.goto 23, 3) := by decide +kernel
theorem dX2_plan_43 : decode cX2_plan 43 = .ok (.iload_n 2, 1) := by decide +kernel
theorem dX2_plan_44 : decode cX2_plan 44 = .ok (.iconst 4, 1) := by decide +kernel
theorem dX2_plan_45 : decode cX2_plan 45 = .ok (.if_icmp .gt 12, 3) := by decide +kernel
theorem dX2_plan_48 : decode cX2_plan 48 = .ok (.aload_n 0, 1) := by decide +kernel
theorem dX2_plan_49 : decode cX2_plan 49 = .ok (.iload_n 3, 1) := by decide +kernel
theorem dX2_plan_50 : decode cX2_plan 50 = .ok (.iload_n 2, 1) := by decide +kernel
theorem dX2_plan_51 : decode cX2_plan 51 = .ok (.invokevirtual 61, 3) := by decide +kernel
theorem dX2_plan_54 : decode cX2_plan 54 = .ok (.goto 9, 3) := by decide +kernel
theorem dX2_plan_57 : decode cX2_plan 57 = .ok (.aload_n 0, 1) := by decide +kernel
theorem dX2_plan_58 : decode cX2_plan 58 = .ok (.iload_n 3, 1) := by decide +kernel
theorem dX2_plan_59 : decode cX2_plan 59 = .ok (.iload_n 2, 1) := by decide +kernel
theorem dX2_plan_60 : decode cX2_plan 60 = .ok (.invokevirtual 65, 3) := by decide +kernel
theorem dX2_plan_63 : decode cX2_plan 63 = .ok (.iload_n 2, 1) := by decide +kernel
theorem dX2_plan_64 : decode cX2_plan 64 = .ok (.ifCond .eq 14, 3) := by decide +kernel
theorem dX2_plan_67 : decode cX2_plan 67 = .ok (.iload_n 2, 1) := by decide +kernel
theorem dX2_plan_68 : decode cX2_plan 68 = .ok (.iconst 1, 1) := by decide +kernel
theorem dX2_plan_69 : decode cX2_plan 69 = .ok (.if_icmp .eq 9, 3) := by decide +kernel
theorem dX2_plan_72 : decode cX2_plan 72 = .ok (.iload_n 2, 1) := by decide +kernel
theorem dX2_plan_73 : decode cX2_plan 73 = .ok (.bipush 10, 2) := by decide +kernel
theorem dX2_plan_75 : decode cX2_plan 75 = .ok (.if_icmp .ne 7, 3) := by decide +kernel
theorem dX2_plan_78 : decode cX2_plan 78 = .ok (.iconst 1, 1) := by decide +kernel
theorem dX2_plan_79 : decode cX2_plan 79 = .ok (.goto 4, 3) := by decide +kernel
theorem dX2_plan_82 : decode cX2_plan 82 = .ok (.iconst 0, 1) := by decide +kernel
theorem dX2_plan_83 : decode cX2_plan 83 = .ok (.istore 4, 2) := by decide +kernel
theorem dX2_plan_85 : decode cX2_plan 85 = .ok (.aload_n 0, 1) := by decide +kernel
theorem dX2_plan_86 : decode cX2_plan 86 = .ok (.getfield 30, 3) := by decide +kernel
theorem dX2_plan_89 : decode cX2_plan 89 = .ok (.ifCond .ne 19, 3) := by decide +kernel
theorem dX2_plan_92 : decode cX2_plan 92 = .ok (.iload 4, 2) := by decide +kernel
theorem dX2_plan_94 : decode cX2_plan 94 = .ok (.ifCond .eq 10, 3) := by decide +kernel
theorem dX2_plan_97 : decode cX2_plan 97 = .ok (.aload_n 0, 1) := by decide +kernel
theorem dX2_plan_98 : decode cX2_plan 98 = .ok (.invokevirtual 68, 3) := by decide +kernel
theorem dX2_plan_101 : decode cX2_plan 101 = .ok (.ifCond .ne 7, 3) := by decide +kernel
theorem dX2_plan_104 : decode cX2_plan 104 = .ok (.iconst 1, 1) := by decide +kernel
theorem dX2_plan_105 : decode cX2_plan 105 = .ok (.goto 4, 3) := by decide +kernel
theorem dX2_plan_108 : decode cX2_plan 108 = .ok (.iconst 0, 1) := by decide +kernel
theorem dX2_plan_109 : decode cX2_plan 109 = .ok (.ireturn, 1) := by decide +kernel
theorem dX2_startPlan_0 : decode cX2_startPlan 0 = .ok (.iconst 0, 1) := by decide +kernel
theorem dX2_startPlan_1 : decode cX2_startPlan 1 = .ok (.istore_n 1, 1) := by decide +kernel
theorem dX2_startPlan_2 : decode cX2_startPlan 2 = .ok (.iload_n 1, 1) := by decide +kernel
theorem dX2_startPlan_3 : decode cX2_startPlan 3 = .ok (.bipush 8, 2) := by decide +kernel
theorem dX2_startPlan_5 : decode cX2_startPlan 5 = .ok (.if_icmp .ge 40, 3) := by decide +kernel
theorem dX2_startPlan_8 : decode cX2_startPlan 8 = .ok (.aload_n 0, 1) := by decide +kernel
theorem dX2_startPlan_9 : decode cX2_startPlan 9 = .ok (.getfield 21, 3) := by decide +kernel
theorem dX2_startPlan_12 : decode cX2_startPlan 12 = .ok (.iload_n 1, 1) := by decide +kernel
theorem dX2_startPlan_13 : decode cX2_startPlan 13 = .ok (.aload_n 0, 1) := by decide +kernel
theorem dX2_startPlan_14 : decode cX2_startPlan 14 = .ok (.getfield 9, 3) := by decide +kernel
theorem dX2_startPlan_17 : decode cX2_startPlan 17 = .ok (.iload_n 1, 1) := by decide +kernel
theorem dX2_startPlan_18 : decode cX2_startPlan 18 = .ok (.iaload, 1) := by decide +kernel
theorem dX2_startPlan_19 : decode cX2_startPlan 19 = .ok (.iastore, 1) := by decide +kernel
theorem dX2_startPlan_20 : decode cX2_startPlan 20 = .ok (.aload_n 0, 1) := by decide +kernel
theorem dX2_startPlan_21 : decode cX2_startPlan 21 = .ok (.getfield 24, 3) := by decide +kernel
theorem dX2_startPlan_24 : decode cX2_startPlan 24 = .ok (.iload_n 1, 1) := by decide +kernel
theorem dX2_startPlan_25 : decode cX2_startPlan 25 = .ok (.aload_n 0, 1) := by decide +kernel
theorem dX2_startPlan_26 : decode cX2_startPlan 26 = .ok (.getfield 15, 3) := by decide +kernel
theorem dX2_startPlan_29 : decode cX2_startPlan 29 = .ok (.iload_n 1, 1) := by decide +kernel
theorem dX2_startPlan_30 : decode cX2_startPlan 30 = .ok (.iaload, 1) := by decide +kernel
theorem dX2_startPlan_31 : decode cX2_startPlan 31 = .ok (.iastore, 1) := by decide +kernel
theorem dX2_startPlan_32 : decode cX2_startPlan 32 = .ok (.aload_n 0, 1) := by decide +kernel
theorem dX2_startPlan_33 : decode cX2_startPlan 33 = .ok (.getfield 27, 3) := by decide +kernel
theorem dX2_startPlan_36 : decode cX2_startPlan 36 = .ok (.iload_n 1, 1) := by decide +kernel
theorem dX2_startPlan_37 : decode cX2_startPlan 37 = .ok (.iconst 0, 1) := by decide +kernel
theorem dX2_startPlan_38 : decode cX2_startPlan 38 = .ok (.iastore, 1) := by decide +kernel
theorem dX2_startPlan_39 : decode cX2_startPlan 39 = .ok (.iinc 1 1, 3) := by decide +kernel
theorem dX2_startPlan_42 : decode cX2_startPlan 42 = .ok (.goto (-40), 3) := by decide +kernel
theorem dX2_startPlan_45 : decode cX2_startPlan 45 = .ok (.aload_n 0, 1) := by decide +kernel
theorem dX2_startPlan_46 : decode cX2_startPlan 46 = .ok (.iconst 0, 1) := by decide +kernel
theorem dX2_startPlan_47 : decode cX2_startPlan 47 = .ok (.putfield 30, 3) := by decide +kernel
theorem dX2_startPlan_50 : decode cX2_startPlan 50 = .ok (.aload_n 0, 1) := by decide +kernel
theorem dX2_startPlan_51 : decode cX2_startPlan 51 = .ok (.iconst 0, 1) := by decide +kernel
theorem dX2_startPlan_52 : decode cX2_startPlan 52 = .ok (.putfield 34, 3) := by decide +kernel
theorem dX2_startPlan_55 : decode cX2_startPlan 55 = .ok (.return_, 1) := by decide +kernel
theorem dX2_planRing_0 : decode cX2_planRing 0 = .ok (.iload_n 1, 1) := by decide +kernel
theorem dX2_planRing_1 : decode cX2_planRing 1 = .ok (.sipush 255, 3) := by decide +kernel
theorem dX2_planRing_4 : decode cX2_planRing 4 = .ok (.if_icmp .ne 10, 3) := by decide +kernel
theorem dX2_planRing_7 : decode cX2_planRing 7 = .ok (.aload_n 0, 1) := by decide +kernel
theorem dX2_planRing_8 : decode cX2_planRing 8 = .ok (.invokevirtual 72, 3) := by decide +kernel
theorem dX2_planRing_11 : decode cX2_planRing 11 = .ok (.ifCond .ne 9, 3) := by decide +kernel
theorem dX2_planRing_14 : decode cX2_planRing 14 = .ok (.aload_n 0, 1) := by decide +kernel
theorem dX2_planRing_15 : decode cX2_planRing 15 = .ok (.iconst 5, 1) := by decide +kernel
theorem dX2_planRing_16 : decode cX2_planRing 16 = .ok (.putfield 30, 3) := by decide +kernel
theorem dX2_planRing_19 : decode cX2_planRing 19 = .ok (.return_, 1) := by decide +kernel
theorem dX2_planRing_20 : decode cX2_planRing 20 = .ok (.iconst 0, 1) := by decide +kernel
theorem dX2_planRing_21 : decode cX2_planRing 21 = .ok (.istore_n 2, 1) := by decide +kernel
theorem dX2_planRing_22 : decode cX2_planRing 22 = .ok (.iload_n 2, 1) := by decide +kernel
theorem dX2_planRing_23 : decode cX2_planRing 23 = .ok (.bipush 8, 2) := by decide +kernel
theorem dX2_planRing_25 : decode cX2_planRing 25 = .ok (.if_icmp .ge 57, 3) := by decide +kernel
theorem dX2_planRing_28 : decode cX2_planRing 28 = .ok (.aload_n 0, 1) := by decide +kernel
theorem dX2_planRing_29 : decode cX2_planRing 29 = .ok (.getfield 18, 3) := by decide +kernel
theorem dX2_planRing_32 : decode cX2_planRing 32 = .ok (.getstatic 75, 3) := by decide +kernel
theorem dX2_planRing_35 : decode cX2_planRing 35 = .ok (.iload_n 2, 1) := by decide +kernel
theorem dX2_planRing_36 : decode cX2_planRing 36 = .ok (.iaload, 1) := by decide +kernel
theorem dX2_planRing_37 : decode cX2_planRing 37 = .ok (.iaload, 1) := by decide +kernel
theorem dX2_planRing_38 : decode cX2_planRing 38 = .ok (.istore_n 3, 1) := by decide +kernel
theorem dX2_planRing_39 : decode cX2_planRing 39 = .ok (.iload_n 2, 1) := by decide +kernel
theorem dX2_planRing_40 : decode cX2_planRing 40 = .ok (.iconst 1, 1) := by decide +kernel
theorem dX2_planRing_41 : decode cX2_planRing 41 = .ok (.iadd, 1) := by decide +kernel
theorem dX2_planRing_42 : decode cX2_planRing 42 = .ok (.bipush 8, 2) := by decide +kernel
theorem dX2_planRing_44 : decode cX2_planRing 44 = .ok (.irem, 1) := by decide +kernel
theorem dX2_planRing_45 : decode cX2_planRing 45 = .ok (.istore 4, 2) := by decide +kernel
theorem dX2_planRing_47 : decode cX2_planRing 47 = .ok (.iload_n 3, 1) := by decide +kernel
theorem dX2_planRing_48 : decode cX2_planRing 48 = .ok (.iconst (-1), 1) := by decide +kernel
theorem dX2_planRing_49 : decode cX2_planRing 49 = .ok (.if_icmp .eq 27, 3) := by decide +kernel
theorem dX2_planRing_52 : decode cX2_planRing 52 = .ok (.aload_n 0, 1) := by decide +kernel
theorem dX2_planRing_53 : decode cX2_planRing 53 = .ok (.getfield 21, 3) := by decide +kernel
theorem dX2_planRing_56 : decode cX2_planRing 56 = .ok (.iload_n 3, 1) := by decide +kernel
theorem dX2_planRing_57 : decode cX2_planRing 57 = .ok (.getstatic 75, 3) := by decide +kernel
theorem dX2_planRing_60 : decode cX2_planRing 60 = .ok (.iload 4, 2) := by decide +kernel
theorem dX2_planRing_62 : decode cX2_planRing 62 = .ok (.iaload, 1) := by decide +kernel
theorem dX2_planRing_63 : decode cX2_planRing 63 = .ok (.iastore, 1) := by decide +kernel
theorem dX2_planRing_64 : decode cX2_planRing 64 = .ok (.aload_n 0, 1) := by decide +kernel
theorem dX2_planRing_65 : decode cX2_planRing 65 = .ok (.getfield 24, 3) := by decide +kernel
theorem dX2_planRing_68 : decode cX2_planRing 68 = .ok (.iload_n 3, 1) := by decide +kernel
theorem dX2_planRing_69 : decode cX2_planRing 69 = .ok (.getstatic 78, 3) := by decide +kernel
theorem dX2_planRing_72 : decode cX2_planRing 72 = .ok (.iload 4, 2) := by decide +kernel
theorem dX2_planRing_74 : decode cX2_planRing 74 = .ok (.iaload, 1) := by decide +kernel
theorem dX2_planRing_75 : decode cX2_planRing 75 = .ok (.iastore, 1) := by decide +kernel
theorem dX2_planRing_76 : decode cX2_planRing 76 = .ok (.iinc 2 1, 3) := by decide +kernel
theorem dX2_planRing_79 : decode cX2_planRing 79 = .ok (.goto (-57), 3) := by decide +kernel
theorem dX2_planRing_82 : decode cX2_planRing 82 = .ok (.aload_n 0, 1) := by decide +kernel
theorem dX2_planRing_83 : decode cX2_planRing 83 = .ok (.bipush 8, 2) := by decide +kernel
theorem dX2_planRing_85 : decode cX2_planRing 85 = .ok (.putfield 34, 3) := by decide +kernel
theorem dX2_planRing_88 : decode cX2_planRing 88 = .ok (.return_, 1) := by decide +kernel
theorem dX2_isRing_0 : decode cX2_isRing 0 = .ok (.iconst 0, 1) := by decide +kernel
theorem dX2_isRing_1 : decode cX2_isRing 1 = .ok (.istore_n 1, 1) := by decide +kernel
theorem dX2_isRing_2 : decode cX2_isRing 2 = .ok (.iload_n 1, 1) := by decide +kernel
theorem dX2_isRing_3 : decode cX2_isRing 3 = .ok (.bipush 8, 2) := by decide +kernel
theorem dX2_isRing_5 : decode cX2_isRing 5 = .ok (.if_icmp .ge 25, 3) := by decide +kernel
theorem dX2_isRing_8 : decode cX2_isRing 8 = .ok (.aload_n 0, 1) := by decide +kernel
theorem dX2_isRing_9 : decode cX2_isRing 9 = .ok (.getfield 18, 3) := by decide +kernel
theorem dX2_isRing_12 : decode cX2_isRing 12 = .ok (.getstatic 75, 3) := by decide +kernel
theorem dX2_isRing_15 : decode cX2_isRing 15 = .ok (.iload_n 1, 1) := by decide +kernel
theorem dX2_isRing_16 : decode cX2_isRing 16 = .ok (.iaload, 1) := by decide +kernel
theorem dX2_isRing_17 : decode cX2_isRing 17 = .ok (.iaload, 1) := by decide +kernel
theorem dX2_isRing_18 : decode cX2_isRing 18 = .ok (.iconst (-1), 1) := by decide +kernel
theorem dX2_isRing_19 : decode cX2_isRing 19 = .ok (.if_icmp .ne 5, 3) := by decide +kernel
theorem dX2_isRing_22 : decode cX2_isRing 22 = .ok (.iconst 0, 1) := by decide +kernel
theorem dX2_isRing_23 : decode cX2_isRing 23 = .ok (.ireturn, 1) := by decide +kernel
theorem dX2_isRing_24 : decode cX2_isRing 24 = .ok (.iinc 1 1, 3) := by decide +kernel
theorem dX2_isRing_27 : decode cX2_isRing 27 = .ok (.goto (-25), 3) := by decide +kernel
theorem dX2_isRing_30 : decode cX2_isRing 30 = .ok (.iconst 1, 1) := by decide +kernel
theorem dX2_isRing_31 : decode cX2_isRing 31 = .ok (.ireturn, 1) := by decide +kernel
theorem dX2_planEach_0 : decode cX2_planEach 0 = .ok (.iconst 0, 1) := by decide +kernel
theorem dX2_planEach_1 : decode cX2_planEach 1 = .ok (.istore_n 3, 1) := by decide +kernel
theorem dX2_planEach_2 : decode cX2_planEach 2 = .ok (.iload_n 3, 1) := by decide +kernel
theorem dX2_planEach_3 : decode cX2_planEach 3 = .ok (.bipush 8, 2) := by decide +kernel
theorem dX2_planEach_5 : decode cX2_planEach 5 = .ok (.if_icmp .ge 135, 3) := by decide +kernel
theorem dX2_planEach_8 : decode cX2_planEach 8 = .ok (.iload_n 3, 1) := by decide +kernel
theorem dX2_planEach_9 : decode cX2_planEach 9 = .ok (.iload_n 1, 1) := by decide +kernel
theorem dX2_planEach_10 : decode cX2_planEach 10 = .ok (.invokestatic 81, 3) := by decide +kernel
theorem dX2_planEach_13 : decode cX2_planEach 13 = .ok (.ifCond .ne 6, 3) := by decide +kernel
theorem dX2_planEach_16 : decode cX2_planEach 16 = .ok (.goto 118, 3) := by decide +kernel
theorem dX2_planEach_19 : decode cX2_planEach 19 = .ok (.aload_n 0, 1) := by decide +kernel
theorem dX2_planEach_20 : decode cX2_planEach 20 = .ok (.dup, 1) := by decide +kernel
theorem dX2_planEach_21 : decode cX2_planEach 21 = .ok (.getfield 34, 3) := by decide +kernel
theorem dX2_planEach_24 : decode cX2_planEach 24 = .ok (.iconst 1, 1) := by decide +kernel
theorem dX2_planEach_25 : decode cX2_planEach 25 = .ok (.iadd, 1) := by decide +kernel
theorem dX2_planEach_26 : decode cX2_planEach 26 = .ok (.putfield 34, 3) := by decide +kernel
theorem dX2_planEach_29 : decode cX2_planEach 29 = .ok (.iload_n 2, 1) := by decide +kernel
theorem dX2_planEach_30 : decode cX2_planEach 30 = .ok (.tableswitch 98 0 3 #[30, 54, 80, 89], 30) := by decide +kernel
theorem dX2_planEach_60 : decode cX2_planEach 60 = .ok (.aload_n 0, 1) := by decide +kernel
theorem dX2_planEach_61 : decode cX2_planEach 61 = .ok (.getfield 21, 3) := by decide +kernel
theorem dX2_planEach_64 : decode cX2_planEach 64 = .ok (.iload_n 3, 1) := by decide +kernel
theorem dX2_planEach_65 : decode cX2_planEach 65 = .ok (.aload_n 0, 1) := by decide +kernel
theorem dX2_planEach_66 : decode cX2_planEach 66 = .ok (.getfield 9, 3) := by decide +kernel
theorem dX2_planEach_69 : decode cX2_planEach 69 = .ok (.iload_n 3, 1) := by decide +kernel
theorem dX2_planEach_70 : decode cX2_planEach 70 = .ok (.iaload, 1) := by decide +kernel
theorem dX2_planEach_71 : decode cX2_planEach 71 = .ok (.aload_n 0, 1) := by decide +kernel
theorem dX2_planEach_72 : decode cX2_planEach 72 = .ok (.getfield 15, 3) := by decide +kernel
theorem dX2_planEach_75 : decode cX2_planEach 75 = .ok (.iload_n 3, 1) := by decide +kernel
theorem dX2_planEach_76 : decode cX2_planEach 76 = .ok (.iaload, 1) := by decide +kernel
theorem dX2_planEach_77 : decode cX2_planEach 77 = .ok (.invokestatic 85, 3) := by decide +kernel
theorem dX2_planEach_80 : decode cX2_planEach 80 = .ok (.iastore, 1) := by decide +kernel
theorem dX2_planEach_81 : decode cX2_planEach 81 = .ok (.goto 53, 3) := by decide +kernel
theorem dX2_planEach_84 : decode cX2_planEach 84 = .ok (.aload_n 0, 1) := by decide +kernel
theorem dX2_planEach_85 : decode cX2_planEach 85 = .ok (.getfield 21, 3) := by decide +kernel
theorem dX2_planEach_88 : decode cX2_planEach 88 = .ok (.iload_n 3, 1) := by decide +kernel
theorem dX2_planEach_89 : decode cX2_planEach 89 = .ok (.aload_n 0, 1) := by decide +kernel
theorem dX2_planEach_90 : decode cX2_planEach 90 = .ok (.getfield 9, 3) := by decide +kernel
theorem dX2_planEach_93 : decode cX2_planEach 93 = .ok (.iload_n 3, 1) := by decide +kernel
theorem dX2_planEach_94 : decode cX2_planEach 94 = .ok (.iaload, 1) := by decide +kernel
theorem dX2_planEach_95 : decode cX2_planEach 95 = .ok (.aload_n 0, 1) := by decide +kernel
theorem dX2_planEach_96 : decode cX2_planEach 96 = .ok (.getfield 15, 3) := by decide +kernel
theorem dX2_planEach_99 : decode cX2_planEach 99 = .ok (.iload_n 3, 1) := by decide +kernel
theorem dX2_planEach_100 : decode cX2_planEach 100 = .ok (.iaload, 1) := by decide +kernel
theorem dX2_planEach_101 : decode cX2_planEach 101 = .ok (.iconst 2, 1) := by decide +kernel
theorem dX2_planEach_102 : decode cX2_planEach 102 = .ok (.iadd, 1) := by decide +kernel
theorem dX2_planEach_103 : decode cX2_planEach 103 = .ok (.invokestatic 85, 3) := by decide +kernel
theorem dX2_planEach_106 : decode cX2_planEach 106 = .ok (.iastore, 1) := by decide +kernel
theorem dX2_planEach_107 : decode cX2_planEach 107 = .ok (.goto 27, 3) := by decide +kernel
theorem dX2_planEach_110 : decode cX2_planEach 110 = .ok (.aload_n 0, 1) := by decide +kernel
theorem dX2_planEach_111 : decode cX2_planEach 111 = .ok (.iload_n 3, 1) := by decide +kernel
theorem dX2_planEach_112 : decode cX2_planEach 112 = .ok (.iconst 3, 1) := by decide +kernel
theorem dX2_planEach_113 : decode cX2_planEach 113 = .ok (.invokevirtual 89, 3) := by decide +kernel
theorem dX2_planEach_116 : decode cX2_planEach 116 = .ok (.goto 18, 3) := by decide +kernel
theorem dX2_planEach_119 : decode cX2_planEach 119 = .ok (.aload_n 0, 1) := by decide +kernel
theorem dX2_planEach_120 : decode cX2_planEach 120 = .ok (.iload_n 3, 1) := by decide +kernel
theorem dX2_planEach_121 : decode cX2_planEach 121 = .ok (.iconst 1, 1) := by decide +kernel
theorem dX2_planEach_122 : decode cX2_planEach 122 = .ok (.invokevirtual 89, 3) := by decide +kernel
theorem dX2_planEach_125 : decode cX2_planEach 125 = .ok (.goto 9, 3) := by decide +kernel
theorem dX2_planEach_128 : decode cX2_planEach 128 = .ok (.aload_n 0, 1) := by decide +kernel
theorem dX2_planEach_129 : decode cX2_planEach 129 = .ok (.iload_n 3, 1) := by decide +kernel
theorem dX2_planEach_130 : decode cX2_planEach 130 = .ok (.iconst 2, 1) := by decide +kernel
theorem dX2_planEach_131 : decode cX2_planEach 131 = .ok (.invokevirtual 89, 3) := by decide +kernel
theorem dX2_planEach_134 : decode cX2_planEach 134 = .ok (.iinc 3 1, 3) := by decide +kernel
theorem dX2_planEach_137 : decode cX2_planEach 137 = .ok (.goto (-135), 3) := by decide +kernel
theorem dX2_planEach_140 : decode cX2_planEach 140 = .ok (.return_, 1) := by decide +kernel
theorem dX2_planPairs_0 : decode cX2_planPairs 0 = .ok (.iload_n 1, 1) := by decide +kernel
theorem dX2_planPairs_1 : decode cX2_planPairs 1 = .ok (.istore_n 3, 1) := by decide +kernel
theorem dX2_planPairs_2 : decode cX2_planPairs 2 = .ok (.iconst 0, 1) := by decide +kernel
theorem dX2_planPairs_3 : decode cX2_planPairs 3 = .ok (.istore 4, 2) := by decide +kernel
theorem dX2_planPairs_5 : decode cX2_planPairs 5 = .ok (.iload 4, 2) := by decide +kernel
theorem dX2_planPairs_7 : decode cX2_planPairs 7 = .ok (.bipush 8, 2) := by decide +kernel
theorem dX2_planPairs_9 : decode cX2_planPairs 9 = .ok (.if_icmp .ge 91, 3) := by decide +kernel
theorem dX2_planPairs_12 : decode cX2_planPairs 12 = .ok (.iload 4, 2) := by decide +kernel
theorem dX2_planPairs_14 : decode cX2_planPairs 14 = .ok (.iload_n 3, 1) := by decide +kernel
theorem dX2_planPairs_15 : decode cX2_planPairs 15 = .ok (.invokestatic 81, 3) := by decide +kernel
theorem dX2_planPairs_18 : decode cX2_planPairs 18 = .ok (.ifCond .eq 14, 3) := by decide +kernel
theorem dX2_planPairs_21 : decode cX2_planPairs 21 = .ok (.aload_n 0, 1) := by decide +kernel
theorem dX2_planPairs_22 : decode cX2_planPairs 22 = .ok (.iload 4, 2) := by decide +kernel
theorem dX2_planPairs_24 : decode cX2_planPairs 24 = .ok (.iload_n 3, 1) := by decide +kernel
theorem dX2_planPairs_25 : decode cX2_planPairs 25 = .ok (.iload_n 2, 1) := by decide +kernel
theorem dX2_planPairs_26 : decode cX2_planPairs 26 = .ok (.invokevirtual 92, 3) := by decide +kernel
theorem dX2_planPairs_29 : decode cX2_planPairs 29 = .ok (.goto 4, 3) := by decide +kernel
theorem dX2_planPairs_32 : decode cX2_planPairs 32 = .ok (.iconst (-1), 1) := by decide +kernel
theorem dX2_planPairs_33 : decode cX2_planPairs 33 = .ok (.istore 5, 2) := by decide +kernel
theorem dX2_planPairs_35 : decode cX2_planPairs 35 = .ok (.iload 5, 2) := by decide +kernel
theorem dX2_planPairs_37 : decode cX2_planPairs 37 = .ok (.iconst (-1), 1) := by decide +kernel
theorem dX2_planPairs_38 : decode cX2_planPairs 38 = .ok (.if_icmp .ne 6, 3) := by decide +kernel
theorem dX2_planPairs_41 : decode cX2_planPairs 41 = .ok (.goto 53, 3) := by decide +kernel
theorem dX2_planPairs_44 : decode cX2_planPairs 44 = .ok (.iload_n 3, 1) := by decide +kernel
theorem dX2_planPairs_45 : decode cX2_planPairs 45 = .ok (.iconst 1, 1) := by decide +kernel
theorem dX2_planPairs_46 : decode cX2_planPairs 46 = .ok (.iload 4, 2) := by decide +kernel
theorem dX2_planPairs_48 : decode cX2_planPairs 48 = .ok (.ishl, 1) := by decide +kernel
theorem dX2_planPairs_49 : decode cX2_planPairs 49 = .ok (.iconst 1, 1) := by decide +kernel
theorem dX2_planPairs_50 : decode cX2_planPairs 50 = .ok (.iload 5, 2) := by decide +kernel
theorem dX2_planPairs_52 : decode cX2_planPairs 52 = .ok (.ishl, 1) := by decide +kernel
theorem dX2_planPairs_53 : decode cX2_planPairs 53 = .ok (.ior, 1) := by decide +kernel
theorem dX2_planPairs_54 : decode cX2_planPairs 54 = .ok (.iconst (-1), 1) := by decide +kernel
theorem dX2_planPairs_55 : decode cX2_planPairs 55 = .ok (.ixor, 1) := by decide +kernel
theorem dX2_planPairs_56 : decode cX2_planPairs 56 = .ok (.iand, 1) := by decide +kernel
theorem dX2_planPairs_57 : decode cX2_planPairs 57 = .ok (.istore_n 3, 1) := by decide +kernel
theorem dX2_planPairs_58 : decode cX2_planPairs 58 = .ok (.aload_n 0, 1) := by decide +kernel
theorem dX2_planPairs_59 : decode cX2_planPairs 59 = .ok (.dup, 1) := by decide +kernel
theorem dX2_planPairs_60 : decode cX2_planPairs 60 = .ok (.getfield 34, 3) := by decide +kernel
theorem dX2_planPairs_63 : decode cX2_planPairs 63 = .ok (.iconst 1, 1) := by decide +kernel
theorem dX2_planPairs_64 : decode cX2_planPairs 64 = .ok (.iadd, 1) := by decide +kernel
theorem dX2_planPairs_65 : decode cX2_planPairs 65 = .ok (.putfield 34, 3) := by decide +kernel
theorem dX2_planPairs_68 : decode cX2_planPairs 68 = .ok (.iload_n 2, 1) := by decide +kernel
theorem dX2_planPairs_69 : decode cX2_planPairs 69 = .ok (.bipush 10, 2) := by decide +kernel
theorem dX2_planPairs_71 : decode cX2_planPairs 71 = .ok (.if_icmp .ne 14, 3) := by decide +kernel
theorem dX2_planPairs_74 : decode cX2_planPairs 74 = .ok (.aload_n 0, 1) := by decide +kernel
theorem dX2_planPairs_75 : decode cX2_planPairs 75 = .ok (.iload 4, 2) := by decide +kernel
theorem dX2_planPairs_77 : decode cX2_planPairs 77 = .ok (.iload 5, 2) := by decide +kernel
theorem dX2_planPairs_79 : decode cX2_planPairs 79 = .ok (.invokevirtual 96, 3) := by decide +kernel
theorem dX2_planPairs_82 : decode cX2_planPairs 82 = .ok (.goto 12, 3) := by decide +kernel
theorem dX2_planPairs_85 : decode cX2_planPairs 85 = .ok (.aload_n 0, 1) := by decide +kernel
theorem dX2_planPairs_86 : decode cX2_planPairs 86 = .ok (.iload 4, 2) := by decide +kernel
theorem dX2_planPairs_88 : decode cX2_planPairs 88 = .ok (.iload 5, 2) := by decide +kernel
theorem dX2_planPairs_90 : decode cX2_planPairs 90 = .ok (.iload_n 2, 1) := by decide +kernel
theorem dX2_planPairs_91 : decode cX2_planPairs 91 = .ok (.invokevirtual 99, 3) := by decide +kernel
theorem dX2_planPairs_94 : decode cX2_planPairs 94 = .ok (.iinc 4 1, 3) := by decide +kernel
theorem dX2_planPairs_97 : decode cX2_planPairs 97 = .ok (.goto (-92), 3) := by decide +kernel
theorem dX2_planPairs_100 : decode cX2_planPairs 100 = .ok (.aload_n 0, 1) := by decide +kernel
theorem dX2_planPairs_101 : decode cX2_planPairs 101 = .ok (.getfield 34, 3) := by decide +kernel
theorem dX2_planPairs_104 : decode cX2_planPairs 104 = .ok (.ifCond .ne 8, 3) := by decide +kernel
theorem dX2_planPairs_107 : decode cX2_planPairs 107 = .ok (.aload_n 0, 1) := by decide +kernel
theorem dX2_planPairs_108 : decode cX2_planPairs 108 = .ok (.iconst 4, 1) := by decide +kernel
theorem dX2_planPairs_109 : decode cX2_planPairs 109 = .ok (.putfield 30, 3) := by decide +kernel
theorem dX2_planPairs_112 : decode cX2_planPairs 112 = .ok (.return_, 1) := by decide +kernel
theorem dX2_partnerOf_0 : decode cX2_partnerOf 0 = .ok (.iload_n 3, 1) := by decide +kernel
theorem dX2_partnerOf_1 : decode cX2_partnerOf 1 = .ok (.iconst 5, 1) := by decide +kernel
theorem dX2_partnerOf_2 : decode cX2_partnerOf 2 = .ok (.if_icmp .eq 15, 3) := by decide +kernel
theorem dX2_partnerOf_5 : decode cX2_partnerOf 5 = .ok (.iload_n 3, 1) := by decide +kernel
theorem dX2_partnerOf_6 : decode cX2_partnerOf 6 = .ok (.bipush 6, 2) := by decide +kernel
theorem dX2_partnerOf_8 : decode cX2_partnerOf 8 = .ok (.if_icmp .eq 9, 3) := by decide +kernel
theorem dX2_partnerOf_11 : decode cX2_partnerOf 11 = .ok (.iload_n 3, 1) := by decide +kernel
theorem dX2_partnerOf_12 : decode cX2_partnerOf 12 = .ok (.bipush 7, 2) := by decide +kernel
theorem dX2_partnerOf_14 : decode cX2_partnerOf 14 = .ok (.if_icmp .ne 75, 3) := by decide +kernel
theorem dX2_partnerOf_17 : decode cX2_partnerOf 17 = .ok (.aload_n 0, 1) := by decide +kernel
theorem dX2_partnerOf_18 : decode cX2_partnerOf 18 = .ok (.iload_n 1, 1) := by decide +kernel
theorem dX2_partnerOf_19 : decode cX2_partnerOf 19 = .ok (.iconst 0, 1) := by decide +kernel
theorem dX2_partnerOf_20 : decode cX2_partnerOf 20 = .ok (.invokevirtual 103, 3) := by decide +kernel
theorem dX2_partnerOf_23 : decode cX2_partnerOf 23 = .ok (.istore 4, 2) := by decide +kernel
theorem dX2_partnerOf_25 : decode cX2_partnerOf 25 = .ok (.iload 4, 2) := by decide +kernel
theorem dX2_partnerOf_27 : decode cX2_partnerOf 27 = .ok (.iload_n 2, 1) := by decide +kernel
theorem dX2_partnerOf_28 : decode cX2_partnerOf 28 = .ok (.invokestatic 81, 3) := by decide +kernel
theorem dX2_partnerOf_31 : decode cX2_partnerOf 31 = .ok (.ifCond .eq 43, 3) := by decide +kernel
theorem dX2_partnerOf_34 : decode cX2_partnerOf 34 = .ok (.aload_n 0, 1) := by decide +kernel
theorem dX2_partnerOf_35 : decode cX2_partnerOf 35 = .ok (.getfield 15, 3) := by decide +kernel
theorem dX2_partnerOf_38 : decode cX2_partnerOf 38 = .ok (.iload 4, 2) := by decide +kernel
theorem dX2_partnerOf_40 : decode cX2_partnerOf 40 = .ok (.iaload, 1) := by decide +kernel
theorem dX2_partnerOf_41 : decode cX2_partnerOf 41 = .ok (.aload_n 0, 1) := by decide +kernel
theorem dX2_partnerOf_42 : decode cX2_partnerOf 42 = .ok (.getfield 15, 3) := by decide +kernel
theorem dX2_partnerOf_45 : decode cX2_partnerOf 45 = .ok (.iload_n 1, 1) := by decide +kernel
theorem dX2_partnerOf_46 : decode cX2_partnerOf 46 = .ok (.iaload, 1) := by decide +kernel
theorem dX2_partnerOf_47 : decode cX2_partnerOf 47 = .ok (.iconst 2, 1) := by decide +kernel
theorem dX2_partnerOf_48 : decode cX2_partnerOf 48 = .ok (.iadd, 1) := by decide +kernel
theorem dX2_partnerOf_49 : decode cX2_partnerOf 49 = .ok (.iconst 4, 1) := by decide +kernel
theorem dX2_partnerOf_50 : decode cX2_partnerOf 50 = .ok (.irem, 1) := by decide +kernel
theorem dX2_partnerOf_51 : decode cX2_partnerOf 51 = .ok (.if_icmp .ne 23, 3) := by decide +kernel
theorem dX2_partnerOf_54 : decode cX2_partnerOf 54 = .ok (.iload_n 3, 1) := by decide +kernel
theorem dX2_partnerOf_55 : decode cX2_partnerOf 55 = .ok (.bipush 6, 2) := by decide +kernel
theorem dX2_partnerOf_57 : decode cX2_partnerOf 57 = .ok (.if_icmp .ne 13, 3) := by decide +kernel
theorem dX2_partnerOf_60 : decode cX2_partnerOf 60 = .ok (.iload 4, 2) := by decide +kernel
theorem dX2_partnerOf_62 : decode cX2_partnerOf 62 = .ok (.iconst 2, 1) := by decide +kernel
theorem dX2_partnerOf_63 : decode cX2_partnerOf 63 = .ok (.irem, 1) := by decide +kernel
theorem dX2_partnerOf_64 : decode cX2_partnerOf 64 = .ok (.iload_n 1, 1) := by decide +kernel
theorem dX2_partnerOf_65 : decode cX2_partnerOf 65 = .ok (.iconst 2, 1) := by decide +kernel
theorem dX2_partnerOf_66 : decode cX2_partnerOf 66 = .ok (.irem, 1) := by decide +kernel
theorem dX2_partnerOf_67 : decode cX2_partnerOf 67 = .ok (.if_icmp .eq 7, 3) := by decide +kernel
theorem dX2_partnerOf_70 : decode cX2_partnerOf 70 = .ok (.iconst 1, 1) := by decide +kernel
theorem dX2_partnerOf_71 : decode cX2_partnerOf 71 = .ok (.goto 4, 3) := by decide +kernel
theorem dX2_partnerOf_74 : decode cX2_partnerOf 74 = .ok (.iconst 0, 1) := by decide +kernel
theorem dX2_partnerOf_75 : decode cX2_partnerOf 75 = .ok (.istore 5, 2) := by decide +kernel
theorem dX2_partnerOf_77 : decode cX2_partnerOf 77 = .ok (.iload 5, 2) := by decide +kernel
theorem dX2_partnerOf_79 : decode cX2_partnerOf 79 = .ok (.ifCond .eq 8, 3) := by decide +kernel
theorem dX2_partnerOf_82 : decode cX2_partnerOf 82 = .ok (.iload 4, 2) := by decide +kernel
theorem dX2_partnerOf_84 : decode cX2_partnerOf 84 = .ok (.goto 4, 3) := by decide +kernel
theorem dX2_partnerOf_87 : decode cX2_partnerOf 87 = .ok (.iconst (-1), 1) := by decide +kernel
theorem dX2_partnerOf_88 : decode cX2_partnerOf 88 = .ok (.ireturn, 1) := by decide +kernel
theorem dX2_partnerOf_89 : decode cX2_partnerOf 89 = .ok (.aload_n 0, 1) := by decide +kernel
theorem dX2_partnerOf_90 : decode cX2_partnerOf 90 = .ok (.iload_n 1, 1) := by decide +kernel
theorem dX2_partnerOf_91 : decode cX2_partnerOf 91 = .ok (.iconst 1, 1) := by decide +kernel
theorem dX2_partnerOf_92 : decode cX2_partnerOf 92 = .ok (.invokevirtual 103, 3) := by decide +kernel
theorem dX2_partnerOf_95 : decode cX2_partnerOf 95 = .ok (.istore 4, 2) := by decide +kernel
theorem dX2_partnerOf_97 : decode cX2_partnerOf 97 = .ok (.iload 4, 2) := by decide +kernel
theorem dX2_partnerOf_99 : decode cX2_partnerOf 99 = .ok (.iload_n 2, 1) := by decide +kernel
theorem dX2_partnerOf_100 : decode cX2_partnerOf 100 = .ok (.invokestatic 81, 3) := by decide +kernel
theorem dX2_partnerOf_103 : decode cX2_partnerOf 103 = .ok (.ifCond .eq 22, 3) := by decide +kernel
theorem dX2_partnerOf_106 : decode cX2_partnerOf 106 = .ok (.aload_n 0, 1) := by decide +kernel
theorem dX2_partnerOf_107 : decode cX2_partnerOf 107 = .ok (.getfield 15, 3) := by decide +kernel
theorem dX2_partnerOf_110 : decode cX2_partnerOf 110 = .ok (.iload 4, 2) := by decide +kernel
theorem dX2_partnerOf_112 : decode cX2_partnerOf 112 = .ok (.iaload, 1) := by decide +kernel
theorem dX2_partnerOf_113 : decode cX2_partnerOf 113 = .ok (.aload_n 0, 1) := by decide +kernel
theorem dX2_partnerOf_114 : decode cX2_partnerOf 114 = .ok (.getfield 15, 3) := by decide +kernel
theorem dX2_partnerOf_117 : decode cX2_partnerOf 117 = .ok (.iload_n 1, 1) := by decide +kernel
theorem dX2_partnerOf_118 : decode cX2_partnerOf 118 = .ok (.iaload, 1) := by decide +kernel
theorem dX2_partnerOf_119 : decode cX2_partnerOf 119 = .ok (.if_icmp .ne 6, 3) := by decide +kernel
theorem dX2_partnerOf_122 : decode cX2_partnerOf 122 = .ok (.iload 4, 2) := by decide +kernel
theorem dX2_partnerOf_124 : decode cX2_partnerOf 124 = .ok (.ireturn, 1) := by decide +kernel
theorem dX2_partnerOf_125 : decode cX2_partnerOf 125 = .ok (.aload_n 0, 1) := by decide +kernel
theorem dX2_partnerOf_126 : decode cX2_partnerOf 126 = .ok (.iload_n 1, 1) := by decide +kernel
theorem dX2_partnerOf_127 : decode cX2_partnerOf 127 = .ok (.iconst 3, 1) := by decide +kernel
theorem dX2_partnerOf_128 : decode cX2_partnerOf 128 = .ok (.invokevirtual 103, 3) := by decide +kernel
theorem dX2_partnerOf_131 : decode cX2_partnerOf 131 = .ok (.istore 5, 2) := by decide +kernel
theorem dX2_partnerOf_133 : decode cX2_partnerOf 133 = .ok (.iload 5, 2) := by decide +kernel
theorem dX2_partnerOf_135 : decode cX2_partnerOf 135 = .ok (.iload_n 2, 1) := by decide +kernel
theorem dX2_partnerOf_136 : decode cX2_partnerOf 136 = .ok (.invokestatic 81, 3) := by decide +kernel
theorem dX2_partnerOf_139 : decode cX2_partnerOf 139 = .ok (.ifCond .eq 24, 3) := by decide +kernel
theorem dX2_partnerOf_142 : decode cX2_partnerOf 142 = .ok (.aload_n 0, 1) := by decide +kernel
theorem dX2_partnerOf_143 : decode cX2_partnerOf 143 = .ok (.getfield 15, 3) := by decide +kernel
theorem dX2_partnerOf_146 : decode cX2_partnerOf 146 = .ok (.iload 5, 2) := by decide +kernel
theorem dX2_partnerOf_148 : decode cX2_partnerOf 148 = .ok (.iaload, 1) := by decide +kernel
theorem dX2_partnerOf_149 : decode cX2_partnerOf 149 = .ok (.aload_n 0, 1) := by decide +kernel
theorem dX2_partnerOf_150 : decode cX2_partnerOf 150 = .ok (.getfield 15, 3) := by decide +kernel
theorem dX2_partnerOf_153 : decode cX2_partnerOf 153 = .ok (.iload_n 1, 1) := by decide +kernel
theorem dX2_partnerOf_154 : decode cX2_partnerOf 154 = .ok (.iaload, 1) := by decide +kernel
theorem dX2_partnerOf_155 : decode cX2_partnerOf 155 = .ok (.if_icmp .ne 8, 3) := by decide +kernel
theorem dX2_partnerOf_158 : decode cX2_partnerOf 158 = .ok (.iload 5, 2) := by decide +kernel
theorem dX2_partnerOf_160 : decode cX2_partnerOf 160 = .ok (.goto 4, 3) := by decide +kernel
theorem dX2_partnerOf_163 : decode cX2_partnerOf 163 = .ok (.iconst (-1), 1) := by decide +kernel
theorem dX2_partnerOf_164 : decode cX2_partnerOf 164 = .ok (.ireturn, 1) := by decide +kernel
theorem dX2_planFold_0 : decode cX2_planFold 0 = .ok (.aload_n 0, 1) := by decide +kernel
theorem dX2_planFold_1 : decode cX2_planFold 1 = .ok (.iload_n 1, 1) := by decide +kernel
theorem dX2_planFold_2 : decode cX2_planFold 2 = .ok (.iconst 1, 1) := by decide +kernel
theorem dX2_planFold_3 : decode cX2_planFold 3 = .ok (.invokevirtual 103, 3) := by decide +kernel
theorem dX2_planFold_6 : decode cX2_planFold 6 = .ok (.iload_n 2, 1) := by decide +kernel
theorem dX2_planFold_7 : decode cX2_planFold 7 = .ok (.if_icmp .ne 7, 3) := by decide +kernel
theorem dX2_planFold_10 : decode cX2_planFold 10 = .ok (.iconst 1, 1) := by decide +kernel
theorem dX2_planFold_11 : decode cX2_planFold 11 = .ok (.goto 4, 3) := by decide +kernel
theorem dX2_planFold_14 : decode cX2_planFold 14 = .ok (.iconst 0, 1) := by decide +kernel
theorem dX2_planFold_15 : decode cX2_planFold 15 = .ok (.istore_n 3, 1) := by decide +kernel
theorem dX2_planFold_16 : decode cX2_planFold 16 = .ok (.iload_n 3, 1) := by decide +kernel
theorem dX2_planFold_17 : decode cX2_planFold 17 = .ok (.ifCond .eq 7, 3) := by decide +kernel
theorem dX2_planFold_20 : decode cX2_planFold 20 = .ok (.iload_n 1, 1) := by decide +kernel
theorem dX2_planFold_21 : decode cX2_planFold 21 = .ok (.goto 4, 3) := by decide +kernel
theorem dX2_planFold_24 : decode cX2_planFold 24 = .ok (.iload_n 2, 1) := by decide +kernel
theorem dX2_planFold_25 : decode cX2_planFold 25 = .ok (.istore 4, 2) := by decide +kernel
theorem dX2_planFold_27 : decode cX2_planFold 27 = .ok (.iload_n 3, 1) := by decide +kernel
theorem dX2_planFold_28 : decode cX2_planFold 28 = .ok (.ifCond .eq 7, 3) := by decide +kernel
theorem dX2_planFold_31 : decode cX2_planFold 31 = .ok (.iload_n 2, 1) := by decide +kernel
theorem dX2_planFold_32 : decode cX2_planFold 32 = .ok (.goto 4, 3) := by decide +kernel
theorem dX2_planFold_35 : decode cX2_planFold 35 = .ok (.iload_n 1, 1) := by decide +kernel
theorem dX2_planFold_36 : decode cX2_planFold 36 = .ok (.istore 5, 2) := by decide +kernel
theorem dX2_planFold_38 : decode cX2_planFold 38 = .ok (.aload_n 0, 1) := by decide +kernel
theorem dX2_planFold_39 : decode cX2_planFold 39 = .ok (.getfield 21, 3) := by decide +kernel
theorem dX2_planFold_42 : decode cX2_planFold 42 = .ok (.iload 5, 2) := by decide +kernel
theorem dX2_planFold_44 : decode cX2_planFold 44 = .ok (.aload_n 0, 1) := by decide +kernel
theorem dX2_planFold_45 : decode cX2_planFold 45 = .ok (.getfield 9, 3) := by decide +kernel
theorem dX2_planFold_48 : decode cX2_planFold 48 = .ok (.iload 4, 2) := by decide +kernel
theorem dX2_planFold_50 : decode cX2_planFold 50 = .ok (.iaload, 1) := by decide +kernel
theorem dX2_planFold_51 : decode cX2_planFold 51 = .ok (.aload_n 0, 1) := by decide +kernel
theorem dX2_planFold_52 : decode cX2_planFold 52 = .ok (.getfield 15, 3) := by decide +kernel
theorem dX2_planFold_55 : decode cX2_planFold 55 = .ok (.iload 4, 2) := by decide +kernel
theorem dX2_planFold_57 : decode cX2_planFold 57 = .ok (.iaload, 1) := by decide +kernel
theorem dX2_planFold_58 : decode cX2_planFold 58 = .ok (.invokestatic 85, 3) := by decide +kernel
theorem dX2_planFold_61 : decode cX2_planFold 61 = .ok (.iastore, 1) := by decide +kernel
theorem dX2_planFold_62 : decode cX2_planFold 62 = .ok (.aload_n 0, 1) := by decide +kernel
theorem dX2_planFold_63 : decode cX2_planFold 63 = .ok (.iload 5, 2) := by decide +kernel
theorem dX2_planFold_65 : decode cX2_planFold 65 = .ok (.iconst 2, 1) := by decide +kernel
theorem dX2_planFold_66 : decode cX2_planFold 66 = .ok (.invokevirtual 89, 3) := by decide +kernel
theorem dX2_planFold_69 : decode cX2_planFold 69 = .ok (.return_, 1) := by decide +kernel
theorem dX2_planChange_0 : decode cX2_planChange 0 = .ok (.aload_n 0, 1) := by decide +kernel
theorem dX2_planChange_1 : decode cX2_planChange 1 = .ok (.getfield 21, 3) := by decide +kernel
theorem dX2_planChange_4 : decode cX2_planChange 4 = .ok (.iload_n 1, 1) := by decide +kernel
theorem dX2_planChange_5 : decode cX2_planChange 5 = .ok (.aload_n 0, 1) := by decide +kernel
theorem dX2_planChange_6 : decode cX2_planChange 6 = .ok (.getfield 9, 3) := by decide +kernel
theorem dX2_planChange_9 : decode cX2_planChange 9 = .ok (.iload_n 2, 1) := by decide +kernel
theorem dX2_planChange_10 : decode cX2_planChange 10 = .ok (.iaload, 1) := by decide +kernel
theorem dX2_planChange_11 : decode cX2_planChange 11 = .ok (.iastore, 1) := by decide +kernel
theorem dX2_planChange_12 : decode cX2_planChange 12 = .ok (.aload_n 0, 1) := by decide +kernel
theorem dX2_planChange_13 : decode cX2_planChange 13 = .ok (.getfield 21, 3) := by decide +kernel
theorem dX2_planChange_16 : decode cX2_planChange 16 = .ok (.iload_n 2, 1) := by decide +kernel
theorem dX2_planChange_17 : decode cX2_planChange 17 = .ok (.aload_n 0, 1) := by decide +kernel
theorem dX2_planChange_18 : decode cX2_planChange 18 = .ok (.getfield 9, 3) := by decide +kernel
theorem dX2_planChange_21 : decode cX2_planChange 21 = .ok (.iload_n 1, 1) := by decide +kernel
theorem dX2_planChange_22 : decode cX2_planChange 22 = .ok (.iaload, 1) := by decide +kernel
theorem dX2_planChange_23 : decode cX2_planChange 23 = .ok (.iastore, 1) := by decide +kernel
theorem dX2_planChange_24 : decode cX2_planChange 24 = .ok (.iload_n 3, 1) := by decide +kernel
theorem dX2_planChange_25 : decode cX2_planChange 25 = .ok (.bipush 6, 2) := by decide +kernel
theorem dX2_planChange_27 : decode cX2_planChange 27 = .ok (.if_icmp .ne 38, 3) := by decide +kernel
theorem dX2_planChange_30 : decode cX2_planChange 30 = .ok (.aload_n 0, 1) := by decide +kernel
theorem dX2_planChange_31 : decode cX2_planChange 31 = .ok (.iload_n 1, 1) := by decide +kernel
theorem dX2_planChange_32 : decode cX2_planChange 32 = .ok (.iload_n 1, 1) := by decide +kernel
theorem dX2_planChange_33 : decode cX2_planChange 33 = .ok (.iconst 2, 1) := by decide +kernel
theorem dX2_planChange_34 : decode cX2_planChange 34 = .ok (.irem, 1) := by decide +kernel
theorem dX2_planChange_35 : decode cX2_planChange 35 = .ok (.ifCond .ne 7, 3) := by decide +kernel
theorem dX2_planChange_38 : decode cX2_planChange 38 = .ok (.iconst 1, 1) := by decide +kernel
theorem dX2_planChange_39 : decode cX2_planChange 39 = .ok (.goto 4, 3) := by decide +kernel
theorem dX2_planChange_42 : decode cX2_planChange 42 = .ok (.iconst 3, 1) := by decide +kernel
theorem dX2_planChange_43 : decode cX2_planChange 43 = .ok (.invokevirtual 89, 3) := by decide +kernel
theorem dX2_planChange_46 : decode cX2_planChange 46 = .ok (.aload_n 0, 1) := by decide +kernel
theorem dX2_planChange_47 : decode cX2_planChange 47 = .ok (.iload_n 2, 1) := by decide +kernel
theorem dX2_planChange_48 : decode cX2_planChange 48 = .ok (.iload_n 2, 1) := by decide +kernel
theorem dX2_planChange_49 : decode cX2_planChange 49 = .ok (.iconst 2, 1) := by decide +kernel
theorem dX2_planChange_50 : decode cX2_planChange 50 = .ok (.irem, 1) := by decide +kernel
theorem dX2_planChange_51 : decode cX2_planChange 51 = .ok (.ifCond .ne 7, 3) := by decide +kernel
theorem dX2_planChange_54 : decode cX2_planChange 54 = .ok (.iconst 1, 1) := by decide +kernel
theorem dX2_planChange_55 : decode cX2_planChange 55 = .ok (.goto 4, 3) := by decide +kernel
theorem dX2_planChange_58 : decode cX2_planChange 58 = .ok (.iconst 3, 1) := by decide +kernel
theorem dX2_planChange_59 : decode cX2_planChange 59 = .ok (.invokevirtual 89, 3) := by decide +kernel
theorem dX2_planChange_62 : decode cX2_planChange 62 = .ok (.goto 42, 3) := by decide +kernel
theorem dX2_planChange_65 : decode cX2_planChange 65 = .ok (.iload_n 3, 1) := by decide +kernel
theorem dX2_planChange_66 : decode cX2_planChange 66 = .ok (.bipush 7, 2) := by decide +kernel
theorem dX2_planChange_68 : decode cX2_planChange 68 = .ok (.if_icmp .ne 18, 3) := by decide +kernel
theorem dX2_planChange_71 : decode cX2_planChange 71 = .ok (.aload_n 0, 1) := by decide +kernel
theorem dX2_planChange_72 : decode cX2_planChange 72 = .ok (.iload_n 1, 1) := by decide +kernel
theorem dX2_planChange_73 : decode cX2_planChange 73 = .ok (.iconst 1, 1) := by decide +kernel
theorem dX2_planChange_74 : decode cX2_planChange 74 = .ok (.invokevirtual 89, 3) := by decide +kernel
theorem dX2_planChange_77 : decode cX2_planChange 77 = .ok (.aload_n 0, 1) := by decide +kernel
theorem dX2_planChange_78 : decode cX2_planChange 78 = .ok (.iload_n 2, 1) := by decide +kernel
theorem dX2_planChange_79 : decode cX2_planChange 79 = .ok (.iconst 1, 1) := by decide +kernel
theorem dX2_planChange_80 : decode cX2_planChange 80 = .ok (.invokevirtual 89, 3) := by decide +kernel
theorem dX2_planChange_83 : decode cX2_planChange 83 = .ok (.goto 21, 3) := by decide +kernel
theorem dX2_planChange_86 : decode cX2_planChange 86 = .ok (.iload_n 3, 1) := by decide +kernel
theorem dX2_planChange_87 : decode cX2_planChange 87 = .ok (.bipush 9, 2) := by decide +kernel
theorem dX2_planChange_89 : decode cX2_planChange 89 = .ok (.if_icmp .ne 15, 3) := by decide +kernel
theorem dX2_planChange_92 : decode cX2_planChange 92 = .ok (.aload_n 0, 1) := by decide +kernel
theorem dX2_planChange_93 : decode cX2_planChange 93 = .ok (.iload_n 1, 1) := by decide +kernel
theorem dX2_planChange_94 : decode cX2_planChange 94 = .ok (.iconst 2, 1) := by decide +kernel
theorem dX2_planChange_95 : decode cX2_planChange 95 = .ok (.invokevirtual 89, 3) := by decide +kernel
theorem dX2_planChange_98 : decode cX2_planChange 98 = .ok (.aload_n 0, 1) := by decide +kernel
theorem dX2_planChange_99 : decode cX2_planChange 99 = .ok (.iload_n 2, 1) := by decide +kernel
theorem dX2_planChange_100 : decode cX2_planChange 100 = .ok (.iconst 2, 1) := by decide +kernel
theorem dX2_planChange_101 : decode cX2_planChange 101 = .ok (.invokevirtual 89, 3) := by decide +kernel
theorem dX2_planChange_104 : decode cX2_planChange 104 = .ok (.return_, 1) := by decide +kernel
theorem dX2_turn_0 : decode cX2_turn 0 = .ok (.aload_n 0, 1) := by decide +kernel
theorem dX2_turn_1 : decode cX2_turn 1 = .ok (.getfield 24, 3) := by decide +kernel
theorem dX2_turn_4 : decode cX2_turn 4 = .ok (.iload_n 1, 1) := by decide +kernel
theorem dX2_turn_5 : decode cX2_turn 5 = .ok (.aload_n 0, 1) := by decide +kernel
theorem dX2_turn_6 : decode cX2_turn 6 = .ok (.getfield 15, 3) := by decide +kernel
theorem dX2_turn_9 : decode cX2_turn 9 = .ok (.iload_n 1, 1) := by decide +kernel
theorem dX2_turn_10 : decode cX2_turn 10 = .ok (.iaload, 1) := by decide +kernel
theorem dX2_turn_11 : decode cX2_turn 11 = .ok (.iload_n 2, 1) := by decide +kernel
theorem dX2_turn_12 : decode cX2_turn 12 = .ok (.iadd, 1) := by decide +kernel
theorem dX2_turn_13 : decode cX2_turn 13 = .ok (.iconst 4, 1) := by decide +kernel
theorem dX2_turn_14 : decode cX2_turn 14 = .ok (.irem, 1) := by decide +kernel
theorem dX2_turn_15 : decode cX2_turn 15 = .ok (.iastore, 1) := by decide +kernel
theorem dX2_turn_16 : decode cX2_turn 16 = .ok (.return_, 1) := by decide +kernel
theorem dX2_someFall_0 : decode cX2_someFall 0 = .ok (.iconst 0, 1) := by decide +kernel
theorem dX2_someFall_1 : decode cX2_someFall 1 = .ok (.istore_n 1, 1) := by decide +kernel
theorem dX2_someFall_2 : decode cX2_someFall 2 = .ok (.iconst 0, 1) := by decide +kernel
theorem dX2_someFall_3 : decode cX2_someFall 3 = .ok (.istore_n 2, 1) := by decide +kernel
theorem dX2_someFall_4 : decode cX2_someFall 4 = .ok (.iload_n 2, 1) := by decide +kernel
theorem dX2_someFall_5 : decode cX2_someFall 5 = .ok (.bipush 8, 2) := by decide +kernel
theorem dX2_someFall_7 : decode cX2_someFall 7 = .ok (.if_icmp .ge 49, 3) := by decide +kernel
theorem dX2_someFall_10 : decode cX2_someFall 10 = .ok (.aload_n 0, 1) := by decide +kernel
theorem dX2_someFall_11 : decode cX2_someFall 11 = .ok (.getfield 27, 3) := by decide +kernel
theorem dX2_someFall_14 : decode cX2_someFall 14 = .ok (.iload_n 2, 1) := by decide +kernel
theorem dX2_someFall_15 : decode cX2_someFall 15 = .ok (.aload_n 0, 1) := by decide +kernel
theorem dX2_someFall_16 : decode cX2_someFall 16 = .ok (.iload_n 2, 1) := by decide +kernel
theorem dX2_someFall_17 : decode cX2_someFall 17 = .ok (.invokevirtual 106, 3) := by decide +kernel
theorem dX2_someFall_20 : decode cX2_someFall 20 = .ok (.ifCond .eq 11, 3) := by decide +kernel
theorem dX2_someFall_23 : decode cX2_someFall 23 = .ok (.aload_n 0, 1) := by decide +kernel
theorem dX2_someFall_24 : decode cX2_someFall 24 = .ok (.iload_n 2, 1) := by decide +kernel
theorem dX2_someFall_25 : decode cX2_someFall 25 = .ok (.invokevirtual 110, 3) := by decide +kernel
theorem dX2_someFall_28 : decode cX2_someFall 28 = .ok (.goto 4, 3) := by decide +kernel
theorem dX2_someFall_31 : decode cX2_someFall 31 = .ok (.iconst 0, 1) := by decide +kernel
theorem dX2_someFall_32 : decode cX2_someFall 32 = .ok (.iastore, 1) := by decide +kernel
theorem dX2_someFall_33 : decode cX2_someFall 33 = .ok (.iload_n 1, 1) := by decide +kernel
theorem dX2_someFall_34 : decode cX2_someFall 34 = .ok (.aload_n 0, 1) := by decide +kernel
theorem dX2_someFall_35 : decode cX2_someFall 35 = .ok (.getfield 27, 3) := by decide +kernel
theorem dX2_someFall_38 : decode cX2_someFall 38 = .ok (.iload_n 2, 1) := by decide +kernel
theorem dX2_someFall_39 : decode cX2_someFall 39 = .ok (.iaload, 1) := by decide +kernel
theorem dX2_someFall_40 : decode cX2_someFall 40 = .ok (.ifCond .eq 7, 3) := by decide +kernel
theorem dX2_someFall_43 : decode cX2_someFall 43 = .ok (.iconst 1, 1) := by decide +kernel
theorem dX2_someFall_44 : decode cX2_someFall 44 = .ok (.goto 4, 3) := by decide +kernel
theorem dX2_someFall_47 : decode cX2_someFall 47 = .ok (.iconst 0, 1) := by decide +kernel
theorem dX2_someFall_48 : decode cX2_someFall 48 = .ok (.ior, 1) := by decide +kernel
theorem dX2_someFall_49 : decode cX2_someFall 49 = .ok (.istore_n 1, 1) := by decide +kernel
theorem dX2_someFall_50 : decode cX2_someFall 50 = .ok (.iinc 2 1, 3) := by decide +kernel
theorem dX2_someFall_53 : decode cX2_someFall 53 = .ok (.goto (-49), 3) := by decide +kernel
theorem dX2_someFall_56 : decode cX2_someFall 56 = .ok (.iload_n 1, 1) := by decide +kernel
theorem dX2_someFall_57 : decode cX2_someFall 57 = .ok (.ireturn, 1) := by decide +kernel
theorem dX2_goes_0 : decode cX2_goes 0 = .ok (.aload_n 0, 1) := by decide +kernel
theorem dX2_goes_1 : decode cX2_goes 1 = .ok (.getfield 21, 3) := by decide +kernel
theorem dX2_goes_4 : decode cX2_goes 4 = .ok (.iload_n 1, 1) := by decide +kernel
theorem dX2_goes_5 : decode cX2_goes 5 = .ok (.iaload, 1) := by decide +kernel
theorem dX2_goes_6 : decode cX2_goes 6 = .ok (.aload_n 0, 1) := by decide +kernel
theorem dX2_goes_7 : decode cX2_goes 7 = .ok (.getfield 9, 3) := by decide +kernel
theorem dX2_goes_10 : decode cX2_goes 10 = .ok (.iload_n 1, 1) := by decide +kernel
theorem dX2_goes_11 : decode cX2_goes 11 = .ok (.iaload, 1) := by decide +kernel
theorem dX2_goes_12 : decode cX2_goes 12 = .ok (.if_icmp .eq 7, 3) := by decide +kernel
theorem dX2_goes_15 : decode cX2_goes 15 = .ok (.iconst 1, 1) := by decide +kernel
theorem dX2_goes_16 : decode cX2_goes 16 = .ok (.goto 4, 3) := by decide +kernel
theorem dX2_goes_19 : decode cX2_goes 19 = .ok (.iconst 0, 1) := by decide +kernel
theorem dX2_goes_20 : decode cX2_goes 20 = .ok (.ireturn, 1) := by decide +kernel
theorem dX2_whyFalls_0 : decode cX2_whyFalls 0 = .ok (.aload_n 0, 1) := by decide +kernel
theorem dX2_whyFalls_1 : decode cX2_whyFalls 1 = .ok (.getfield 21, 3) := by decide +kernel
theorem dX2_whyFalls_4 : decode cX2_whyFalls 4 = .ok (.iload_n 1, 1) := by decide +kernel
theorem dX2_whyFalls_5 : decode cX2_whyFalls 5 = .ok (.iaload, 1) := by decide +kernel
theorem dX2_whyFalls_6 : decode cX2_whyFalls 6 = .ok (.istore_n 2, 1) := by decide +kernel
theorem dX2_whyFalls_7 : decode cX2_whyFalls 7 = .ok (.iload_n 2, 1) := by decide +kernel
theorem dX2_whyFalls_8 : decode cX2_whyFalls 8 = .ok (.iconst (-1), 1) := by decide +kernel
theorem dX2_whyFalls_9 : decode cX2_whyFalls 9 = .ok (.if_icmp .ne 5, 3) := by decide +kernel
theorem dX2_whyFalls_12 : decode cX2_whyFalls 12 = .ok (.iconst 1, 1) := by decide +kernel
theorem dX2_whyFalls_13 : decode cX2_whyFalls 13 = .ok (.ireturn, 1) := by decide +kernel
theorem dX2_whyFalls_14 : decode cX2_whyFalls 14 = .ok (.aload_n 0, 1) := by decide +kernel
theorem dX2_whyFalls_15 : decode cX2_whyFalls 15 = .ok (.getfield 18, 3) := by decide +kernel
theorem dX2_whyFalls_18 : decode cX2_whyFalls 18 = .ok (.iload_n 2, 1) := by decide +kernel
theorem dX2_whyFalls_19 : decode cX2_whyFalls 19 = .ok (.iaload, 1) := by decide +kernel
theorem dX2_whyFalls_20 : decode cX2_whyFalls 20 = .ok (.istore_n 3, 1) := by decide +kernel
theorem dX2_whyFalls_21 : decode cX2_whyFalls 21 = .ok (.iload_n 3, 1) := by decide +kernel
theorem dX2_whyFalls_22 : decode cX2_whyFalls 22 = .ok (.iconst (-1), 1) := by decide +kernel
theorem dX2_whyFalls_23 : decode cX2_whyFalls 23 = .ok (.if_icmp .eq 28, 3) := by decide +kernel
theorem dX2_whyFalls_26 : decode cX2_whyFalls 26 = .ok (.aload_n 0, 1) := by decide +kernel
theorem dX2_whyFalls_27 : decode cX2_whyFalls 27 = .ok (.iload_n 3, 1) := by decide +kernel
theorem dX2_whyFalls_28 : decode cX2_whyFalls 28 = .ok (.invokevirtual 106, 3) := by decide +kernel
theorem dX2_whyFalls_31 : decode cX2_whyFalls 31 = .ok (.ifCond .eq 18, 3) := by decide +kernel
theorem dX2_whyFalls_34 : decode cX2_whyFalls 34 = .ok (.aload_n 0, 1) := by decide +kernel
theorem dX2_whyFalls_35 : decode cX2_whyFalls 35 = .ok (.getfield 21, 3) := by decide +kernel
theorem dX2_whyFalls_38 : decode cX2_whyFalls 38 = .ok (.iload_n 3, 1) := by decide +kernel
theorem dX2_whyFalls_39 : decode cX2_whyFalls 39 = .ok (.iaload, 1) := by decide +kernel
theorem dX2_whyFalls_40 : decode cX2_whyFalls 40 = .ok (.aload_n 0, 1) := by decide +kernel
theorem dX2_whyFalls_41 : decode cX2_whyFalls 41 = .ok (.getfield 9, 3) := by decide +kernel
theorem dX2_whyFalls_44 : decode cX2_whyFalls 44 = .ok (.iload_n 1, 1) := by decide +kernel
theorem dX2_whyFalls_45 : decode cX2_whyFalls 45 = .ok (.iaload, 1) := by decide +kernel
theorem dX2_whyFalls_46 : decode cX2_whyFalls 46 = .ok (.if_icmp .ne 5, 3) := by decide +kernel
theorem dX2_whyFalls_49 : decode cX2_whyFalls 49 = .ok (.iconst 2, 1) := by decide +kernel
theorem dX2_whyFalls_50 : decode cX2_whyFalls 50 = .ok (.ireturn, 1) := by decide +kernel
theorem dX2_whyFalls_51 : decode cX2_whyFalls 51 = .ok (.iconst 0, 1) := by decide +kernel
theorem dX2_whyFalls_52 : decode cX2_whyFalls 52 = .ok (.istore 4, 2) := by decide +kernel
theorem dX2_whyFalls_54 : decode cX2_whyFalls 54 = .ok (.iload 4, 2) := by decide +kernel
theorem dX2_whyFalls_56 : decode cX2_whyFalls 56 = .ok (.bipush 8, 2) := by decide +kernel
theorem dX2_whyFalls_58 : decode cX2_whyFalls 58 = .ok (.if_icmp .ge 28, 3) := by decide +kernel
theorem dX2_whyFalls_61 : decode cX2_whyFalls 61 = .ok (.iload 4, 2) := by decide +kernel
theorem dX2_whyFalls_63 : decode cX2_whyFalls 63 = .ok (.iload_n 1, 1) := by decide +kernel
theorem dX2_whyFalls_64 : decode cX2_whyFalls 64 = .ok (.if_icmp .eq 16, 3) := by decide +kernel
theorem dX2_whyFalls_67 : decode cX2_whyFalls 67 = .ok (.aload_n 0, 1) := by decide +kernel
theorem dX2_whyFalls_68 : decode cX2_whyFalls 68 = .ok (.getfield 21, 3) := by decide +kernel
theorem dX2_whyFalls_71 : decode cX2_whyFalls 71 = .ok (.iload 4, 2) := by decide +kernel
theorem dX2_whyFalls_73 : decode cX2_whyFalls 73 = .ok (.iaload, 1) := by decide +kernel
theorem dX2_whyFalls_74 : decode cX2_whyFalls 74 = .ok (.iload_n 2, 1) := by decide +kernel
theorem dX2_whyFalls_75 : decode cX2_whyFalls 75 = .ok (.if_icmp .ne 5, 3) := by decide +kernel
theorem dX2_whyFalls_78 : decode cX2_whyFalls 78 = .ok (.iconst 3, 1) := by decide +kernel
theorem dX2_whyFalls_79 : decode cX2_whyFalls 79 = .ok (.ireturn, 1) := by decide +kernel
theorem dX2_whyFalls_80 : decode cX2_whyFalls 80 = .ok (.iinc 4 1, 3) := by decide +kernel
theorem dX2_whyFalls_83 : decode cX2_whyFalls 83 = .ok (.goto (-29), 3) := by decide +kernel
theorem dX2_whyFalls_86 : decode cX2_whyFalls 86 = .ok (.iconst 0, 1) := by decide +kernel
theorem dX2_whyFalls_87 : decode cX2_whyFalls 87 = .ok (.ireturn, 1) := by decide +kernel
theorem dX2_meantBy_0 : decode cX2_meantBy 0 = .ok (.iconst 0, 1) := by decide +kernel
theorem dX2_meantBy_1 : decode cX2_meantBy 1 = .ok (.istore_n 2, 1) := by decide +kernel
theorem dX2_meantBy_2 : decode cX2_meantBy 2 = .ok (.iconst 0, 1) := by decide +kernel
theorem dX2_meantBy_3 : decode cX2_meantBy 3 = .ok (.istore_n 3, 1) := by decide +kernel
theorem dX2_meantBy_4 : decode cX2_meantBy 4 = .ok (.iload_n 3, 1) := by decide +kernel
theorem dX2_meantBy_5 : decode cX2_meantBy 5 = .ok (.bipush 8, 2) := by decide +kernel
theorem dX2_meantBy_7 : decode cX2_meantBy 7 = .ok (.if_icmp .ge 24, 3) := by decide +kernel
theorem dX2_meantBy_10 : decode cX2_meantBy 10 = .ok (.aload_n 0, 1) := by decide +kernel
theorem dX2_meantBy_11 : decode cX2_meantBy 11 = .ok (.iload_n 3, 1) := by decide +kernel
theorem dX2_meantBy_12 : decode cX2_meantBy 12 = .ok (.iload_n 1, 1) := by decide +kernel
theorem dX2_meantBy_13 : decode cX2_meantBy 13 = .ok (.invokevirtual 113, 3) := by decide +kernel
theorem dX2_meantBy_16 : decode cX2_meantBy 16 = .ok (.ifCond .eq 9, 3) := by decide +kernel
theorem dX2_meantBy_19 : decode cX2_meantBy 19 = .ok (.iload_n 2, 1) := by decide +kernel
theorem dX2_meantBy_20 : decode cX2_meantBy 20 = .ok (.iconst 1, 1) := by decide +kernel
theorem dX2_meantBy_21 : decode cX2_meantBy 21 = .ok (.iload_n 3, 1) := by decide +kernel
theorem dX2_meantBy_22 : decode cX2_meantBy 22 = .ok (.ishl, 1) := by decide +kernel
theorem dX2_meantBy_23 : decode cX2_meantBy 23 = .ok (.ior, 1) := by decide +kernel
theorem dX2_meantBy_24 : decode cX2_meantBy 24 = .ok (.istore_n 2, 1) := by decide +kernel
theorem dX2_meantBy_25 : decode cX2_meantBy 25 = .ok (.iinc 3 1, 3) := by decide +kernel
theorem dX2_meantBy_28 : decode cX2_meantBy 28 = .ok (.goto (-24), 3) := by decide +kernel
theorem dX2_meantBy_31 : decode cX2_meantBy 31 = .ok (.iload_n 2, 1) := by decide +kernel
theorem dX2_meantBy_32 : decode cX2_meantBy 32 = .ok (.ireturn, 1) := by decide +kernel
theorem dX2_isMeant_0 : decode cX2_isMeant 0 = .ok (.iload_n 2, 1) := by decide +kernel
theorem dX2_isMeant_1 : decode cX2_isMeant 1 = .ok (.tableswitch 159 0 8 #[51, 53, 67, 82, 94, 107, 117, 135, 147], 51) := by decide +kernel
theorem dX2_isMeant_52 : decode cX2_isMeant 52 = .ok (.iconst 1, 1) := by decide +kernel
theorem dX2_isMeant_53 : decode cX2_isMeant 53 = .ok (.ireturn, 1) := by decide +kernel
theorem dX2_isMeant_54 : decode cX2_isMeant 54 = .ok (.iload_n 1, 1) := by decide +kernel
theorem dX2_isMeant_55 : decode cX2_isMeant 55 = .ok (.iconst 2, 1) := by decide +kernel
theorem dX2_isMeant_56 : decode cX2_isMeant 56 = .ok (.idiv, 1) := by decide +kernel
theorem dX2_isMeant_57 : decode cX2_isMeant 57 = .ok (.iconst 2, 1) := by decide +kernel
theorem dX2_isMeant_58 : decode cX2_isMeant 58 = .ok (.irem, 1) := by decide +kernel
theorem dX2_isMeant_59 : decode cX2_isMeant 59 = .ok (.ifCond .ne 7, 3) := by decide +kernel
theorem dX2_isMeant_62 : decode cX2_isMeant 62 = .ok (.iconst 1, 1) := by decide +kernel
theorem dX2_isMeant_63 : decode cX2_isMeant 63 = .ok (.goto 4, 3) := by decide +kernel
theorem dX2_isMeant_66 : decode cX2_isMeant 66 = .ok (.iconst 0, 1) := by decide +kernel
theorem dX2_isMeant_67 : decode cX2_isMeant 67 = .ok (.ireturn, 1) := by decide +kernel
theorem dX2_isMeant_68 : decode cX2_isMeant 68 = .ok (.iload_n 1, 1) := by decide +kernel
theorem dX2_isMeant_69 : decode cX2_isMeant 69 = .ok (.iconst 2, 1) := by decide +kernel
theorem dX2_isMeant_70 : decode cX2_isMeant 70 = .ok (.idiv, 1) := by decide +kernel
theorem dX2_isMeant_71 : decode cX2_isMeant 71 = .ok (.iconst 2, 1) := by decide +kernel
theorem dX2_isMeant_72 : decode cX2_isMeant 72 = .ok (.irem, 1) := by decide +kernel
theorem dX2_isMeant_73 : decode cX2_isMeant 73 = .ok (.iconst 1, 1) := by decide +kernel
theorem dX2_isMeant_74 : decode cX2_isMeant 74 = .ok (.if_icmp .ne 7, 3) := by decide +kernel
theorem dX2_isMeant_77 : decode cX2_isMeant 77 = .ok (.iconst 1, 1) := by decide +kernel
theorem dX2_isMeant_78 : decode cX2_isMeant 78 = .ok (.goto 4, 3) := by decide +kernel
theorem dX2_isMeant_81 : decode cX2_isMeant 81 = .ok (.iconst 0, 1) := by decide +kernel
theorem dX2_isMeant_82 : decode cX2_isMeant 82 = .ok (.ireturn, 1) := by decide +kernel
theorem dX2_isMeant_83 : decode cX2_isMeant 83 = .ok (.iload_n 1, 1) := by decide +kernel
theorem dX2_isMeant_84 : decode cX2_isMeant 84 = .ok (.iconst 2, 1) := by decide +kernel
theorem dX2_isMeant_85 : decode cX2_isMeant 85 = .ok (.irem, 1) := by decide +kernel
theorem dX2_isMeant_86 : decode cX2_isMeant 86 = .ok (.ifCond .ne 7, 3) := by decide +kernel
theorem dX2_isMeant_89 : decode cX2_isMeant 89 = .ok (.iconst 1, 1) := by decide +kernel
theorem dX2_isMeant_90 : decode cX2_isMeant 90 = .ok (.goto 4, 3) := by decide +kernel
theorem dX2_isMeant_93 : decode cX2_isMeant 93 = .ok (.iconst 0, 1) := by decide +kernel
theorem dX2_isMeant_94 : decode cX2_isMeant 94 = .ok (.ireturn, 1) := by decide +kernel
theorem dX2_isMeant_95 : decode cX2_isMeant 95 = .ok (.iload_n 1, 1) := by decide +kernel
theorem dX2_isMeant_96 : decode cX2_isMeant 96 = .ok (.iconst 2, 1) := by decide +kernel
theorem dX2_isMeant_97 : decode cX2_isMeant 97 = .ok (.irem, 1) := by decide +kernel
theorem dX2_isMeant_98 : decode cX2_isMeant 98 = .ok (.iconst 1, 1) := by decide +kernel
theorem dX2_isMeant_99 : decode cX2_isMeant 99 = .ok (.if_icmp .ne 7, 3) := by decide +kernel
theorem dX2_isMeant_102 : decode cX2_isMeant 102 = .ok (.iconst 1, 1) := by decide +kernel
theorem dX2_isMeant_103 : decode cX2_isMeant 103 = .ok (.goto 4, 3) := by decide +kernel
theorem dX2_isMeant_106 : decode cX2_isMeant 106 = .ok (.iconst 0, 1) := by decide +kernel
theorem dX2_isMeant_107 : decode cX2_isMeant 107 = .ok (.ireturn, 1) := by decide +kernel
theorem dX2_isMeant_108 : decode cX2_isMeant 108 = .ok (.aload_n 0, 1) := by decide +kernel
theorem dX2_isMeant_109 : decode cX2_isMeant 109 = .ok (.getfield 9, 3) := by decide +kernel
theorem dX2_isMeant_112 : decode cX2_isMeant 112 = .ok (.iload_n 1, 1) := by decide +kernel
theorem dX2_isMeant_113 : decode cX2_isMeant 113 = .ok (.iaload, 1) := by decide +kernel
theorem dX2_isMeant_114 : decode cX2_isMeant 114 = .ok (.invokestatic 116, 3) := by decide +kernel
theorem dX2_isMeant_117 : decode cX2_isMeant 117 = .ok (.ireturn, 1) := by decide +kernel
theorem dX2_isMeant_118 : decode cX2_isMeant 118 = .ok (.aload_n 0, 1) := by decide +kernel
theorem dX2_isMeant_119 : decode cX2_isMeant 119 = .ok (.getfield 9, 3) := by decide +kernel
theorem dX2_isMeant_122 : decode cX2_isMeant 122 = .ok (.iload_n 1, 1) := by decide +kernel
theorem dX2_isMeant_123 : decode cX2_isMeant 123 = .ok (.iaload, 1) := by decide +kernel
theorem dX2_isMeant_124 : decode cX2_isMeant 124 = .ok (.invokestatic 116, 3) := by decide +kernel
theorem dX2_isMeant_127 : decode cX2_isMeant 127 = .ok (.ifCond .ne 7, 3) := by decide +kernel
theorem dX2_isMeant_130 : decode cX2_isMeant 130 = .ok (.iconst 1, 1) := by decide +kernel
theorem dX2_isMeant_131 : decode cX2_isMeant 131 = .ok (.goto 4, 3) := by decide +kernel
theorem dX2_isMeant_134 : decode cX2_isMeant 134 = .ok (.iconst 0, 1) := by decide +kernel
theorem dX2_isMeant_135 : decode cX2_isMeant 135 = .ok (.ireturn, 1) := by decide +kernel
theorem dX2_isMeant_136 : decode cX2_isMeant 136 = .ok (.aload_n 0, 1) := by decide +kernel
theorem dX2_isMeant_137 : decode cX2_isMeant 137 = .ok (.iload_n 1, 1) := by decide +kernel
theorem dX2_isMeant_138 : decode cX2_isMeant 138 = .ok (.aload_n 0, 1) := by decide +kernel
theorem dX2_isMeant_139 : decode cX2_isMeant 139 = .ok (.iload_n 1, 1) := by decide +kernel
theorem dX2_isMeant_140 : decode cX2_isMeant 140 = .ok (.iconst 3, 1) := by decide +kernel
theorem dX2_isMeant_141 : decode cX2_isMeant 141 = .ok (.invokevirtual 103, 3) := by decide +kernel
theorem dX2_isMeant_144 : decode cX2_isMeant 144 = .ok (.invokevirtual 119, 3) := by decide +kernel
theorem dX2_isMeant_147 : decode cX2_isMeant 147 = .ok (.ireturn, 1) := by decide +kernel
theorem dX2_isMeant_148 : decode cX2_isMeant 148 = .ok (.aload_n 0, 1) := by decide +kernel
theorem dX2_isMeant_149 : decode cX2_isMeant 149 = .ok (.iload_n 1, 1) := by decide +kernel
theorem dX2_isMeant_150 : decode cX2_isMeant 150 = .ok (.aload_n 0, 1) := by decide +kernel
theorem dX2_isMeant_151 : decode cX2_isMeant 151 = .ok (.iload_n 1, 1) := by decide +kernel
theorem dX2_isMeant_152 : decode cX2_isMeant 152 = .ok (.iconst 1, 1) := by decide +kernel
theorem dX2_isMeant_153 : decode cX2_isMeant 153 = .ok (.invokevirtual 103, 3) := by decide +kernel
theorem dX2_isMeant_156 : decode cX2_isMeant 156 = .ok (.invokevirtual 119, 3) := by decide +kernel
theorem dX2_isMeant_159 : decode cX2_isMeant 159 = .ok (.ireturn, 1) := by decide +kernel
theorem dX2_isMeant_160 : decode cX2_isMeant 160 = .ok (.iconst 0, 1) := by decide +kernel
theorem dX2_isMeant_161 : decode cX2_isMeant 161 = .ok (.ireturn, 1) := by decide +kernel
theorem dX2_facesLike_0 : decode cX2_facesLike 0 = .ok (.iload_n 2, 1) := by decide +kernel
theorem dX2_facesLike_1 : decode cX2_facesLike 1 = .ok (.iconst (-1), 1) := by decide +kernel
theorem dX2_facesLike_2 : decode cX2_facesLike 2 = .ok (.if_icmp .eq 22, 3) := by decide +kernel
theorem dX2_facesLike_5 : decode cX2_facesLike 5 = .ok (.aload_n 0, 1) := by decide +kernel
theorem dX2_facesLike_6 : decode cX2_facesLike 6 = .ok (.getfield 15, 3) := by decide +kernel
theorem dX2_facesLike_9 : decode cX2_facesLike 9 = .ok (.iload_n 2, 1) := by decide +kernel
theorem dX2_facesLike_10 : decode cX2_facesLike 10 = .ok (.iaload, 1) := by decide +kernel
theorem dX2_facesLike_11 : decode cX2_facesLike 11 = .ok (.aload_n 0, 1) := by decide +kernel
theorem dX2_facesLike_12 : decode cX2_facesLike 12 = .ok (.getfield 15, 3) := by decide +kernel
theorem dX2_facesLike_15 : decode cX2_facesLike 15 = .ok (.iload_n 1, 1) := by decide +kernel
theorem dX2_facesLike_16 : decode cX2_facesLike 16 = .ok (.iaload, 1) := by decide +kernel
theorem dX2_facesLike_17 : decode cX2_facesLike 17 = .ok (.if_icmp .ne 7, 3) := by decide +kernel
theorem dX2_facesLike_20 : decode cX2_facesLike 20 = .ok (.iconst 1, 1) := by decide +kernel
theorem dX2_facesLike_21 : decode cX2_facesLike 21 = .ok (.goto 4, 3) := by decide +kernel
theorem dX2_facesLike_24 : decode cX2_facesLike 24 = .ok (.iconst 0, 1) := by decide +kernel
theorem dX2_facesLike_25 : decode cX2_facesLike 25 = .ok (.ireturn, 1) := by decide +kernel
theorem dX2_isCenter_0 : decode cX2_isCenter 0 = .ok (.iload_n 0, 1) := by decide +kernel
theorem dX2_isCenter_1 : decode cX2_isCenter 1 = .ok (.iconst 4, 1) := by decide +kernel
theorem dX2_isCenter_2 : decode cX2_isCenter 2 = .ok (.irem, 1) := by decide +kernel
theorem dX2_isCenter_3 : decode cX2_isCenter 3 = .ok (.istore_n 1, 1) := by decide +kernel
theorem dX2_isCenter_4 : decode cX2_isCenter 4 = .ok (.iload_n 0, 1) := by decide +kernel
theorem dX2_isCenter_5 : decode cX2_isCenter 5 = .ok (.iconst 4, 1) := by decide +kernel
theorem dX2_isCenter_6 : decode cX2_isCenter 6 = .ok (.idiv, 1) := by decide +kernel
theorem dX2_isCenter_7 : decode cX2_isCenter 7 = .ok (.istore_n 2, 1) := by decide +kernel
theorem dX2_isCenter_8 : decode cX2_isCenter 8 = .ok (.iload_n 1, 1) := by decide +kernel
theorem dX2_isCenter_9 : decode cX2_isCenter 9 = .ok (.iconst 1, 1) := by decide +kernel
theorem dX2_isCenter_10 : decode cX2_isCenter 10 = .ok (.if_icmp .lt 22, 3) := by decide +kernel
theorem dX2_isCenter_13 : decode cX2_isCenter 13 = .ok (.iload_n 1, 1) := by decide +kernel
theorem dX2_isCenter_14 : decode cX2_isCenter 14 = .ok (.iconst 2, 1) := by decide +kernel
theorem dX2_isCenter_15 : decode cX2_isCenter 15 = .ok (.if_icmp .gt 17, 3) := by decide +kernel
theorem dX2_isCenter_18 : decode cX2_isCenter 18 = .ok (.iload_n 2, 1) := by decide +kernel
theorem dX2_isCenter_19 : decode cX2_isCenter 19 = .ok (.iconst 1, 1) := by decide +kernel
theorem dX2_isCenter_20 : decode cX2_isCenter 20 = .ok (.if_icmp .lt 12, 3) := by decide +kernel
theorem dX2_isCenter_23 : decode cX2_isCenter 23 = .ok (.iload_n 2, 1) := by decide +kernel
theorem dX2_isCenter_24 : decode cX2_isCenter 24 = .ok (.iconst 2, 1) := by decide +kernel
theorem dX2_isCenter_25 : decode cX2_isCenter 25 = .ok (.if_icmp .gt 7, 3) := by decide +kernel
theorem dX2_isCenter_28 : decode cX2_isCenter 28 = .ok (.iconst 1, 1) := by decide +kernel
theorem dX2_isCenter_29 : decode cX2_isCenter 29 = .ok (.goto 4, 3) := by decide +kernel
theorem dX2_isCenter_32 : decode cX2_isCenter 32 = .ok (.iconst 0, 1) := by decide +kernel
theorem dX2_isCenter_33 : decode cX2_isCenter 33 = .ok (.ireturn, 1) := by decide +kernel
theorem dX2_isIn_0 : decode cX2_isIn 0 = .ok (.iload_n 0, 1) := by decide +kernel
theorem dX2_isIn_1 : decode cX2_isIn 1 = .ok (.iconst (-1), 1) := by decide +kernel
theorem dX2_isIn_2 : decode cX2_isIn 2 = .ok (.if_icmp .eq 16, 3) := by decide +kernel
theorem dX2_isIn_5 : decode cX2_isIn 5 = .ok (.iload_n 1, 1) := by decide +kernel
theorem dX2_isIn_6 : decode cX2_isIn 6 = .ok (.iload_n 0, 1) := by decide +kernel
theorem dX2_isIn_7 : decode cX2_isIn 7 = .ok (.ishr, 1) := by decide +kernel
theorem dX2_isIn_8 : decode cX2_isIn 8 = .ok (.iconst 1, 1) := by decide +kernel
theorem dX2_isIn_9 : decode cX2_isIn 9 = .ok (.iand, 1) := by decide +kernel
theorem dX2_isIn_10 : decode cX2_isIn 10 = .ok (.iconst 1, 1) := by decide +kernel
theorem dX2_isIn_11 : decode cX2_isIn 11 = .ok (.if_icmp .ne 7, 3) := by decide +kernel
theorem dX2_isIn_14 : decode cX2_isIn 14 = .ok (.iconst 1, 1) := by decide +kernel
theorem dX2_isIn_15 : decode cX2_isIn 15 = .ok (.goto 4, 3) := by decide +kernel
theorem dX2_isIn_18 : decode cX2_isIn 18 = .ok (.iconst 0, 1) := by decide +kernel
theorem dX2_isIn_19 : decode cX2_isIn 19 = .ok (.ireturn, 1) := by decide +kernel
theorem dX2_beside_0 : decode cX2_beside 0 = .ok (.aload_n 0, 1) := by decide +kernel
theorem dX2_beside_1 : decode cX2_beside 1 = .ok (.getfield 9, 3) := by decide +kernel
theorem dX2_beside_4 : decode cX2_beside 4 = .ok (.iload_n 1, 1) := by decide +kernel
theorem dX2_beside_5 : decode cX2_beside 5 = .ok (.iaload, 1) := by decide +kernel
theorem dX2_beside_6 : decode cX2_beside 6 = .ok (.aload_n 0, 1) := by decide +kernel
theorem dX2_beside_7 : decode cX2_beside 7 = .ok (.getfield 15, 3) := by decide +kernel
theorem dX2_beside_10 : decode cX2_beside 10 = .ok (.iload_n 1, 1) := by decide +kernel
theorem dX2_beside_11 : decode cX2_beside 11 = .ok (.iaload, 1) := by decide +kernel
theorem dX2_beside_12 : decode cX2_beside 12 = .ok (.iload_n 2, 1) := by decide +kernel
theorem dX2_beside_13 : decode cX2_beside 13 = .ok (.iadd, 1) := by decide +kernel
theorem dX2_beside_14 : decode cX2_beside 14 = .ok (.invokestatic 85, 3) := by decide +kernel
theorem dX2_beside_17 : decode cX2_beside 17 = .ok (.istore_n 3, 1) := by decide +kernel
theorem dX2_beside_18 : decode cX2_beside 18 = .ok (.iload_n 3, 1) := by decide +kernel
theorem dX2_beside_19 : decode cX2_beside 19 = .ok (.iconst (-1), 1) := by decide +kernel
theorem dX2_beside_20 : decode cX2_beside 20 = .ok (.if_icmp .ne 7, 3) := by decide +kernel
theorem dX2_beside_23 : decode cX2_beside 23 = .ok (.iconst (-1), 1) := by decide +kernel
theorem dX2_beside_24 : decode cX2_beside 24 = .ok (.goto 9, 3) := by decide +kernel
theorem dX2_beside_27 : decode cX2_beside 27 = .ok (.aload_n 0, 1) := by decide +kernel
theorem dX2_beside_28 : decode cX2_beside 28 = .ok (.getfield 18, 3) := by decide +kernel
theorem dX2_beside_31 : decode cX2_beside 31 = .ok (.iload_n 3, 1) := by decide +kernel
theorem dX2_beside_32 : decode cX2_beside 32 = .ok (.iaload, 1) := by decide +kernel
theorem dX2_beside_33 : decode cX2_beside 33 = .ok (.ireturn, 1) := by decide +kernel
theorem dX2_neighbour_0 : decode cX2_neighbour 0 = .ok (.iload_n 0, 1) := by decide +kernel
theorem dX2_neighbour_1 : decode cX2_neighbour 1 = .ok (.iconst 4, 1) := by decide +kernel
theorem dX2_neighbour_2 : decode cX2_neighbour 2 = .ok (.irem, 1) := by decide +kernel
theorem dX2_neighbour_3 : decode cX2_neighbour 3 = .ok (.getstatic 122, 3) := by decide +kernel
theorem dX2_neighbour_6 : decode cX2_neighbour 6 = .ok (.iload_n 1, 1) := by decide +kernel
theorem dX2_neighbour_7 : decode cX2_neighbour 7 = .ok (.iconst 3, 1) := by decide +kernel
theorem dX2_neighbour_8 : decode cX2_neighbour 8 = .ok (.iand, 1) := by decide +kernel
theorem dX2_neighbour_9 : decode cX2_neighbour 9 = .ok (.iaload, 1) := by decide +kernel
theorem dX2_neighbour_10 : decode cX2_neighbour 10 = .ok (.iadd, 1) := by decide +kernel
theorem dX2_neighbour_11 : decode cX2_neighbour 11 = .ok (.istore_n 2, 1) := by decide +kernel
theorem dX2_neighbour_12 : decode cX2_neighbour 12 = .ok (.iload_n 0, 1) := by decide +kernel
theorem dX2_neighbour_13 : decode cX2_neighbour 13 = .ok (.iconst 4, 1) := by decide +kernel
theorem dX2_neighbour_14 : decode cX2_neighbour 14 = .ok (.idiv, 1) := by decide +kernel
theorem dX2_neighbour_15 : decode cX2_neighbour 15 = .ok (.getstatic 125, 3) := by decide +kernel
theorem dX2_neighbour_18 : decode cX2_neighbour 18 = .ok (.iload_n 1, 1) := by decide +kernel
theorem dX2_neighbour_19 : decode cX2_neighbour 19 = .ok (.iconst 3, 1) := by decide +kernel
theorem dX2_neighbour_20 : decode cX2_neighbour 20 = .ok (.iand, 1) := by decide +kernel
theorem dX2_neighbour_21 : decode cX2_neighbour 21 = .ok (.iaload, 1) := by decide +kernel
theorem dX2_neighbour_22 : decode cX2_neighbour 22 = .ok (.iadd, 1) := by decide +kernel
theorem dX2_neighbour_23 : decode cX2_neighbour 23 = .ok (.istore_n 3, 1) := by decide +kernel
theorem dX2_neighbour_24 : decode cX2_neighbour 24 = .ok (.iload_n 2, 1) := by decide +kernel
theorem dX2_neighbour_25 : decode cX2_neighbour 25 = .ok (.ifCond .lt 21, 3) := by decide +kernel
theorem dX2_neighbour_28 : decode cX2_neighbour 28 = .ok (.iload_n 2, 1) := by decide +kernel
theorem dX2_neighbour_29 : decode cX2_neighbour 29 = .ok (.iconst 4, 1) := by decide +kernel
theorem dX2_neighbour_30 : decode cX2_neighbour 30 = .ok (.if_icmp .ge 16, 3) := by decide +kernel
theorem dX2_neighbour_33 : decode cX2_neighbour 33 = .ok (.iload_n 3, 1) := by decide +kernel
theorem dX2_neighbour_34 : decode cX2_neighbour 34 = .ok (.ifCond .lt 12, 3) := by decide +kernel
theorem dX2_neighbour_37 : decode cX2_neighbour 37 = .ok (.iload_n 3, 1) := by decide +kernel
theorem dX2_neighbour_38 : decode cX2_neighbour 38 = .ok (.iconst 4, 1) := by decide +kernel
theorem dX2_neighbour_39 : decode cX2_neighbour 39 = .ok (.if_icmp .ge 7, 3) := by decide +kernel
theorem dX2_neighbour_42 : decode cX2_neighbour 42 = .ok (.iconst 1, 1) := by decide +kernel
theorem dX2_neighbour_43 : decode cX2_neighbour 43 = .ok (.goto 4, 3) := by decide +kernel
theorem dX2_neighbour_46 : decode cX2_neighbour 46 = .ok (.iconst 0, 1) := by decide +kernel
theorem dX2_neighbour_47 : decode cX2_neighbour 47 = .ok (.istore 4, 2) := by decide +kernel
theorem dX2_neighbour_49 : decode cX2_neighbour 49 = .ok (.iload 4, 2) := by decide +kernel
theorem dX2_neighbour_51 : decode cX2_neighbour 51 = .ok (.ifCond .eq 11, 3) := by decide +kernel
theorem dX2_neighbour_54 : decode cX2_neighbour 54 = .ok (.iconst 4, 1) := by decide +kernel
theorem dX2_neighbour_55 : decode cX2_neighbour 55 = .ok (.iload_n 3, 1) := by decide +kernel
theorem dX2_neighbour_56 : decode cX2_neighbour 56 = .ok (.imul, 1) := by decide +kernel
theorem dX2_neighbour_57 : decode cX2_neighbour 57 = .ok (.iload_n 2, 1) := by decide +kernel
theorem dX2_neighbour_58 : decode cX2_neighbour 58 = .ok (.iadd, 1) := by decide +kernel
theorem dX2_neighbour_59 : decode cX2_neighbour 59 = .ok (.goto 4, 3) := by decide +kernel
theorem dX2_neighbour_62 : decode cX2_neighbour 62 = .ok (.iconst (-1), 1) := by decide +kernel
theorem dX2_neighbour_63 : decode cX2_neighbour 63 = .ok (.ireturn, 1) := by decide +kernel
theorem dX2_atHome_0 : decode cX2_atHome 0 = .ok (.iconst 0, 1) := by decide +kernel
theorem dX2_atHome_1 : decode cX2_atHome 1 = .ok (.istore_n 2, 1) := by decide +kernel
theorem dX2_atHome_2 : decode cX2_atHome 2 = .ok (.iconst 0, 1) := by decide +kernel
theorem dX2_atHome_3 : decode cX2_atHome 3 = .ok (.istore_n 3, 1) := by decide +kernel
theorem dX2_atHome_4 : decode cX2_atHome 4 = .ok (.iload_n 3, 1) := by decide +kernel
theorem dX2_atHome_5 : decode cX2_atHome 5 = .ok (.bipush 8, 2) := by decide +kernel
theorem dX2_atHome_7 : decode cX2_atHome 7 = .ok (.if_icmp .ge 44, 3) := by decide +kernel
theorem dX2_atHome_10 : decode cX2_atHome 10 = .ok (.aload_n 0, 1) := by decide +kernel
theorem dX2_atHome_11 : decode cX2_atHome 11 = .ok (.getfield 9, 3) := by decide +kernel
theorem dX2_atHome_14 : decode cX2_atHome 14 = .ok (.iload_n 3, 1) := by decide +kernel
theorem dX2_atHome_15 : decode cX2_atHome 15 = .ok (.iaload, 1) := by decide +kernel
theorem dX2_atHome_16 : decode cX2_atHome 16 = .ok (.getstatic 75, 3) := by decide +kernel
theorem dX2_atHome_19 : decode cX2_atHome 19 = .ok (.iload_n 3, 1) := by decide +kernel
theorem dX2_atHome_20 : decode cX2_atHome 20 = .ok (.iaload, 1) := by decide +kernel
theorem dX2_atHome_21 : decode cX2_atHome 21 = .ok (.if_icmp .ne 24, 3) := by decide +kernel
theorem dX2_atHome_24 : decode cX2_atHome 24 = .ok (.iload_n 1, 1) := by decide +kernel
theorem dX2_atHome_25 : decode cX2_atHome 25 = .ok (.ifCond .eq 17, 3) := by decide +kernel
theorem dX2_atHome_28 : decode cX2_atHome 28 = .ok (.aload_n 0, 1) := by decide +kernel
theorem dX2_atHome_29 : decode cX2_atHome 29 = .ok (.getfield 15, 3) := by decide +kernel
theorem dX2_atHome_32 : decode cX2_atHome 32 = .ok (.iload_n 3, 1) := by decide +kernel
theorem dX2_atHome_33 : decode cX2_atHome 33 = .ok (.iaload, 1) := by decide +kernel
theorem dX2_atHome_34 : decode cX2_atHome 34 = .ok (.getstatic 78, 3) := by decide +kernel
theorem dX2_atHome_37 : decode cX2_atHome 37 = .ok (.iload_n 3, 1) := by decide +kernel
theorem dX2_atHome_38 : decode cX2_atHome 38 = .ok (.iaload, 1) := by decide +kernel
theorem dX2_atHome_39 : decode cX2_atHome 39 = .ok (.if_icmp .ne 6, 3) := by decide +kernel
theorem dX2_atHome_42 : decode cX2_atHome 42 = .ok (.iinc 2 1, 3) := by decide +kernel
theorem dX2_atHome_45 : decode cX2_atHome 45 = .ok (.iinc 3 1, 3) := by decide +kernel
theorem dX2_atHome_48 : decode cX2_atHome 48 = .ok (.goto (-44), 3) := by decide +kernel
theorem dX2_atHome_51 : decode cX2_atHome 51 = .ok (.iload_n 2, 1) := by decide +kernel
theorem dX2_atHome_52 : decode cX2_atHome 52 = .ok (.ireturn, 1) := by decide +kernel
theorem dX2_couples_0 : decode cX2_couples 0 = .ok (.iconst 0, 1) := by decide +kernel
theorem dX2_couples_1 : decode cX2_couples 1 = .ok (.istore_n 1, 1) := by decide +kernel
theorem dX2_couples_2 : decode cX2_couples 2 = .ok (.iconst 0, 1) := by decide +kernel
theorem dX2_couples_3 : decode cX2_couples 3 = .ok (.istore_n 2, 1) := by decide +kernel
theorem dX2_couples_4 : decode cX2_couples 4 = .ok (.iload_n 2, 1) := by decide +kernel
theorem dX2_couples_5 : decode cX2_couples 5 = .ok (.bipush 8, 2) := by decide +kernel
theorem dX2_couples_7 : decode cX2_couples 7 = .ok (.if_icmp .ge 35, 3) := by decide +kernel
theorem dX2_couples_10 : decode cX2_couples 10 = .ok (.iload_n 2, 1) := by decide +kernel
theorem dX2_couples_11 : decode cX2_couples 11 = .ok (.iconst 1, 1) := by decide +kernel
theorem dX2_couples_12 : decode cX2_couples 12 = .ok (.iadd, 1) := by decide +kernel
theorem dX2_couples_13 : decode cX2_couples 13 = .ok (.istore_n 3, 1) := by decide +kernel
theorem dX2_couples_14 : decode cX2_couples 14 = .ok (.aload_n 0, 1) := by decide +kernel
theorem dX2_couples_15 : decode cX2_couples 15 = .ok (.iload_n 2, 1) := by decide +kernel
theorem dX2_couples_16 : decode cX2_couples 16 = .ok (.iconst 1, 1) := by decide +kernel
theorem dX2_couples_17 : decode cX2_couples 17 = .ok (.invokevirtual 103, 3) := by decide +kernel
theorem dX2_couples_20 : decode cX2_couples 20 = .ok (.iload_n 3, 1) := by decide +kernel
theorem dX2_couples_21 : decode cX2_couples 21 = .ok (.if_icmp .ne 15, 3) := by decide +kernel
theorem dX2_couples_24 : decode cX2_couples 24 = .ok (.aload_n 0, 1) := by decide +kernel
theorem dX2_couples_25 : decode cX2_couples 25 = .ok (.iload_n 2, 1) := by decide +kernel
theorem dX2_couples_26 : decode cX2_couples 26 = .ok (.iload_n 3, 1) := by decide +kernel
theorem dX2_couples_27 : decode cX2_couples 27 = .ok (.invokevirtual 119, 3) := by decide +kernel
theorem dX2_couples_30 : decode cX2_couples 30 = .ok (.ifCond .eq 6, 3) := by decide +kernel
theorem dX2_couples_33 : decode cX2_couples 33 = .ok (.iinc 1 1, 3) := by decide +kernel
theorem dX2_couples_36 : decode cX2_couples 36 = .ok (.iinc 2 2, 3) := by decide +kernel
theorem dX2_couples_39 : decode cX2_couples 39 = .ok (.goto (-35), 3) := by decide +kernel
theorem dX2_couples_42 : decode cX2_couples 42 = .ok (.iload_n 1, 1) := by decide +kernel
theorem dX2_couples_43 : decode cX2_couples 43 = .ok (.ireturn, 1) := by decide +kernel
theorem dX2_signOf_0 : decode cX2_signOf 0 = .ok (.iload_n 1, 1) := by decide +kernel
theorem dX2_signOf_1 : decode cX2_signOf 1 = .ok (.ifCond .lt 18, 3) := by decide +kernel
theorem dX2_signOf_4 : decode cX2_signOf 4 = .ok (.iload_n 1, 1) := by decide +kernel
theorem dX2_signOf_5 : decode cX2_signOf 5 = .ok (.bipush 16, 2) := by decide +kernel
theorem dX2_signOf_7 : decode cX2_signOf 7 = .ok (.if_icmp .ge 12, 3) := by decide +kernel
theorem dX2_signOf_10 : decode cX2_signOf 10 = .ok (.aload_n 0, 1) := by decide +kernel
theorem dX2_signOf_11 : decode cX2_signOf 11 = .ok (.getfield 18, 3) := by decide +kernel
theorem dX2_signOf_14 : decode cX2_signOf 14 = .ok (.iload_n 1, 1) := by decide +kernel
theorem dX2_signOf_15 : decode cX2_signOf 15 = .ok (.iaload, 1) := by decide +kernel
theorem dX2_signOf_16 : decode cX2_signOf 16 = .ok (.goto 4, 3) := by decide +kernel
theorem dX2_signOf_19 : decode cX2_signOf 19 = .ok (.iconst (-1), 1) := by decide +kernel
theorem dX2_signOf_20 : decode cX2_signOf 20 = .ok (.istore_n 3, 1) := by decide +kernel
theorem dX2_signOf_21 : decode cX2_signOf 21 = .ok (.iload_n 3, 1) := by decide +kernel
theorem dX2_signOf_22 : decode cX2_signOf 22 = .ok (.iconst (-1), 1) := by decide +kernel
theorem dX2_signOf_23 : decode cX2_signOf 23 = .ok (.if_icmp .ne 6, 3) := by decide +kernel
theorem dX2_signOf_26 : decode cX2_signOf 26 = .ok (.bipush 46, 2) := by decide +kernel
theorem dX2_signOf_28 : decode cX2_signOf 28 = .ok (.ireturn, 1) := by decide +kernel
theorem dX2_signOf_29 : decode cX2_signOf 29 = .ok (.iload_n 2, 1) := by decide +kernel
theorem dX2_signOf_30 : decode cX2_signOf 30 = .ok (.ifCond .eq 10, 3) := by decide +kernel
theorem dX2_signOf_33 : decode cX2_signOf 33 = .ok (.bipush 49, 2) := by decide +kernel
theorem dX2_signOf_35 : decode cX2_signOf 35 = .ok (.iload_n 3, 1) := by decide +kernel
theorem dX2_signOf_36 : decode cX2_signOf 36 = .ok (.iadd, 1) := by decide +kernel
theorem dX2_signOf_37 : decode cX2_signOf 37 = .ok (.goto 15, 3) := by decide +kernel
theorem dX2_signOf_40 : decode cX2_signOf 40 = .ok (.getstatic 128, 3) := by decide +kernel
theorem dX2_signOf_43 : decode cX2_signOf 43 = .ok (.aload_n 0, 1) := by decide +kernel
theorem dX2_signOf_44 : decode cX2_signOf 44 = .ok (.getfield 15, 3) := by decide +kernel
theorem dX2_signOf_47 : decode cX2_signOf 47 = .ok (.iload_n 3, 1) := by decide +kernel
theorem dX2_signOf_48 : decode cX2_signOf 48 = .ok (.iaload, 1) := by decide +kernel
theorem dX2_signOf_49 : decode cX2_signOf 49 = .ok (.iconst 3, 1) := by decide +kernel
theorem dX2_signOf_50 : decode cX2_signOf 50 = .ok (.iand, 1) := by decide +kernel
theorem dX2_signOf_51 : decode cX2_signOf 51 = .ok (.caload, 1) := by decide +kernel
theorem dX2_signOf_52 : decode cX2_signOf 52 = .ok (.ireturn, 1) := by decide +kernel
theorem dX3_bits_0 : decode cX3_bits 0 = .ok (.iload_n 1, 1) := by decide +kernel
theorem dX3_bits_1 : decode cX3_bits 1 = .ok (.bipush 16, 2) := by decide +kernel
theorem dX3_bits_3 : decode cX3_bits 3 = .ok (.iload_n 2, 1) := by decide +kernel
theorem dX3_bits_4 : decode cX3_bits 4 = .ok (.imul, 1) := by decide +kernel
theorem dX3_bits_5 : decode cX3_bits 5 = .ok (.iadd, 1) := by decide +kernel
theorem dX3_bits_6 : decode cX3_bits 6 = .ok (.i2l, 1) := by decide +kernel
theorem dX3_bits_7 : decode cX3_bits 7 = .ok (.bipush 6, 2) := by decide +kernel
theorem dX3_bits_9 : decode cX3_bits 9 = .ok (.iload_n 0, 1) := by decide +kernel
theorem dX3_bits_10 : decode cX3_bits 10 = .ok (.imul, 1) := by decide +kernel
theorem dX3_bits_11 : decode cX3_bits 11 = .ok (.lshl, 1) := by decide +kernel
theorem dX3_bits_12 : decode cX3_bits 12 = .ok (.lreturn, 1) := by decide +kernel
theorem dX3_cellOf_0 : decode cX3_cellOf 0 = .ok (.lload_n 0, 1) := by decide +kernel
theorem dX3_cellOf_1 : decode cX3_cellOf 1 = .ok (.bipush 6, 2) := by decide +kernel
theorem dX3_cellOf_3 : decode cX3_cellOf 3 = .ok (.iload_n 2, 1) := by decide +kernel
theorem dX3_cellOf_4 : decode cX3_cellOf 4 = .ok (.imul, 1) := by decide +kernel
theorem dX3_cellOf_5 : decode cX3_cellOf 5 = .ok (.lshr, 1) := by decide +kernel
theorem dX3_cellOf_6 : decode cX3_cellOf 6 = .ok (.l2i, 1) := by decide +kernel
theorem dX3_cellOf_7 : decode cX3_cellOf 7 = .ok (.bipush 15, 2) := by decide +kernel
theorem dX3_cellOf_9 : decode cX3_cellOf 9 = .ok (.iand, 1) := by decide +kernel
theorem dX3_cellOf_10 : decode cX3_cellOf 10 = .ok (.ireturn, 1) := by decide +kernel
theorem dX3_facingOf_0 : decode cX3_facingOf 0 = .ok (.lload_n 0, 1) := by decide +kernel
theorem dX3_facingOf_1 : decode cX3_facingOf 1 = .ok (.bipush 6, 2) := by decide +kernel
theorem dX3_facingOf_3 : decode cX3_facingOf 3 = .ok (.iload_n 2, 1) := by decide +kernel
theorem dX3_facingOf_4 : decode cX3_facingOf 4 = .ok (.imul, 1) := by decide +kernel
theorem dX3_facingOf_5 : decode cX3_facingOf 5 = .ok (.iconst 4, 1) := by decide +kernel
theorem dX3_facingOf_6 : decode cX3_facingOf 6 = .ok (.iadd, 1) := by decide +kernel
theorem dX3_facingOf_7 : decode cX3_facingOf 7 = .ok (.lshr, 1) := by decide +kernel
theorem dX3_facingOf_8 : decode cX3_facingOf 8 = .ok (.l2i, 1) := by decide +kernel
theorem dX3_facingOf_9 : decode cX3_facingOf 9 = .ok (.iconst 3, 1) := by decide +kernel
theorem dX3_facingOf_10 : decode cX3_facingOf 10 = .ok (.iand, 1) := by decide +kernel
theorem dX3_facingOf_11 : decode cX3_facingOf 11 = .ok (.ireturn, 1) := by decide +kernel
theorem dX3_of_0 : decode cX3_of 0 = .ok (.lconst 0, 1) := by decide +kernel
theorem dX3_of_1 : decode cX3_of 1 = .ok (.lstore_n 2, 1) := by decide +kernel
theorem dX3_of_2 : decode cX3_of 2 = .ok (.iconst 0, 1) := by decide +kernel
theorem dX3_of_3 : decode cX3_of 3 = .ok (.istore 4, 2) := by decide +kernel
theorem dX3_of_5 : decode cX3_of 5 = .ok (.iload 4, 2) := by decide +kernel
theorem dX3_of_7 : decode cX3_of 7 = .ok (.bipush 8, 2) := by decide +kernel
theorem dX3_of_9 : decode cX3_of 9 = .ok (.if_icmp .ge 39, 3) := by decide +kernel
theorem dX3_of_12 : decode cX3_of 12 = .ok (.iload 4, 2) := by decide +kernel
theorem dX3_of_14 : decode cX3_of 14 = .ok (.aload_n 0, 1) := by decide +kernel
theorem dX3_of_15 : decode cX3_of 15 = .ok (.arraylength, 1) := by decide +kernel
theorem dX3_of_16 : decode cX3_of 16 = .ok (.if_icmp .ge 32, 3) := by decide +kernel
theorem dX3_of_19 : decode cX3_of 19 = .ok (.iload 4, 2) := by decide +kernel
theorem dX3_of_21 : decode cX3_of 21 = .ok (.aload_n 1, 1) := by decide +kernel
theorem dX3_of_22 : decode cX3_of 22 = .ok (.arraylength, 1) := by decide +kernel
theorem dX3_of_23 : decode cX3_of 23 = .ok (.if_icmp .ge 25, 3) := by decide +kernel
theorem dX3_of_26 : decode cX3_of 26 = .ok (.lload_n 2, 1) := by decide +kernel
theorem dX3_of_27 : decode cX3_of 27 = .ok (.iload 4, 2) := by decide +kernel
theorem dX3_of_29 : decode cX3_of 29 = .ok (.aload_n 0, 1) := by decide +kernel
theorem dX3_of_30 : decode cX3_of 30 = .ok (.iload 4, 2) := by decide +kernel
theorem dX3_of_32 : decode cX3_of 32 = .ok (.iaload, 1) := by decide +kernel
theorem dX3_of_33 : decode cX3_of 33 = .ok (.aload_n 1, 1) := by decide +kernel
theorem dX3_of_34 : decode cX3_of 34 = .ok (.iload 4, 2) := by decide +kernel
theorem dX3_of_36 : decode cX3_of 36 = .ok (.iaload, 1) := by decide +kernel
theorem dX3_of_37 : decode cX3_of 37 = .ok (.invokestatic 11, 3) := by decide +kernel
theorem dX3_of_40 : decode cX3_of 40 = .ok (.lor, 1) := by decide +kernel
theorem dX3_of_41 : decode cX3_of 41 = .ok (.lstore_n 2, 1) := by decide +kernel
theorem dX3_of_42 : decode cX3_of 42 = .ok (.iinc 4 1, 3) := by decide +kernel
theorem dX3_of_45 : decode cX3_of 45 = .ok (.goto (-40), 3) := by decide +kernel
theorem dX3_of_48 : decode cX3_of 48 = .ok (.lload_n 2, 1) := by decide +kernel
theorem dX3_of_49 : decode cX3_of 49 = .ok (.lreturn, 1) := by decide +kernel
theorem dX3_atFirst_0 : decode cX3_atFirst 0 = .ok (.getstatic 15, 3) := by decide +kernel
theorem dX3_atFirst_3 : decode cX3_atFirst 3 = .ok (.getstatic 19, 3) := by decide +kernel
theorem dX3_atFirst_6 : decode cX3_atFirst 6 = .ok (.invokestatic 22, 3) := by decide +kernel
theorem dX3_atFirst_9 : decode cX3_atFirst 9 = .ok (.lreturn, 1) := by decide +kernel
theorem dX3_turned_0 : decode cX3_turned 0 = .ok (.lconst 0, 1) := by decide +kernel
theorem dX3_turned_1 : decode cX3_turned 1 = .ok (.lstore_n 3, 1) := by decide +kernel
theorem dX3_turned_2 : decode cX3_turned 2 = .ok (.iconst 0, 1) := by decide +kernel
theorem dX3_turned_3 : decode cX3_turned 3 = .ok (.istore 5, 2) := by decide +kernel
theorem dX3_turned_5 : decode cX3_turned 5 = .ok (.iload 5, 2) := by decide +kernel
theorem dX3_turned_7 : decode cX3_turned 7 = .ok (.bipush 8, 2) := by decide +kernel
theorem dX3_turned_9 : decode cX3_turned 9 = .ok (.if_icmp .ge 74, 3) := by decide +kernel
theorem dX3_turned_12 : decode cX3_turned 12 = .ok (.lload_n 0, 1) := by decide +kernel
theorem dX3_turned_13 : decode cX3_turned 13 = .ok (.iload 5, 2) := by decide +kernel
theorem dX3_turned_15 : decode cX3_turned 15 = .ok (.invokestatic 26, 3) := by decide +kernel
theorem dX3_turned_18 : decode cX3_turned 18 = .ok (.istore 6, 2) := by decide +kernel
theorem dX3_turned_20 : decode cX3_turned 20 = .ok (.iconst 3, 1) := by decide +kernel
theorem dX3_turned_21 : decode cX3_turned 21 = .ok (.iload 6, 2) := by decide +kernel
theorem dX3_turned_23 : decode cX3_turned 23 = .ok (.iconst 4, 1) := by decide +kernel
theorem dX3_turned_24 : decode cX3_turned 24 = .ok (.idiv, 1) := by decide +kernel
theorem dX3_turned_25 : decode cX3_turned 25 = .ok (.isub, 1) := by decide +kernel
theorem dX3_turned_26 : decode cX3_turned 26 = .ok (.istore 7, 2) := by decide +kernel
theorem dX3_turned_28 : decode cX3_turned 28 = .ok (.iload 6, 2) := by decide +kernel
theorem dX3_turned_30 : decode cX3_turned 30 = .ok (.iconst 4, 1) := by decide +kernel
theorem dX3_turned_31 : decode cX3_turned 31 = .ok (.irem, 1) := by decide +kernel
theorem dX3_turned_32 : decode cX3_turned 32 = .ok (.istore 8, 2) := by decide +kernel
theorem dX3_turned_34 : decode cX3_turned 34 = .ok (.iload_n 2, 1) := by decide +kernel
theorem dX3_turned_35 : decode cX3_turned 35 = .ok (.ifCond .eq 13, 3) := by decide +kernel
theorem dX3_turned_38 : decode cX3_turned 38 = .ok (.iload 5, 2) := by decide +kernel
theorem dX3_turned_40 : decode cX3_turned 40 = .ok (.iconst 2, 1) := by decide +kernel
theorem dX3_turned_41 : decode cX3_turned 41 = .ok (.iadd, 1) := by decide +kernel
theorem dX3_turned_42 : decode cX3_turned 42 = .ok (.bipush 8, 2) := by decide +kernel
theorem dX3_turned_44 : decode cX3_turned 44 = .ok (.irem, 1) := by decide +kernel
theorem dX3_turned_45 : decode cX3_turned 45 = .ok (.goto 5, 3) := by decide +kernel
theorem dX3_turned_48 : decode cX3_turned 48 = .ok (.iload 5, 2) := by decide +kernel
theorem dX3_turned_50 : decode cX3_turned 50 = .ok (.istore 9, 2) := by decide +kernel
theorem dX3_turned_52 : decode cX3_turned 52 = .ok (.lload_n 3, 1) := by decide +kernel
theorem dX3_turned_53 : decode cX3_turned 53 = .ok (.iload 9, 2) := by decide +kernel
theorem dX3_turned_55 : decode cX3_turned 55 = .ok (.iconst 4, 1) := by decide +kernel
theorem dX3_turned_56 : decode cX3_turned 56 = .ok (.iload 8, 2) := by decide +kernel
theorem dX3_turned_58 : decode cX3_turned 58 = .ok (.imul, 1) := by decide +kernel
theorem dX3_turned_59 : decode cX3_turned 59 = .ok (.iload 7, 2) := by decide +kernel
theorem dX3_turned_61 : decode cX3_turned 61 = .ok (.iadd, 1) := by decide +kernel
theorem dX3_turned_62 : decode cX3_turned 62 = .ok (.lload_n 0, 1) := by decide +kernel
theorem dX3_turned_63 : decode cX3_turned 63 = .ok (.iload 5, 2) := by decide +kernel
theorem dX3_turned_65 : decode cX3_turned 65 = .ok (.invokestatic 30, 3) := by decide +kernel
theorem dX3_turned_68 : decode cX3_turned 68 = .ok (.iconst 3, 1) := by decide +kernel
theorem dX3_turned_69 : decode cX3_turned 69 = .ok (.iadd, 1) := by decide +kernel
theorem dX3_turned_70 : decode cX3_turned 70 = .ok (.iconst 4, 1) := by decide +kernel
theorem dX3_turned_71 : decode cX3_turned 71 = .ok (.irem, 1) := by decide +kernel
theorem dX3_turned_72 : decode cX3_turned 72 = .ok (.invokestatic 11, 3) := by decide +kernel
theorem dX3_turned_75 : decode cX3_turned 75 = .ok (.lor, 1) := by decide +kernel
theorem dX3_turned_76 : decode cX3_turned 76 = .ok (.lstore_n 3, 1) := by decide +kernel
theorem dX3_turned_77 : decode cX3_turned 77 = .ok (.iinc 5 1, 3) := by decide +kernel
theorem dX3_turned_80 : decode cX3_turned 80 = .ok (.goto (-75), 3) := by decide +kernel
theorem dX3_turned_83 : decode cX3_turned 83 = .ok (.lload_n 3, 1) := by decide +kernel
theorem dX3_turned_84 : decode cX3_turned 84 = .ok (.lreturn, 1) := by decide +kernel
theorem dX3_least_0 : decode cX3_least 0 = .ok (.lload_n 0, 1) := by decide +kernel
theorem dX3_least_1 : decode cX3_least 1 = .ok (.lstore_n 3, 1) := by decide +kernel
theorem dX3_least_2 : decode cX3_least 2 = .ok (.lload_n 0, 1) := by decide +kernel
theorem dX3_least_3 : decode cX3_least 3 = .ok (.lstore 5, 2) := by decide +kernel
theorem dX3_least_5 : decode cX3_least 5 = .ok (.iconst 1, 1) := by decide +kernel
theorem dX3_least_6 : decode cX3_least 6 = .ok (.istore 7, 2) := by decide +kernel
theorem dX3_least_8 : decode cX3_least 8 = .ok (.iload 7, 2) := by decide +kernel
theorem dX3_least_10 : decode cX3_least 10 = .ok (.iconst 4, 1) := by decide +kernel
theorem dX3_least_11 : decode cX3_least 11 = .ok (.if_icmp .ge 24, 3) := by decide +kernel
theorem dX3_least_14 : decode cX3_least 14 = .ok (.lload 5, 2) := by decide +kernel
theorem dX3_least_16 : decode cX3_least 16 = .ok (.iload_n 2, 1) := by decide +kernel
theorem dX3_least_17 : decode cX3_least 17 = .ok (.invokestatic 33, 3) := by decide +kernel
theorem dX3_least_20 : decode cX3_least 20 = .ok (.lstore 5, 2) := by decide +kernel
theorem dX3_least_22 : decode cX3_least 22 = .ok (.lload_n 3, 1) := by decide +kernel
theorem dX3_least_23 : decode cX3_least 23 = .ok (.lload 5, 2) := by decide +kernel
theorem dX3_least_25 : decode cX3_least 25 = .ok (.invokestatic 37, 3) := by decide +kernel
theorem dX3_least_28 : decode cX3_least 28 = .ok (.lstore_n 3, 1) := by decide +kernel
theorem dX3_least_29 : decode cX3_least 29 = .ok (.iinc 7 1, 3) := by decide +kernel
theorem dX3_least_32 : decode cX3_least 32 = .ok (.goto (-24), 3) := by decide +kernel
theorem dX3_least_35 : decode cX3_least 35 = .ok (.lload_n 3, 1) := by decide +kernel
theorem dX3_least_36 : decode cX3_least 36 = .ok (.lreturn, 1) := by decide +kernel
theorem dX3_isAmong_0 : decode cX3_isAmong 0 = .ok (.iconst 0, 1) := by decide +kernel
theorem dX3_isAmong_1 : decode cX3_isAmong 1 = .ok (.istore 4, 2) := by decide +kernel
theorem dX3_isAmong_3 : decode cX3_isAmong 3 = .ok (.iload 4, 2) := by decide +kernel
theorem dX3_isAmong_5 : decode cX3_isAmong 5 = .ok (.iload_n 3, 1) := by decide +kernel
theorem dX3_isAmong_6 : decode cX3_isAmong 6 = .ok (.if_icmp .ge 27, 3) := by decide +kernel
theorem dX3_isAmong_9 : decode cX3_isAmong 9 = .ok (.iload 4, 2) := by decide +kernel
theorem dX3_isAmong_11 : decode cX3_isAmong 11 = .ok (.aload_n 2, 1) := by decide +kernel
theorem dX3_isAmong_12 : decode cX3_isAmong 12 = .ok (.arraylength, 1) := by decide +kernel
theorem dX3_isAmong_13 : decode cX3_isAmong 13 = .ok (.if_icmp .ge 20, 3) := by decide +kernel
theorem dX3_isAmong_16 : decode cX3_isAmong 16 = .ok (.aload_n 2, 1) := by decide +kernel
theorem dX3_isAmong_17 : decode cX3_isAmong 17 = .ok (.iload 4, 2) := by decide +kernel
theorem dX3_isAmong_19 : decode cX3_isAmong 19 = .ok (.laload, 1) := by decide +kernel
theorem dX3_isAmong_20 : decode cX3_isAmong 20 = .ok (.lload_n 0, 1) := by decide +kernel
theorem dX3_isAmong_21 : decode cX3_isAmong 21 = .ok (.lcmp, 1) := by decide +kernel
theorem dX3_isAmong_22 : decode cX3_isAmong 22 = .ok (.ifCond .ne 5, 3) := by decide +kernel
theorem dX3_isAmong_25 : decode cX3_isAmong 25 = .ok (.iconst 1, 1) := by decide +kernel
theorem dX3_isAmong_26 : decode cX3_isAmong 26 = .ok (.ireturn, 1) := by decide +kernel
theorem dX3_isAmong_27 : decode cX3_isAmong 27 = .ok (.iinc 4 1, 3) := by decide +kernel
theorem dX3_isAmong_30 : decode cX3_isAmong 30 = .ok (.goto (-27), 3) := by decide +kernel
theorem dX3_isAmong_33 : decode cX3_isAmong 33 = .ok (.iconst 0, 1) := by decide +kernel
theorem dX3_isAmong_34 : decode cX3_isAmong 34 = .ok (.ireturn, 1) := by decide +kernel
theorem dX4_init_0 : decode cX4_init 0 = .ok (.aload_n 0, 1) := by decide +kernel
theorem dX4_init_1 : decode cX4_init 1 = .ok (.invokespecial 3, 3) := by decide +kernel
theorem dX4_init_4 : decode cX4_init 4 = .ok (.aload_n 0, 1) := by decide +kernel
theorem dX4_init_5 : decode cX4_init 5 = .ok (.iconst 0, 1) := by decide +kernel
theorem dX4_init_6 : decode cX4_init 6 = .ok (.putfield 9, 3) := by decide +kernel
theorem dX4_init_9 : decode cX4_init 9 = .ok (.aload_n 0, 1) := by decide +kernel
theorem dX4_init_10 : decode cX4_init 10 = .ok (.iconst 0, 1) := by decide +kernel
theorem dX4_init_11 : decode cX4_init 11 = .ok (.putfield 15, 3) := by decide +kernel
theorem dX4_init_14 : decode cX4_init 14 = .ok (.aload_n 0, 1) := by decide +kernel
theorem dX4_init_15 : decode cX4_init 15 = .ok (.iconst 0, 1) := by decide +kernel
theorem dX4_init_16 : decode cX4_init 16 = .ok (.putfield 18, 3) := by decide +kernel
theorem dX4_init_19 : decode cX4_init 19 = .ok (.return_, 1) := by decide +kernel
theorem dX4_write_0 : decode cX4_write 0 = .ok (.aload_n 0, 1) := by decide +kernel
theorem dX4_write_1 : decode cX4_write 1 = .ok (.iload_n 2, 1) := by decide +kernel
theorem dX4_write_2 : decode cX4_write 2 = .ok (.putfield 9, 3) := by decide +kernel
theorem dX4_write_5 : decode cX4_write 5 = .ok (.aload_n 0, 1) := by decide +kernel
theorem dX4_write_6 : decode cX4_write 6 = .ok (.iconst 0, 1) := by decide +kernel
theorem dX4_write_7 : decode cX4_write 7 = .ok (.putfield 18, 3) := by decide +kernel
theorem dX4_write_10 : decode cX4_write 10 = .ok (.iconst 0, 1) := by decide +kernel
theorem dX4_write_11 : decode cX4_write 11 = .ok (.istore_n 3, 1) := by decide +kernel
theorem dX4_write_12 : decode cX4_write 12 = .ok (.iconst 0, 1) := by decide +kernel
theorem dX4_write_13 : decode cX4_write 13 = .ok (.istore 4, 2) := by decide +kernel
theorem dX4_write_15 : decode cX4_write 15 = .ok (.iload 4, 2) := by decide +kernel
theorem dX4_write_17 : decode cX4_write 17 = .ok (.aload_n 1, 1) := by decide +kernel
theorem dX4_write_18 : decode cX4_write 18 = .ok (.getfield 21, 3) := by decide +kernel
theorem dX4_write_21 : decode cX4_write 21 = .ok (.if_icmp .ge 39, 3) := by decide +kernel
theorem dX4_write_24 : decode cX4_write 24 = .ok (.iinc 3 1, 3) := by decide +kernel
theorem dX4_write_27 : decode cX4_write 27 = .ok (.iload_n 3, 1) := by decide +kernel
theorem dX4_write_28 : decode cX4_write 28 = .ok (.iconst 4, 1) := by decide +kernel
theorem dX4_write_29 : decode cX4_write 29 = .ok (.if_icmp .eq 12, 3) := by decide +kernel
theorem dX4_write_32 : decode cX4_write 32 = .ok (.aload_n 1, 1) := by decide +kernel
theorem dX4_write_33 : decode cX4_write 33 = .ok (.iload 4, 2) := by decide +kernel
theorem dX4_write_35 : decode cX4_write 35 = .ok (.invokevirtual 26, 3) := by decide +kernel
theorem dX4_write_38 : decode cX4_write 38 = .ok (.ifCond .ne 16, 3) := by decide +kernel
theorem dX4_write_41 : decode cX4_write 41 = .ok (.aload_n 0, 1) := by decide +kernel
theorem dX4_write_42 : decode cX4_write 42 = .ok (.aload_n 1, 1) := by decide +kernel
theorem dX4_write_43 : decode cX4_write 43 = .ok (.iload 4, 2) := by decide +kernel
theorem dX4_write_45 : decode cX4_write 45 = .ok (.invokevirtual 30, 3) := by decide +kernel
theorem dX4_write_48 : decode cX4_write 48 = .ok (.iload_n 3, 1) := by decide +kernel
theorem dX4_write_49 : decode cX4_write 49 = .ok (.invokevirtual 34, 3) := by decide +kernel
theorem dX4_write_52 : decode cX4_write 52 = .ok (.iconst 0, 1) := by decide +kernel
theorem dX4_write_53 : decode cX4_write 53 = .ok (.istore_n 3, 1) := by decide +kernel
theorem dX4_write_54 : decode cX4_write 54 = .ok (.iinc 4 1, 3) := by decide +kernel
theorem dX4_write_57 : decode cX4_write 57 = .ok (.goto (-42), 3) := by decide +kernel
theorem dX4_write_60 : decode cX4_write 60 = .ok (.return_, 1) := by decide +kernel
theorem dX4_writeCall_0 : decode cX4_writeCall 0 = .ok (.iload_n 1, 1) := by decide +kernel
theorem dX4_writeCall_1 : decode cX4_writeCall 1 = .ok (.bipush 100, 2) := by decide +kernel
theorem dX4_writeCall_3 : decode cX4_writeCall 3 = .ok (.idiv, 1) := by decide +kernel
theorem dX4_writeCall_4 : decode cX4_writeCall 4 = .ok (.istore_n 3, 1) := by decide +kernel
theorem dX4_writeCall_5 : decode cX4_writeCall 5 = .ok (.aload_n 0, 1) := by decide +kernel
theorem dX4_writeCall_6 : decode cX4_writeCall 6 = .ok (.getfield 18, 3) := by decide +kernel
theorem dX4_writeCall_9 : decode cX4_writeCall 9 = .ok (.ifCond .le 9, 3) := by decide +kernel
theorem dX4_writeCall_12 : decode cX4_writeCall 12 = .ok (.aload_n 0, 1) := by decide +kernel
theorem dX4_writeCall_13 : decode cX4_writeCall 13 = .ok (.bipush 44, 2) := by decide +kernel
theorem dX4_writeCall_15 : decode cX4_writeCall 15 = .ok (.invokevirtual 38, 3) := by decide +kernel
theorem dX4_writeCall_18 : decode cX4_writeCall 18 = .ok (.iload_n 3, 1) := by decide +kernel
theorem dX4_writeCall_19 : decode cX4_writeCall 19 = .ok (.ifCond .eq 17, 3) := by decide +kernel
theorem dX4_writeCall_22 : decode cX4_writeCall 22 = .ok (.aload_n 0, 1) := by decide +kernel
theorem dX4_writeCall_23 : decode cX4_writeCall 23 = .ok (.iload_n 3, 1) := by decide +kernel
theorem dX4_writeCall_24 : decode cX4_writeCall 24 = .ok (.invokestatic 42, 3) := by decide +kernel
theorem dX4_writeCall_27 : decode cX4_writeCall 27 = .ok (.invokevirtual 48, 3) := by decide +kernel
theorem dX4_writeCall_30 : decode cX4_writeCall 30 = .ok (.aload_n 0, 1) := by decide +kernel
theorem dX4_writeCall_31 : decode cX4_writeCall 31 = .ok (.bipush 32, 2) := by decide +kernel
theorem dX4_writeCall_33 : decode cX4_writeCall 33 = .ok (.invokevirtual 38, 3) := by decide +kernel
theorem dX4_writeCall_36 : decode cX4_writeCall 36 = .ok (.aload_n 0, 1) := by decide +kernel
theorem dX4_writeCall_37 : decode cX4_writeCall 37 = .ok (.iload_n 1, 1) := by decide +kernel
theorem dX4_writeCall_38 : decode cX4_writeCall 38 = .ok (.bipush 100, 2) := by decide +kernel
theorem dX4_writeCall_40 : decode cX4_writeCall 40 = .ok (.irem, 1) := by decide +kernel
theorem dX4_writeCall_41 : decode cX4_writeCall 41 = .ok (.invokestatic 52, 3) := by decide +kernel
theorem dX4_writeCall_44 : decode cX4_writeCall 44 = .ok (.invokevirtual 48, 3) := by decide +kernel
theorem dX4_writeCall_47 : decode cX4_writeCall 47 = .ok (.iload_n 2, 1) := by decide +kernel
theorem dX4_writeCall_48 : decode cX4_writeCall 48 = .ok (.iconst 1, 1) := by decide +kernel
theorem dX4_writeCall_49 : decode cX4_writeCall 49 = .ok (.if_icmp .le 17, 3) := by decide +kernel
theorem dX4_writeCall_52 : decode cX4_writeCall 52 = .ok (.aload_n 0, 1) := by decide +kernel
theorem dX4_writeCall_53 : decode cX4_writeCall 53 = .ok (.bipush 32, 2) := by decide +kernel
theorem dX4_writeCall_55 : decode cX4_writeCall 55 = .ok (.invokevirtual 38, 3) := by decide +kernel
theorem dX4_writeCall_58 : decode cX4_writeCall 58 = .ok (.aload_n 0, 1) := by decide +kernel
theorem dX4_writeCall_59 : decode cX4_writeCall 59 = .ok (.bipush 48, 2) := by decide +kernel
theorem dX4_writeCall_61 : decode cX4_writeCall 61 = .ok (.iload_n 2, 1) := by decide +kernel
theorem dX4_writeCall_62 : decode cX4_writeCall 62 = .ok (.iadd, 1) := by decide +kernel
theorem dX4_writeCall_63 : decode cX4_writeCall 63 = .ok (.invokevirtual 38, 3) := by decide +kernel
theorem dX4_writeCall_66 : decode cX4_writeCall 66 = .ok (.return_, 1) := by decide +kernel
theorem dX4_putWord_0 : decode cX4_putWord 0 = .ok (.iconst 0, 1) := by decide +kernel
theorem dX4_putWord_1 : decode cX4_putWord 1 = .ok (.istore_n 2, 1) := by decide +kernel
theorem dX4_putWord_2 : decode cX4_putWord 2 = .ok (.iload_n 2, 1) := by decide +kernel
theorem dX4_putWord_3 : decode cX4_putWord 3 = .ok (.aload_n 1, 1) := by decide +kernel
theorem dX4_putWord_4 : decode cX4_putWord 4 = .ok (.invokevirtual 55, 3) := by decide +kernel
theorem dX4_putWord_7 : decode cX4_putWord 7 = .ok (.if_icmp .ge 18, 3) := by decide +kernel
theorem dX4_putWord_10 : decode cX4_putWord 10 = .ok (.aload_n 0, 1) := by decide +kernel
theorem dX4_putWord_11 : decode cX4_putWord 11 = .ok (.aload_n 1, 1) := by decide +kernel
theorem dX4_putWord_12 : decode cX4_putWord 12 = .ok (.iload_n 2, 1) := by decide +kernel
theorem dX4_putWord_13 : decode cX4_putWord 13 = .ok (.invokevirtual 60, 3) := by decide +kernel
theorem dX4_putWord_16 : decode cX4_putWord 16 = .ok (.invokevirtual 38, 3) := by decide +kernel
theorem dX4_putWord_19 : decode cX4_putWord 19 = .ok (.iinc 2 1, 3) := by decide +kernel
theorem dX4_putWord_22 : decode cX4_putWord 22 = .ok (.goto (-20), 3) := by decide +kernel
theorem dX4_putWord_25 : decode cX4_putWord 25 = .ok (.return_, 1) := by decide +kernel
theorem dX4_put_0 : decode cX4_put 0 = .ok (.aload_n 0, 1) := by decide +kernel
theorem dX4_put_1 : decode cX4_put 1 = .ok (.getfield 18, 3) := by decide +kernel
theorem dX4_put_4 : decode cX4_put 4 = .ok (.aload_n 0, 1) := by decide +kernel
theorem dX4_put_5 : decode cX4_put 5 = .ok (.getfield 9, 3) := by decide +kernel
theorem dX4_put_8 : decode cX4_put 8 = .ok (.if_icmp .ne 8, 3) := by decide +kernel
theorem dX4_put_11 : decode cX4_put 11 = .ok (.aload_n 0, 1) := by decide +kernel
theorem dX4_put_12 : decode cX4_put 12 = .ok (.iload_n 1, 1) := by decide +kernel
theorem dX4_put_13 : decode cX4_put 13 = .ok (.putfield 15, 3) := by decide +kernel
theorem dX4_put_16 : decode cX4_put 16 = .ok (.aload_n 0, 1) := by decide +kernel
theorem dX4_put_17 : decode cX4_put 17 = .ok (.dup, 1) := by decide +kernel
theorem dX4_put_18 : decode cX4_put 18 = .ok (.getfield 18, 3) := by decide +kernel
theorem dX4_put_21 : decode cX4_put 21 = .ok (.iconst 1, 1) := by decide +kernel
theorem dX4_put_22 : decode cX4_put 22 = .ok (.iadd, 1) := by decide +kernel
theorem dX4_put_23 : decode cX4_put 23 = .ok (.putfield 18, 3) := by decide +kernel
theorem dX4_put_26 : decode cX4_put 26 = .ok (.return_, 1) := by decide +kernel
theorem dX5_init_0 : decode cX5_init 0 = .ok (.aload_n 0, 1) := by decide +kernel
theorem dX5_init_1 : decode cX5_init 1 = .ok (.invokespecial 3, 3) := by decide +kernel
theorem dX5_init_4 : decode cX5_init 4 = .ok (.aload_n 0, 1) := by decide +kernel
theorem dX5_init_5 : decode cX5_init 5 = .ok (.bipush 120, 2) := by decide +kernel
theorem dX5_init_7 : decode cX5_init 7 = .ok (.newarray .int, 2) := by decide +kernel
theorem dX5_init_9 : decode cX5_init 9 = .ok (.putfield 11, 3) := by decide +kernel
theorem dX5_init_12 : decode cX5_init 12 = .ok (.aload_n 0, 1) := by decide +kernel
theorem dX5_init_13 : decode cX5_init 13 = .ok (.iconst 0, 1) := by decide +kernel
theorem dX5_init_14 : decode cX5_init 14 = .ok (.putfield 15, 3) := by decide +kernel
theorem dX5_init_17 : decode cX5_init 17 = .ok (.aload_n 0, 1) := by decide +kernel
theorem dX5_init_18 : decode cX5_init 18 = .ok (.bipush 120, 2) := by decide +kernel
theorem dX5_init_20 : decode cX5_init 20 = .ok (.newarray .int, 2) := by decide +kernel
theorem dX5_init_22 : decode cX5_init 22 = .ok (.putfield 19, 3) := by decide +kernel
theorem dX5_init_25 : decode cX5_init 25 = .ok (.aload_n 0, 1) := by decide +kernel
theorem dX5_init_26 : decode cX5_init 26 = .ok (.iconst 0, 1) := by decide +kernel
theorem dX5_init_27 : decode cX5_init 27 = .ok (.putfield 22, 3) := by decide +kernel
theorem dX5_init_30 : decode cX5_init 30 = .ok (.return_, 1) := by decide +kernel
theorem dX5_put_0 : decode cX5_put 0 = .ok (.aload_n 0, 1) := by decide +kernel
theorem dX5_put_1 : decode cX5_put 1 = .ok (.getfield 15, 3) := by decide +kernel
theorem dX5_put_4 : decode cX5_put 4 = .ok (.bipush 120, 2) := by decide +kernel
theorem dX5_put_6 : decode cX5_put 6 = .ok (.if_icmp .lt 5, 3) := by decide +kernel
theorem dX5_put_9 : decode cX5_put 9 = .ok (.iconst 0, 1) := by decide +kernel
theorem dX5_put_10 : decode cX5_put 10 = .ok (.ireturn, 1) := by decide +kernel
theorem dX5_put_11 : decode cX5_put 11 = .ok (.aload_n 0, 1) := by decide +kernel
theorem dX5_put_12 : decode cX5_put 12 = .ok (.getfield 11, 3) := by decide +kernel
theorem dX5_put_15 : decode cX5_put 15 = .ok (.aload_n 0, 1) := by decide +kernel
theorem dX5_put_16 : decode cX5_put 16 = .ok (.getfield 15, 3) := by decide +kernel
theorem dX5_put_19 : decode cX5_put 19 = .ok (.iload_n 1, 1) := by decide +kernel
theorem dX5_put_20 : decode cX5_put 20 = .ok (.iastore, 1) := by decide +kernel
theorem dX5_put_21 : decode cX5_put 21 = .ok (.aload_n 0, 1) := by decide +kernel
theorem dX5_put_22 : decode cX5_put 22 = .ok (.dup, 1) := by decide +kernel
theorem dX5_put_23 : decode cX5_put 23 = .ok (.getfield 15, 3) := by decide +kernel
theorem dX5_put_26 : decode cX5_put 26 = .ok (.iconst 1, 1) := by decide +kernel
theorem dX5_put_27 : decode cX5_put 27 = .ok (.iadd, 1) := by decide +kernel
theorem dX5_put_28 : decode cX5_put 28 = .ok (.putfield 15, 3) := by decide +kernel
theorem dX5_put_31 : decode cX5_put 31 = .ok (.iconst 1, 1) := by decide +kernel
theorem dX5_put_32 : decode cX5_put 32 = .ok (.ireturn, 1) := by decide +kernel
theorem dX5_take_0 : decode cX5_take 0 = .ok (.aload_n 0, 1) := by decide +kernel
theorem dX5_take_1 : decode cX5_take 1 = .ok (.iconst 0, 1) := by decide +kernel
theorem dX5_take_2 : decode cX5_take 2 = .ok (.putfield 22, 3) := by decide +kernel
theorem dX5_take_5 : decode cX5_take 5 = .ok (.aload_n 0, 1) := by decide +kernel
theorem dX5_take_6 : decode cX5_take 6 = .ok (.invokevirtual 25, 3) := by decide +kernel
theorem dX5_take_9 : decode cX5_take 9 = .ok (.istore_n 1, 1) := by decide +kernel
theorem dX5_take_10 : decode cX5_take 10 = .ok (.aload_n 0, 1) := by decide +kernel
theorem dX5_take_11 : decode cX5_take 11 = .ok (.iconst 0, 1) := by decide +kernel
theorem dX5_take_12 : decode cX5_take 12 = .ok (.putfield 15, 3) := by decide +kernel
theorem dX5_take_15 : decode cX5_take 15 = .ok (.iload_n 1, 1) := by decide +kernel
theorem dX5_take_16 : decode cX5_take 16 = .ok (.ireturn, 1) := by decide +kernel
theorem dX5_codeAt_0 : decode cX5_codeAt 0 = .ok (.iload_n 1, 1) := by decide +kernel
theorem dX5_codeAt_1 : decode cX5_codeAt 1 = .ok (.ifCond .lt 20, 3) := by decide +kernel
theorem dX5_codeAt_4 : decode cX5_codeAt 4 = .ok (.iload_n 1, 1) := by decide +kernel
theorem dX5_codeAt_5 : decode cX5_codeAt 5 = .ok (.aload_n 0, 1) := by decide +kernel
theorem dX5_codeAt_6 : decode cX5_codeAt 6 = .ok (.getfield 22, 3) := by decide +kernel
theorem dX5_codeAt_9 : decode cX5_codeAt 9 = .ok (.if_icmp .ge 12, 3) := by decide +kernel
theorem dX5_codeAt_12 : decode cX5_codeAt 12 = .ok (.aload_n 0, 1) := by decide +kernel
theorem dX5_codeAt_13 : decode cX5_codeAt 13 = .ok (.getfield 19, 3) := by decide +kernel
theorem dX5_codeAt_16 : decode cX5_codeAt 16 = .ok (.iload_n 1, 1) := by decide +kernel
theorem dX5_codeAt_17 : decode cX5_codeAt 17 = .ok (.iaload, 1) := by decide +kernel
theorem dX5_codeAt_18 : decode cX5_codeAt 18 = .ok (.goto 4, 3) := by decide +kernel
theorem dX5_codeAt_21 : decode cX5_codeAt 21 = .ok (.iconst 0, 1) := by decide +kernel
theorem dX5_codeAt_22 : decode cX5_codeAt 22 = .ok (.ireturn, 1) := by decide +kernel
theorem dX5_readText_0 : decode cX5_readText 0 = .ok (.iconst 0, 1) := by decide +kernel
theorem dX5_readText_1 : decode cX5_readText 1 = .ok (.istore_n 1, 1) := by decide +kernel
theorem dX5_readText_2 : decode cX5_readText 2 = .ok (.iconst 0, 1) := by decide +kernel
theorem dX5_readText_3 : decode cX5_readText 3 = .ok (.istore_n 2, 1) := by decide +kernel
theorem dX5_readText_4 : decode cX5_readText 4 = .ok (.iload_n 2, 1) := by decide +kernel
theorem dX5_readText_5 : decode cX5_readText 5 = .ok (.bipush 120, 2) := by decide +kernel
theorem dX5_readText_7 : decode cX5_readText 7 = .ok (.if_icmp .gt 49, 3) := by decide +kernel
theorem dX5_readText_10 : decode cX5_readText 10 = .ok (.aload_n 0, 1) := by decide +kernel
theorem dX5_readText_11 : decode cX5_readText 11 = .ok (.iload_n 1, 1) := by decide +kernel
theorem dX5_readText_12 : decode cX5_readText 12 = .ok (.invokevirtual 29, 3) := by decide +kernel
theorem dX5_readText_15 : decode cX5_readText 15 = .ok (.istore_n 3, 1) := by decide +kernel
theorem dX5_readText_16 : decode cX5_readText 16 = .ok (.iload_n 3, 1) := by decide +kernel
theorem dX5_readText_17 : decode cX5_readText 17 = .ok (.ifCond .ge 7, 3) := by decide +kernel
theorem dX5_readText_20 : decode cX5_readText 20 = .ok (.iconst (-1), 1) := by decide +kernel
theorem dX5_readText_21 : decode cX5_readText 21 = .ok (.iload_n 3, 1) := by decide +kernel
theorem dX5_readText_22 : decode cX5_readText 22 = .ok (.isub, 1) := by decide +kernel
theorem dX5_readText_23 : decode cX5_readText 23 = .ok (.ireturn, 1) := by decide +kernel
theorem dX5_readText_24 : decode cX5_readText 24 = .ok (.iload_n 3, 1) := by decide +kernel
theorem dX5_readText_25 : decode cX5_readText 25 = .ok (.aload_n 0, 1) := by decide +kernel
theorem dX5_readText_26 : decode cX5_readText 26 = .ok (.getfield 15, 3) := by decide +kernel
theorem dX5_readText_29 : decode cX5_readText 29 = .ok (.if_icmp .ne 5, 3) := by decide +kernel
theorem dX5_readText_32 : decode cX5_readText 32 = .ok (.iconst (-1), 1) := by decide +kernel
theorem dX5_readText_33 : decode cX5_readText 33 = .ok (.ireturn, 1) := by decide +kernel
theorem dX5_readText_34 : decode cX5_readText 34 = .ok (.aload_n 0, 1) := by decide +kernel
theorem dX5_readText_35 : decode cX5_readText 35 = .ok (.iload_n 3, 1) := by decide +kernel
theorem dX5_readText_36 : decode cX5_readText 36 = .ok (.invokevirtual 33, 3) := by decide +kernel
theorem dX5_readText_39 : decode cX5_readText 39 = .ok (.bipush 44, 2) := by decide +kernel
theorem dX5_readText_41 : decode cX5_readText 41 = .ok (.if_icmp .eq 5, 3) := by decide +kernel
theorem dX5_readText_44 : decode cX5_readText 44 = .ok (.iload_n 3, 1) := by decide +kernel
theorem dX5_readText_45 : decode cX5_readText 45 = .ok (.ireturn, 1) := by decide +kernel
theorem dX5_readText_46 : decode cX5_readText 46 = .ok (.iload_n 3, 1) := by decide +kernel
theorem dX5_readText_47 : decode cX5_readText 47 = .ok (.iconst 1, 1) := by decide +kernel
theorem dX5_readText_48 : decode cX5_readText 48 = .ok (.iadd, 1) := by decide +kernel
theorem dX5_readText_49 : decode cX5_readText 49 = .ok (.istore_n 1, 1) := by decide +kernel
theorem dX5_readText_50 : decode cX5_readText 50 = .ok (.iinc 2 1, 3) := by decide +kernel
theorem dX5_readText_53 : decode cX5_readText 53 = .ok (.goto (-49), 3) := by decide +kernel
theorem dX5_readText_56 : decode cX5_readText 56 = .ok (.iload_n 1, 1) := by decide +kernel
theorem dX5_readText_57 : decode cX5_readText 57 = .ok (.ireturn, 1) := by decide +kernel
theorem dX5_readCall_0 : decode cX5_readCall 0 = .ok (.iconst 0, 1) := by decide +kernel
theorem dX5_readCall_1 : decode cX5_readCall 1 = .ok (.istore_n 2, 1) := by decide +kernel
theorem dX5_readCall_2 : decode cX5_readCall 2 = .ok (.iload_n 1, 1) := by decide +kernel
theorem dX5_readCall_3 : decode cX5_readCall 3 = .ok (.istore_n 3, 1) := by decide +kernel
theorem dX5_readCall_4 : decode cX5_readCall 4 = .ok (.aload_n 0, 1) := by decide +kernel
theorem dX5_readCall_5 : decode cX5_readCall 5 = .ok (.iload_n 3, 1) := by decide +kernel
theorem dX5_readCall_6 : decode cX5_readCall 6 = .ok (.invokevirtual 36, 3) := by decide +kernel
theorem dX5_readCall_9 : decode cX5_readCall 9 = .ok (.istore 4, 2) := by decide +kernel
theorem dX5_readCall_11 : decode cX5_readCall 11 = .ok (.aload_n 0, 1) := by decide +kernel
theorem dX5_readCall_12 : decode cX5_readCall 12 = .ok (.iload_n 3, 1) := by decide +kernel
theorem dX5_readCall_13 : decode cX5_readCall 13 = .ok (.iload 4, 2) := by decide +kernel
theorem dX5_readCall_15 : decode cX5_readCall 15 = .ok (.invokevirtual 39, 3) := by decide +kernel
theorem dX5_readCall_18 : decode cX5_readCall 18 = .ok (.istore 5, 2) := by decide +kernel
theorem dX5_readCall_20 : decode cX5_readCall 20 = .ok (.iload 5, 2) := by decide +kernel
theorem dX5_readCall_22 : decode cX5_readCall 22 = .ok (.ifCond .ge 65, 3) := by decide +kernel
theorem dX5_readCall_25 : decode cX5_readCall 25 = .ok (.aload_n 0, 1) := by decide +kernel
theorem dX5_readCall_26 : decode cX5_readCall 26 = .ok (.iload_n 3, 1) := by decide +kernel
theorem dX5_readCall_27 : decode cX5_readCall 27 = .ok (.iload 4, 2) := by decide +kernel
theorem dX5_readCall_29 : decode cX5_readCall 29 = .ok (.invokevirtual 43, 3) := by decide +kernel
theorem dX5_readCall_32 : decode cX5_readCall 32 = .ok (.istore_n 2, 1) := by decide +kernel
theorem dX5_readCall_33 : decode cX5_readCall 33 = .ok (.iload_n 2, 1) := by decide +kernel
theorem dX5_readCall_34 : decode cX5_readCall 34 = .ok (.ifCond .ge 7, 3) := by decide +kernel
theorem dX5_readCall_37 : decode cX5_readCall 37 = .ok (.iconst (-1), 1) := by decide +kernel
theorem dX5_readCall_38 : decode cX5_readCall 38 = .ok (.iload_n 3, 1) := by decide +kernel
theorem dX5_readCall_39 : decode cX5_readCall 39 = .ok (.isub, 1) := by decide +kernel
theorem dX5_readCall_40 : decode cX5_readCall 40 = .ok (.ireturn, 1) := by decide +kernel
theorem dX5_readCall_41 : decode cX5_readCall 41 = .ok (.aload_n 0, 1) := by decide +kernel
theorem dX5_readCall_42 : decode cX5_readCall 42 = .ok (.iload 4, 2) := by decide +kernel
theorem dX5_readCall_44 : decode cX5_readCall 44 = .ok (.invokevirtual 33, 3) := by decide +kernel
theorem dX5_readCall_47 : decode cX5_readCall 47 = .ok (.bipush 32, 2) := by decide +kernel
theorem dX5_readCall_49 : decode cX5_readCall 49 = .ok (.if_icmp .eq 8, 3) := by decide +kernel
theorem dX5_readCall_52 : decode cX5_readCall 52 = .ok (.iconst (-1), 1) := by decide +kernel
theorem dX5_readCall_53 : decode cX5_readCall 53 = .ok (.iload 4, 2) := by decide +kernel
theorem dX5_readCall_55 : decode cX5_readCall 55 = .ok (.isub, 1) := by decide +kernel
theorem dX5_readCall_56 : decode cX5_readCall 56 = .ok (.ireturn, 1) := by decide +kernel
theorem dX5_readCall_57 : decode cX5_readCall 57 = .ok (.iload 4, 2) := by decide +kernel
theorem dX5_readCall_59 : decode cX5_readCall 59 = .ok (.iconst 1, 1) := by decide +kernel
theorem dX5_readCall_60 : decode cX5_readCall 60 = .ok (.iadd, 1) := by decide +kernel
theorem dX5_readCall_61 : decode cX5_readCall 61 = .ok (.istore_n 3, 1) := by decide +kernel
theorem dX5_readCall_62 : decode cX5_readCall 62 = .ok (.aload_n 0, 1) := by decide +kernel
theorem dX5_readCall_63 : decode cX5_readCall 63 = .ok (.iload_n 3, 1) := by decide +kernel
theorem dX5_readCall_64 : decode cX5_readCall 64 = .ok (.invokevirtual 36, 3) := by decide +kernel
theorem dX5_readCall_67 : decode cX5_readCall 67 = .ok (.istore 4, 2) := by decide +kernel
theorem dX5_readCall_69 : decode cX5_readCall 69 = .ok (.aload_n 0, 1) := by decide +kernel
theorem dX5_readCall_70 : decode cX5_readCall 70 = .ok (.iload_n 3, 1) := by decide +kernel
theorem dX5_readCall_71 : decode cX5_readCall 71 = .ok (.iload 4, 2) := by decide +kernel
theorem dX5_readCall_73 : decode cX5_readCall 73 = .ok (.invokevirtual 39, 3) := by decide +kernel
theorem dX5_readCall_76 : decode cX5_readCall 76 = .ok (.istore 5, 2) := by decide +kernel
theorem dX5_readCall_78 : decode cX5_readCall 78 = .ok (.iload 5, 2) := by decide +kernel
theorem dX5_readCall_80 : decode cX5_readCall 80 = .ok (.ifCond .ge 7, 3) := by decide +kernel
theorem dX5_readCall_83 : decode cX5_readCall 83 = .ok (.iconst (-1), 1) := by decide +kernel
theorem dX5_readCall_84 : decode cX5_readCall 84 = .ok (.iload_n 3, 1) := by decide +kernel
theorem dX5_readCall_85 : decode cX5_readCall 85 = .ok (.isub, 1) := by decide +kernel
theorem dX5_readCall_86 : decode cX5_readCall 86 = .ok (.ireturn, 1) := by decide +kernel
theorem dX5_readCall_87 : decode cX5_readCall 87 = .ok (.iconst 1, 1) := by decide +kernel
theorem dX5_readCall_88 : decode cX5_readCall 88 = .ok (.istore 6, 2) := by decide +kernel
theorem dX5_readCall_90 : decode cX5_readCall 90 = .ok (.aload_n 0, 1) := by decide +kernel
theorem dX5_readCall_91 : decode cX5_readCall 91 = .ok (.iload 4, 2) := by decide +kernel
theorem dX5_readCall_93 : decode cX5_readCall 93 = .ok (.invokevirtual 33, 3) := by decide +kernel
theorem dX5_readCall_96 : decode cX5_readCall 96 = .ok (.bipush 32, 2) := by decide +kernel
theorem dX5_readCall_98 : decode cX5_readCall 98 = .ok (.if_icmp .ne 38, 3) := by decide +kernel
theorem dX5_readCall_101 : decode cX5_readCall 101 = .ok (.aload_n 0, 1) := by decide +kernel
theorem dX5_readCall_102 : decode cX5_readCall 102 = .ok (.iload 4, 2) := by decide +kernel
theorem dX5_readCall_104 : decode cX5_readCall 104 = .ok (.iconst 1, 1) := by decide +kernel
theorem dX5_readCall_105 : decode cX5_readCall 105 = .ok (.iadd, 1) := by decide +kernel
theorem dX5_readCall_106 : decode cX5_readCall 106 = .ok (.invokevirtual 33, 3) := by decide +kernel
theorem dX5_readCall_109 : decode cX5_readCall 109 = .ok (.bipush 48, 2) := by decide +kernel
theorem dX5_readCall_111 : decode cX5_readCall 111 = .ok (.isub, 1) := by decide +kernel
theorem dX5_readCall_112 : decode cX5_readCall 112 = .ok (.istore 6, 2) := by decide +kernel
theorem dX5_readCall_114 : decode cX5_readCall 114 = .ok (.iload 6, 2) := by decide +kernel
theorem dX5_readCall_116 : decode cX5_readCall 116 = .ok (.iconst 2, 1) := by decide +kernel
theorem dX5_readCall_117 : decode cX5_readCall 117 = .ok (.if_icmp .lt 9, 3) := by decide +kernel
theorem dX5_readCall_120 : decode cX5_readCall 120 = .ok (.iload 6, 2) := by decide +kernel
theorem dX5_readCall_122 : decode cX5_readCall 122 = .ok (.iconst 4, 1) := by decide +kernel
theorem dX5_readCall_123 : decode cX5_readCall 123 = .ok (.if_icmp .le 10, 3) := by decide +kernel
theorem dX5_readCall_126 : decode cX5_readCall 126 = .ok (.iconst (-1), 1) := by decide +kernel
theorem dX5_readCall_127 : decode cX5_readCall 127 = .ok (.iload 4, 2) := by decide +kernel
theorem dX5_readCall_129 : decode cX5_readCall 129 = .ok (.iconst 1, 1) := by decide +kernel
theorem dX5_readCall_130 : decode cX5_readCall 130 = .ok (.iadd, 1) := by decide +kernel
theorem dX5_readCall_131 : decode cX5_readCall 131 = .ok (.isub, 1) := by decide +kernel
theorem dX5_readCall_132 : decode cX5_readCall 132 = .ok (.ireturn, 1) := by decide +kernel
theorem dX5_readCall_133 : decode cX5_readCall 133 = .ok (.iinc 4 2, 3) := by decide +kernel
theorem dX5_readCall_136 : decode cX5_readCall 136 = .ok (.aload_n 0, 1) := by decide +kernel
theorem dX5_readCall_137 : decode cX5_readCall 137 = .ok (.bipush 100, 2) := by decide +kernel
theorem dX5_readCall_139 : decode cX5_readCall 139 = .ok (.iload_n 2, 1) := by decide +kernel
theorem dX5_readCall_140 : decode cX5_readCall 140 = .ok (.imul, 1) := by decide +kernel
theorem dX5_readCall_141 : decode cX5_readCall 141 = .ok (.iload 5, 2) := by decide +kernel
theorem dX5_readCall_143 : decode cX5_readCall 143 = .ok (.iadd, 1) := by decide +kernel
theorem dX5_readCall_144 : decode cX5_readCall 144 = .ok (.iload 6, 2) := by decide +kernel
theorem dX5_readCall_146 : decode cX5_readCall 146 = .ok (.invokevirtual 46, 3) := by decide +kernel
theorem dX5_readCall_149 : decode cX5_readCall 149 = .ok (.iload 4, 2) := by decide +kernel
theorem dX5_readCall_151 : decode cX5_readCall 151 = .ok (.ireturn, 1) := by decide +kernel
theorem dX5_addCalls_0 : decode cX5_addCalls 0 = .ok (.iconst 0, 1) := by decide +kernel
theorem dX5_addCalls_1 : decode cX5_addCalls 1 = .ok (.istore_n 3, 1) := by decide +kernel
theorem dX5_addCalls_2 : decode cX5_addCalls 2 = .ok (.iload_n 3, 1) := by decide +kernel
theorem dX5_addCalls_3 : decode cX5_addCalls 3 = .ok (.iload_n 2, 1) := by decide +kernel
theorem dX5_addCalls_4 : decode cX5_addCalls 4 = .ok (.if_icmp .ge 38, 3) := by decide +kernel
theorem dX5_addCalls_7 : decode cX5_addCalls 7 = .ok (.aload_n 0, 1) := by decide +kernel
theorem dX5_addCalls_8 : decode cX5_addCalls 8 = .ok (.getfield 22, 3) := by decide +kernel
theorem dX5_addCalls_11 : decode cX5_addCalls 11 = .ok (.bipush 120, 2) := by decide +kernel
theorem dX5_addCalls_13 : decode cX5_addCalls 13 = .ok (.if_icmp .ge 29, 3) := by decide +kernel
theorem dX5_addCalls_16 : decode cX5_addCalls 16 = .ok (.aload_n 0, 1) := by decide +kernel
theorem dX5_addCalls_17 : decode cX5_addCalls 17 = .ok (.getfield 19, 3) := by decide +kernel
theorem dX5_addCalls_20 : decode cX5_addCalls 20 = .ok (.aload_n 0, 1) := by decide +kernel
theorem dX5_addCalls_21 : decode cX5_addCalls 21 = .ok (.getfield 22, 3) := by decide +kernel
theorem dX5_addCalls_24 : decode cX5_addCalls 24 = .ok (.iload_n 1, 1) := by decide +kernel
theorem dX5_addCalls_25 : decode cX5_addCalls 25 = .ok (.iastore, 1) := by decide +kernel
theorem dX5_addCalls_26 : decode cX5_addCalls 26 = .ok (.aload_n 0, 1) := by decide +kernel
theorem dX5_addCalls_27 : decode cX5_addCalls 27 = .ok (.dup, 1) := by decide +kernel
theorem dX5_addCalls_28 : decode cX5_addCalls 28 = .ok (.getfield 22, 3) := by decide +kernel
theorem dX5_addCalls_31 : decode cX5_addCalls 31 = .ok (.iconst 1, 1) := by decide +kernel
theorem dX5_addCalls_32 : decode cX5_addCalls 32 = .ok (.iadd, 1) := by decide +kernel
theorem dX5_addCalls_33 : decode cX5_addCalls 33 = .ok (.putfield 22, 3) := by decide +kernel
theorem dX5_addCalls_36 : decode cX5_addCalls 36 = .ok (.iinc 3 1, 3) := by decide +kernel
theorem dX5_addCalls_39 : decode cX5_addCalls 39 = .ok (.goto (-37), 3) := by decide +kernel
theorem dX5_addCalls_42 : decode cX5_addCalls 42 = .ok (.return_, 1) := by decide +kernel
theorem dX5_byteAt_0 : decode cX5_byteAt 0 = .ok (.iload_n 1, 1) := by decide +kernel
theorem dX5_byteAt_1 : decode cX5_byteAt 1 = .ok (.ifCond .lt 20, 3) := by decide +kernel
theorem dX5_byteAt_4 : decode cX5_byteAt 4 = .ok (.iload_n 1, 1) := by decide +kernel
theorem dX5_byteAt_5 : decode cX5_byteAt 5 = .ok (.aload_n 0, 1) := by decide +kernel
theorem dX5_byteAt_6 : decode cX5_byteAt 6 = .ok (.getfield 15, 3) := by decide +kernel
theorem dX5_byteAt_9 : decode cX5_byteAt 9 = .ok (.if_icmp .ge 12, 3) := by decide +kernel
theorem dX5_byteAt_12 : decode cX5_byteAt 12 = .ok (.aload_n 0, 1) := by decide +kernel
theorem dX5_byteAt_13 : decode cX5_byteAt 13 = .ok (.getfield 11, 3) := by decide +kernel
theorem dX5_byteAt_16 : decode cX5_byteAt 16 = .ok (.iload_n 1, 1) := by decide +kernel
theorem dX5_byteAt_17 : decode cX5_byteAt 17 = .ok (.iaload, 1) := by decide +kernel
theorem dX5_byteAt_18 : decode cX5_byteAt 18 = .ok (.goto 4, 3) := by decide +kernel
theorem dX5_byteAt_21 : decode cX5_byteAt 21 = .ok (.iconst 0, 1) := by decide +kernel
theorem dX5_byteAt_22 : decode cX5_byteAt 22 = .ok (.ireturn, 1) := by decide +kernel
theorem dX5_wordEnd_0 : decode cX5_wordEnd 0 = .ok (.iload_n 1, 1) := by decide +kernel
theorem dX5_wordEnd_1 : decode cX5_wordEnd 1 = .ok (.istore_n 2, 1) := by decide +kernel
theorem dX5_wordEnd_2 : decode cX5_wordEnd 2 = .ok (.iload_n 2, 1) := by decide +kernel
theorem dX5_wordEnd_3 : decode cX5_wordEnd 3 = .ok (.aload_n 0, 1) := by decide +kernel
theorem dX5_wordEnd_4 : decode cX5_wordEnd 4 = .ok (.getfield 15, 3) := by decide +kernel
theorem dX5_wordEnd_7 : decode cX5_wordEnd 7 = .ok (.if_icmp .ge 29, 3) := by decide +kernel
theorem dX5_wordEnd_10 : decode cX5_wordEnd 10 = .ok (.aload_n 0, 1) := by decide +kernel
theorem dX5_wordEnd_11 : decode cX5_wordEnd 11 = .ok (.iload_n 2, 1) := by decide +kernel
theorem dX5_wordEnd_12 : decode cX5_wordEnd 12 = .ok (.invokevirtual 33, 3) := by decide +kernel
theorem dX5_wordEnd_15 : decode cX5_wordEnd 15 = .ok (.bipush 97, 2) := by decide +kernel
theorem dX5_wordEnd_17 : decode cX5_wordEnd 17 = .ok (.if_icmp .lt 19, 3) := by decide +kernel
theorem dX5_wordEnd_20 : decode cX5_wordEnd 20 = .ok (.aload_n 0, 1) := by decide +kernel
theorem dX5_wordEnd_21 : decode cX5_wordEnd 21 = .ok (.iload_n 2, 1) := by decide +kernel
theorem dX5_wordEnd_22 : decode cX5_wordEnd 22 = .ok (.invokevirtual 33, 3) := by decide +kernel
theorem dX5_wordEnd_25 : decode cX5_wordEnd 25 = .ok (.bipush 122, 2) := by decide +kernel
theorem dX5_wordEnd_27 : decode cX5_wordEnd 27 = .ok (.if_icmp .gt 9, 3) := by decide +kernel
theorem dX5_wordEnd_30 : decode cX5_wordEnd 30 = .ok (.iinc 2 1, 3) := by decide +kernel
theorem dX5_wordEnd_33 : decode cX5_wordEnd 33 = .ok (.goto (-31), 3) := by decide +kernel
theorem dX5_wordEnd_36 : decode cX5_wordEnd 36 = .ok (.iload_n 2, 1) := by decide +kernel
theorem dX5_wordEnd_37 : decode cX5_wordEnd 37 = .ok (.ireturn, 1) := by decide +kernel
theorem dX5_whoIn_0 : decode cX5_whoIn 0 = .ok (.iconst 0, 1) := by decide +kernel
theorem dX5_whoIn_1 : decode cX5_whoIn 1 = .ok (.istore_n 3, 1) := by decide +kernel
theorem dX5_whoIn_2 : decode cX5_whoIn 2 = .ok (.iload_n 3, 1) := by decide +kernel
theorem dX5_whoIn_3 : decode cX5_whoIn 3 = .ok (.bipush 9, 2) := by decide +kernel
theorem dX5_whoIn_5 : decode cX5_whoIn 5 = .ok (.if_icmp .ge 24, 3) := by decide +kernel
theorem dX5_whoIn_8 : decode cX5_whoIn 8 = .ok (.aload_n 0, 1) := by decide +kernel
theorem dX5_whoIn_9 : decode cX5_whoIn 9 = .ok (.iload_n 3, 1) := by decide +kernel
theorem dX5_whoIn_10 : decode cX5_whoIn 10 = .ok (.invokestatic 50, 3) := by decide +kernel
theorem dX5_whoIn_13 : decode cX5_whoIn 13 = .ok (.iload_n 1, 1) := by decide +kernel
theorem dX5_whoIn_14 : decode cX5_whoIn 14 = .ok (.iload_n 2, 1) := by decide +kernel
theorem dX5_whoIn_15 : decode cX5_whoIn 15 = .ok (.invokevirtual 56, 3) := by decide +kernel
theorem dX5_whoIn_18 : decode cX5_whoIn 18 = .ok (.ifCond .eq 5, 3) := by decide +kernel
theorem dX5_whoIn_21 : decode cX5_whoIn 21 = .ok (.iload_n 3, 1) := by decide +kernel
theorem dX5_whoIn_22 : decode cX5_whoIn 22 = .ok (.ireturn, 1) := by decide +kernel
theorem dX5_whoIn_23 : decode cX5_whoIn 23 = .ok (.iinc 3 1, 3) := by decide +kernel
theorem dX5_whoIn_26 : decode cX5_whoIn 26 = .ok (.goto (-24), 3) := by decide +kernel
theorem dX5_whoIn_29 : decode cX5_whoIn 29 = .ok (.iconst (-1), 1) := by decide +kernel
theorem dX5_whoIn_30 : decode cX5_whoIn 30 = .ok (.ireturn, 1) := by decide +kernel
theorem dX5_figureIn_0 : decode cX5_figureIn 0 = .ok (.iconst 0, 1) := by decide +kernel
theorem dX5_figureIn_1 : decode cX5_figureIn 1 = .ok (.istore_n 3, 1) := by decide +kernel
theorem dX5_figureIn_2 : decode cX5_figureIn 2 = .ok (.iload_n 3, 1) := by decide +kernel
theorem dX5_figureIn_3 : decode cX5_figureIn 3 = .ok (.bipush 12, 2) := by decide +kernel
theorem dX5_figureIn_5 : decode cX5_figureIn 5 = .ok (.if_icmp .ge 24, 3) := by decide +kernel
theorem dX5_figureIn_8 : decode cX5_figureIn 8 = .ok (.aload_n 0, 1) := by decide +kernel
theorem dX5_figureIn_9 : decode cX5_figureIn 9 = .ok (.iload_n 3, 1) := by decide +kernel
theorem dX5_figureIn_10 : decode cX5_figureIn 10 = .ok (.invokestatic 60, 3) := by decide +kernel
theorem dX5_figureIn_13 : decode cX5_figureIn 13 = .ok (.iload_n 1, 1) := by decide +kernel
theorem dX5_figureIn_14 : decode cX5_figureIn 14 = .ok (.iload_n 2, 1) := by decide +kernel
theorem dX5_figureIn_15 : decode cX5_figureIn 15 = .ok (.invokevirtual 56, 3) := by decide +kernel
theorem dX5_figureIn_18 : decode cX5_figureIn 18 = .ok (.ifCond .eq 5, 3) := by decide +kernel
theorem dX5_figureIn_21 : decode cX5_figureIn 21 = .ok (.iload_n 3, 1) := by decide +kernel
theorem dX5_figureIn_22 : decode cX5_figureIn 22 = .ok (.ireturn, 1) := by decide +kernel
theorem dX5_figureIn_23 : decode cX5_figureIn 23 = .ok (.iinc 3 1, 3) := by decide +kernel
theorem dX5_figureIn_26 : decode cX5_figureIn 26 = .ok (.goto (-24), 3) := by decide +kernel
theorem dX5_figureIn_29 : decode cX5_figureIn 29 = .ok (.iconst (-1), 1) := by decide +kernel
theorem dX5_figureIn_30 : decode cX5_figureIn 30 = .ok (.ireturn, 1) := by decide +kernel
theorem dX5_isWord_0 : decode cX5_isWord 0 = .ok (.iload_n 3, 1) := by decide +kernel
theorem dX5_isWord_1 : decode cX5_isWord 1 = .ok (.iload_n 2, 1) := by decide +kernel
theorem dX5_isWord_2 : decode cX5_isWord 2 = .ok (.isub, 1) := by decide +kernel
theorem dX5_isWord_3 : decode cX5_isWord 3 = .ok (.aload_n 1, 1) := by decide +kernel
theorem dX5_isWord_4 : decode cX5_isWord 4 = .ok (.invokevirtual 63, 3) := by decide +kernel
theorem dX5_isWord_7 : decode cX5_isWord 7 = .ok (.if_icmp .eq 5, 3) := by decide +kernel
theorem dX5_isWord_10 : decode cX5_isWord 10 = .ok (.iconst 0, 1) := by decide +kernel
theorem dX5_isWord_11 : decode cX5_isWord 11 = .ok (.ireturn, 1) := by decide +kernel
theorem dX5_isWord_12 : decode cX5_isWord 12 = .ok (.iconst 0, 1) := by decide +kernel
theorem dX5_isWord_13 : decode cX5_isWord 13 = .ok (.istore 4, 2) := by decide +kernel
theorem dX5_isWord_15 : decode cX5_isWord 15 = .ok (.iload 4, 2) := by decide +kernel
theorem dX5_isWord_17 : decode cX5_isWord 17 = .ok (.aload_n 1, 1) := by decide +kernel
theorem dX5_isWord_18 : decode cX5_isWord 18 = .ok (.invokevirtual 63, 3) := by decide +kernel
theorem dX5_isWord_21 : decode cX5_isWord 21 = .ok (.if_icmp .ge 28, 3) := by decide +kernel
theorem dX5_isWord_24 : decode cX5_isWord 24 = .ok (.aload_n 0, 1) := by decide +kernel
theorem dX5_isWord_25 : decode cX5_isWord 25 = .ok (.iload_n 2, 1) := by decide +kernel
theorem dX5_isWord_26 : decode cX5_isWord 26 = .ok (.iload 4, 2) := by decide +kernel
theorem dX5_isWord_28 : decode cX5_isWord 28 = .ok (.iadd, 1) := by decide +kernel
theorem dX5_isWord_29 : decode cX5_isWord 29 = .ok (.invokevirtual 33, 3) := by decide +kernel
theorem dX5_isWord_32 : decode cX5_isWord 32 = .ok (.aload_n 1, 1) := by decide +kernel
theorem dX5_isWord_33 : decode cX5_isWord 33 = .ok (.iload 4, 2) := by decide +kernel
theorem dX5_isWord_35 : decode cX5_isWord 35 = .ok (.invokevirtual 67, 3) := by decide +kernel
theorem dX5_isWord_38 : decode cX5_isWord 38 = .ok (.if_icmp .eq 5, 3) := by decide +kernel
theorem dX5_isWord_41 : decode cX5_isWord 41 = .ok (.iconst 0, 1) := by decide +kernel
theorem dX5_isWord_42 : decode cX5_isWord 42 = .ok (.ireturn, 1) := by decide +kernel
theorem dX5_isWord_43 : decode cX5_isWord 43 = .ok (.iinc 4 1, 3) := by decide +kernel
theorem dX5_isWord_46 : decode cX5_isWord 46 = .ok (.goto (-31), 3) := by decide +kernel
theorem dX5_isWord_49 : decode cX5_isWord 49 = .ok (.iconst 1, 1) := by decide +kernel
theorem dX5_isWord_50 : decode cX5_isWord 50 = .ok (.ireturn, 1) := by decide +kernel
theorem dX6_init_0 : decode cX6_init 0 = .ok (.aload_n 0, 1) := by decide +kernel
theorem dX6_init_1 : decode cX6_init 1 = .ok (.invokespecial 3, 3) := by decide +kernel
theorem dX6_init_4 : decode cX6_init 4 = .ok (.aload_n 0, 1) := by decide +kernel
theorem dX6_init_5 : decode cX6_init 5 = .ok (.new 9, 3) := by decide +kernel
theorem dX6_init_8 : decode cX6_init 8 = .ok (.dup, 1) := by decide +kernel
theorem dX6_init_9 : decode cX6_init 9 = .ok (.invokespecial 11, 3) := by decide +kernel
theorem dX6_init_12 : decode cX6_init 12 = .ok (.putfield 12, 3) := by decide +kernel
theorem dX6_init_15 : decode cX6_init 15 = .ok (.aload_n 0, 1) := by decide +kernel
theorem dX6_init_16 : decode cX6_init 16 = .ok (.invokestatic 18, 3) := by decide +kernel
theorem dX6_init_19 : decode cX6_init 19 = .ok (.putfield 24, 3) := by decide +kernel
theorem dX6_init_22 : decode cX6_init 22 = .ok (.aload_n 0, 1) := by decide +kernel
theorem dX6_init_23 : decode cX6_init 23 = .ok (.sipush 250, 3) := by decide +kernel
theorem dX6_init_26 : decode cX6_init 26 = .ok (.newarray .long, 2) := by decide +kernel
theorem dX6_init_28 : decode cX6_init 28 = .ok (.putfield 28, 3) := by decide +kernel
theorem dX6_init_31 : decode cX6_init 31 = .ok (.aload_n 0, 1) := by decide +kernel
theorem dX6_init_32 : decode cX6_init 32 = .ok (.sipush 250, 3) := by decide +kernel
theorem dX6_init_35 : decode cX6_init 35 = .ok (.newarray .int, 2) := by decide +kernel
theorem dX6_init_37 : decode cX6_init 37 = .ok (.putfield 32, 3) := by decide +kernel
theorem dX6_init_40 : decode cX6_init 40 = .ok (.aload_n 0, 1) := by decide +kernel
theorem dX6_init_41 : decode cX6_init 41 = .ok (.sipush 250, 3) := by decide +kernel
theorem dX6_init_44 : decode cX6_init 44 = .ok (.newarray .int, 2) := by decide +kernel
theorem dX6_init_46 : decode cX6_init 46 = .ok (.putfield 36, 3) := by decide +kernel
theorem dX6_init_49 : decode cX6_init 49 = .ok (.aload_n 0, 1) := by decide +kernel
theorem dX6_init_50 : decode cX6_init 50 = .ok (.iconst 0, 1) := by decide +kernel
theorem dX6_init_51 : decode cX6_init 51 = .ok (.putfield 39, 3) := by decide +kernel
theorem dX6_init_54 : decode cX6_init 54 = .ok (.aload_n 0, 1) := by decide +kernel
theorem dX6_init_55 : decode cX6_init 55 = .ok (.sipush 250, 3) := by decide +kernel
theorem dX6_init_58 : decode cX6_init 58 = .ok (.newarray .int, 2) := by decide +kernel
theorem dX6_init_60 : decode cX6_init 60 = .ok (.putfield 43, 3) := by decide +kernel
theorem dX6_init_63 : decode cX6_init 63 = .ok (.aload_n 0, 1) := by decide +kernel
theorem dX6_init_64 : decode cX6_init 64 = .ok (.aload_n 0, 1) := by decide +kernel
theorem dX6_init_65 : decode cX6_init 65 = .ok (.getfield 24, 3) := by decide +kernel
theorem dX6_init_68 : decode cX6_init 68 = .ok (.putfield 46, 3) := by decide +kernel
theorem dX6_init_71 : decode cX6_init 71 = .ok (.aload_n 0, 1) := by decide +kernel
theorem dX6_init_72 : decode cX6_init 72 = .ok (.iconst 0, 1) := by decide +kernel
theorem dX6_init_73 : decode cX6_init 73 = .ok (.putfield 49, 3) := by decide +kernel
theorem dX6_init_76 : decode cX6_init 76 = .ok (.return_, 1) := by decide +kernel
theorem dX6_codeAt_0 : decode cX6_codeAt 0 = .ok (.iload_n 1, 1) := by decide +kernel
theorem dX6_codeAt_1 : decode cX6_codeAt 1 = .ok (.ifCond .lt 27, 3) := by decide +kernel
theorem dX6_codeAt_4 : decode cX6_codeAt 4 = .ok (.iload_n 1, 1) := by decide +kernel
theorem dX6_codeAt_5 : decode cX6_codeAt 5 = .ok (.sipush 250, 3) := by decide +kernel
theorem dX6_codeAt_8 : decode cX6_codeAt 8 = .ok (.if_icmp .ge 20, 3) := by decide +kernel
theorem dX6_codeAt_11 : decode cX6_codeAt 11 = .ok (.iload_n 1, 1) := by decide +kernel
theorem dX6_codeAt_12 : decode cX6_codeAt 12 = .ok (.aload_n 0, 1) := by decide +kernel
theorem dX6_codeAt_13 : decode cX6_codeAt 13 = .ok (.getfield 49, 3) := by decide +kernel
theorem dX6_codeAt_16 : decode cX6_codeAt 16 = .ok (.if_icmp .ge 12, 3) := by decide +kernel
theorem dX6_codeAt_19 : decode cX6_codeAt 19 = .ok (.aload_n 0, 1) := by decide +kernel
theorem dX6_codeAt_20 : decode cX6_codeAt 20 = .ok (.getfield 43, 3) := by decide +kernel
theorem dX6_codeAt_23 : decode cX6_codeAt 23 = .ok (.iload_n 1, 1) := by decide +kernel
theorem dX6_codeAt_24 : decode cX6_codeAt 24 = .ok (.iaload, 1) := by decide +kernel
theorem dX6_codeAt_25 : decode cX6_codeAt 25 = .ok (.goto 4, 3) := by decide +kernel
theorem dX6_codeAt_28 : decode cX6_codeAt 28 = .ok (.iconst 0, 1) := by decide +kernel
theorem dX6_codeAt_29 : decode cX6_codeAt 29 = .ok (.ireturn, 1) := by decide +kernel
theorem dX6_search_0 : decode cX6_search 0 = .ok (.aload_n 0, 1) := by decide +kernel
theorem dX6_search_1 : decode cX6_search 1 = .ok (.lload_n 1, 1) := by decide +kernel
theorem dX6_search_2 : decode cX6_search 2 = .ok (.putfield 46, 3) := by decide +kernel
theorem dX6_search_5 : decode cX6_search 5 = .ok (.aload_n 0, 1) := by decide +kernel
theorem dX6_search_6 : decode cX6_search 6 = .ok (.lload_n 1, 1) := by decide +kernel
theorem dX6_search_7 : decode cX6_search 7 = .ok (.aload_n 0, 1) := by decide +kernel
theorem dX6_search_8 : decode cX6_search 8 = .ok (.getfield 24, 3) := by decide +kernel
theorem dX6_search_11 : decode cX6_search 11 = .ok (.lcmp, 1) := by decide +kernel
theorem dX6_search_12 : decode cX6_search 12 = .ok (.ifCond .ne 7, 3) := by decide +kernel
theorem dX6_search_15 : decode cX6_search 15 = .ok (.iconst 0, 1) := by decide +kernel
theorem dX6_search_16 : decode cX6_search 16 = .ok (.goto 5, 3) := by decide +kernel
theorem dX6_search_19 : decode cX6_search 19 = .ok (.bipush (-2), 2) := by decide +kernel
theorem dX6_search_21 : decode cX6_search 21 = .ok (.putfield 49, 3) := by decide +kernel
theorem dX6_search_24 : decode cX6_search 24 = .ok (.aload_n 0, 1) := by decide +kernel
theorem dX6_search_25 : decode cX6_search 25 = .ok (.iconst 0, 1) := by decide +kernel
theorem dX6_search_26 : decode cX6_search 26 = .ok (.putfield 39, 3) := by decide +kernel
theorem dX6_search_29 : decode cX6_search 29 = .ok (.aload_n 0, 1) := by decide +kernel
theorem dX6_search_30 : decode cX6_search 30 = .ok (.lload_n 1, 1) := by decide +kernel
theorem dX6_search_31 : decode cX6_search 31 = .ok (.iconst 0, 1) := by decide +kernel
theorem dX6_search_32 : decode cX6_search 32 = .ok (.iconst 0, 1) := by decide +kernel
theorem dX6_search_33 : decode cX6_search 33 = .ok (.invokevirtual 52, 3) := by decide +kernel
theorem dX6_search_36 : decode cX6_search 36 = .ok (.pop, 1) := by decide +kernel
theorem dX6_search_37 : decode cX6_search 37 = .ok (.iconst 0, 1) := by decide +kernel
theorem dX6_search_38 : decode cX6_search 38 = .ok (.istore_n 3, 1) := by decide +kernel
theorem dX6_search_39 : decode cX6_search 39 = .ok (.aload_n 0, 1) := by decide +kernel
theorem dX6_search_40 : decode cX6_search 40 = .ok (.getfield 49, 3) := by decide +kernel
theorem dX6_search_43 : decode cX6_search 43 = .ok (.bipush (-2), 2) := by decide +kernel
theorem dX6_search_45 : decode cX6_search 45 = .ok (.if_icmp .ne 104, 3) := by decide +kernel
theorem dX6_search_48 : decode cX6_search 48 = .ok (.iload_n 3, 1) := by decide +kernel
theorem dX6_search_49 : decode cX6_search 49 = .ok (.aload_n 0, 1) := by decide +kernel
theorem dX6_search_50 : decode cX6_search 50 = .ok (.getfield 39, 3) := by decide +kernel
theorem dX6_search_53 : decode cX6_search 53 = .ok (.if_icmp .ge 96, 3) := by decide +kernel
theorem dX6_search_56 : decode cX6_search 56 = .ok (.iload_n 3, 1) := by decide +kernel
theorem dX6_search_57 : decode cX6_search 57 = .ok (.sipush 250, 3) := by decide +kernel
theorem dX6_search_60 : decode cX6_search 60 = .ok (.if_icmp .ge 89, 3) := by decide +kernel
theorem dX6_search_63 : decode cX6_search 63 = .ok (.aload_n 0, 1) := by decide +kernel
theorem dX6_search_64 : decode cX6_search 64 = .ok (.getfield 12, 3) := by decide +kernel
theorem dX6_search_67 : decode cX6_search 67 = .ok (.aload_n 0, 1) := by decide +kernel
theorem dX6_search_68 : decode cX6_search 68 = .ok (.getfield 28, 3) := by decide +kernel
theorem dX6_search_71 : decode cX6_search 71 = .ok (.iload_n 3, 1) := by decide +kernel
theorem dX6_search_72 : decode cX6_search 72 = .ok (.laload, 1) := by decide +kernel
theorem dX6_search_73 : decode cX6_search 73 = .ok (.invokevirtual 56, 3) := by decide +kernel
theorem dX6_search_76 : decode cX6_search 76 = .ok (.iconst 0, 1) := by decide +kernel
theorem dX6_search_77 : decode cX6_search 77 = .ok (.istore 4, 2) := by decide +kernel
theorem dX6_search_79 : decode cX6_search 79 = .ok (.aload_n 0, 1) := by decide +kernel
theorem dX6_search_80 : decode cX6_search 80 = .ok (.getfield 49, 3) := by decide +kernel
theorem dX6_search_83 : decode cX6_search 83 = .ok (.bipush (-2), 2) := by decide +kernel
theorem dX6_search_85 : decode cX6_search 85 = .ok (.if_icmp .ne 58, 3) := by decide +kernel
theorem dX6_search_88 : decode cX6_search 88 = .ok (.iload 4, 2) := by decide +kernel
theorem dX6_search_90 : decode cX6_search 90 = .ok (.bipush 108, 2) := by decide +kernel
theorem dX6_search_92 : decode cX6_search 92 = .ok (.if_icmp .ge 51, 3) := by decide +kernel
theorem dX6_search_95 : decode cX6_search 95 = .ok (.bipush 100, 2) := by decide +kernel
theorem dX6_search_97 : decode cX6_search 97 = .ok (.iload 4, 2) := by decide +kernel
theorem dX6_search_99 : decode cX6_search 99 = .ok (.bipush 12, 2) := by decide +kernel
theorem dX6_search_101 : decode cX6_search 101 = .ok (.idiv, 1) := by decide +kernel
theorem dX6_search_102 : decode cX6_search 102 = .ok (.imul, 1) := by decide +kernel
theorem dX6_search_103 : decode cX6_search 103 = .ok (.iload 4, 2) := by decide +kernel
theorem dX6_search_105 : decode cX6_search 105 = .ok (.bipush 12, 2) := by decide +kernel
theorem dX6_search_107 : decode cX6_search 107 = .ok (.irem, 1) := by decide +kernel
theorem dX6_search_108 : decode cX6_search 108 = .ok (.iadd, 1) := by decide +kernel
theorem dX6_search_109 : decode cX6_search 109 = .ok (.istore 5, 2) := by decide +kernel
theorem dX6_search_111 : decode cX6_search 111 = .ok (.aload_n 0, 1) := by decide +kernel
theorem dX6_search_112 : decode cX6_search 112 = .ok (.getfield 12, 3) := by decide +kernel
theorem dX6_search_115 : decode cX6_search 115 = .ok (.iload 5, 2) := by decide +kernel
theorem dX6_search_117 : decode cX6_search 117 = .ok (.invokevirtual 60, 3) := by decide +kernel
theorem dX6_search_120 : decode cX6_search 120 = .ok (.ifCond .eq 17, 3) := by decide +kernel
theorem dX6_search_123 : decode cX6_search 123 = .ok (.aload_n 0, 1) := by decide +kernel
theorem dX6_search_124 : decode cX6_search 124 = .ok (.aload_n 0, 1) := by decide +kernel
theorem dX6_search_125 : decode cX6_search 125 = .ok (.getfield 12, 3) := by decide +kernel
theorem dX6_search_128 : decode cX6_search 128 = .ok (.invokevirtual 64, 3) := by decide +kernel
theorem dX6_search_131 : decode cX6_search 131 = .ok (.iload_n 3, 1) := by decide +kernel
theorem dX6_search_132 : decode cX6_search 132 = .ok (.iload 5, 2) := by decide +kernel
theorem dX6_search_134 : decode cX6_search 134 = .ok (.invokevirtual 67, 3) := by decide +kernel
theorem dX6_search_137 : decode cX6_search 137 = .ok (.iinc 4 1, 3) := by decide +kernel
theorem dX6_search_140 : decode cX6_search 140 = .ok (.goto (-61), 3) := by decide +kernel
theorem dX6_search_143 : decode cX6_search 143 = .ok (.iinc 3 1, 3) := by decide +kernel
theorem dX6_search_146 : decode cX6_search 146 = .ok (.goto (-107), 3) := by decide +kernel
theorem dX6_search_149 : decode cX6_search 149 = .ok (.return_, 1) := by decide +kernel
theorem dX6_comeTo_0 : decode cX6_comeTo 0 = .ok (.lload_n 1, 1) := by decide +kernel
theorem dX6_comeTo_1 : decode cX6_comeTo 1 = .ok (.aload_n 0, 1) := by decide +kernel
theorem dX6_comeTo_2 : decode cX6_comeTo 2 = .ok (.getfield 24, 3) := by decide +kernel
theorem dX6_comeTo_5 : decode cX6_comeTo 5 = .ok (.lcmp, 1) := by decide +kernel
theorem dX6_comeTo_6 : decode cX6_comeTo 6 = .ok (.ifCond .ne 17, 3) := by decide +kernel
theorem dX6_comeTo_9 : decode cX6_comeTo 9 = .ok (.aload_n 0, 1) := by decide +kernel
theorem dX6_comeTo_10 : decode cX6_comeTo 10 = .ok (.aload_n 0, 1) := by decide +kernel
theorem dX6_comeTo_11 : decode cX6_comeTo 11 = .ok (.iload_n 3, 1) := by decide +kernel
theorem dX6_comeTo_12 : decode cX6_comeTo 12 = .ok (.iload 4, 2) := by decide +kernel
theorem dX6_comeTo_14 : decode cX6_comeTo 14 = .ok (.invokevirtual 71, 3) := by decide +kernel
theorem dX6_comeTo_17 : decode cX6_comeTo 17 = .ok (.putfield 49, 3) := by decide +kernel
theorem dX6_comeTo_20 : decode cX6_comeTo 20 = .ok (.goto 35, 3) := by decide +kernel
theorem dX6_comeTo_23 : decode cX6_comeTo 23 = .ok (.lload_n 1, 1) := by decide +kernel
theorem dX6_comeTo_24 : decode cX6_comeTo 24 = .ok (.aload_n 0, 1) := by decide +kernel
theorem dX6_comeTo_25 : decode cX6_comeTo 25 = .ok (.getfield 28, 3) := by decide +kernel
theorem dX6_comeTo_28 : decode cX6_comeTo 28 = .ok (.aload_n 0, 1) := by decide +kernel
theorem dX6_comeTo_29 : decode cX6_comeTo 29 = .ok (.getfield 39, 3) := by decide +kernel
theorem dX6_comeTo_32 : decode cX6_comeTo 32 = .ok (.invokestatic 75, 3) := by decide +kernel
theorem dX6_comeTo_35 : decode cX6_comeTo 35 = .ok (.ifCond .ne 20, 3) := by decide +kernel
theorem dX6_comeTo_38 : decode cX6_comeTo 38 = .ok (.aload_n 0, 1) := by decide +kernel
theorem dX6_comeTo_39 : decode cX6_comeTo 39 = .ok (.lload_n 1, 1) := by decide +kernel
theorem dX6_comeTo_40 : decode cX6_comeTo 40 = .ok (.iload_n 3, 1) := by decide +kernel
theorem dX6_comeTo_41 : decode cX6_comeTo 41 = .ok (.iload 4, 2) := by decide +kernel
theorem dX6_comeTo_43 : decode cX6_comeTo 43 = .ok (.invokevirtual 52, 3) := by decide +kernel
theorem dX6_comeTo_46 : decode cX6_comeTo 46 = .ok (.ifCond .ne 9, 3) := by decide +kernel
theorem dX6_comeTo_49 : decode cX6_comeTo 49 = .ok (.aload_n 0, 1) := by decide +kernel
theorem dX6_comeTo_50 : decode cX6_comeTo 50 = .ok (.bipush (-7), 2) := by decide +kernel
theorem dX6_comeTo_52 : decode cX6_comeTo 52 = .ok (.putfield 49, 3) := by decide +kernel
theorem dX6_comeTo_55 : decode cX6_comeTo 55 = .ok (.return_, 1) := by decide +kernel
theorem dX6_add_0 : decode cX6_add 0 = .ok (.aload_n 0, 1) := by decide +kernel
theorem dX6_add_1 : decode cX6_add 1 = .ok (.getfield 39, 3) := by decide +kernel
theorem dX6_add_4 : decode cX6_add 4 = .ok (.sipush 250, 3) := by decide +kernel
theorem dX6_add_7 : decode cX6_add 7 = .ok (.if_icmp .lt 5, 3) := by decide +kernel
theorem dX6_add_10 : decode cX6_add 10 = .ok (.iconst 0, 1) := by decide +kernel
theorem dX6_add_11 : decode cX6_add 11 = .ok (.ireturn, 1) := by decide +kernel
theorem dX6_add_12 : decode cX6_add 12 = .ok (.aload_n 0, 1) := by decide +kernel
theorem dX6_add_13 : decode cX6_add 13 = .ok (.getfield 28, 3) := by decide +kernel
theorem dX6_add_16 : decode cX6_add 16 = .ok (.aload_n 0, 1) := by decide +kernel
theorem dX6_add_17 : decode cX6_add 17 = .ok (.getfield 39, 3) := by decide +kernel
theorem dX6_add_20 : decode cX6_add 20 = .ok (.lload_n 1, 1) := by decide +kernel
theorem dX6_add_21 : decode cX6_add 21 = .ok (.lastore, 1) := by decide +kernel
theorem dX6_add_22 : decode cX6_add 22 = .ok (.aload_n 0, 1) := by decide +kernel
theorem dX6_add_23 : decode cX6_add 23 = .ok (.getfield 32, 3) := by decide +kernel
theorem dX6_add_26 : decode cX6_add 26 = .ok (.aload_n 0, 1) := by decide +kernel
theorem dX6_add_27 : decode cX6_add 27 = .ok (.getfield 39, 3) := by decide +kernel
theorem dX6_add_30 : decode cX6_add 30 = .ok (.iload_n 3, 1) := by decide +kernel
theorem dX6_add_31 : decode cX6_add 31 = .ok (.iastore, 1) := by decide +kernel
theorem dX6_add_32 : decode cX6_add 32 = .ok (.aload_n 0, 1) := by decide +kernel
theorem dX6_add_33 : decode cX6_add 33 = .ok (.getfield 36, 3) := by decide +kernel
theorem dX6_add_36 : decode cX6_add 36 = .ok (.aload_n 0, 1) := by decide +kernel
theorem dX6_add_37 : decode cX6_add 37 = .ok (.getfield 39, 3) := by decide +kernel
theorem dX6_add_40 : decode cX6_add 40 = .ok (.iload 4, 2) := by decide +kernel
theorem dX6_add_42 : decode cX6_add 42 = .ok (.iastore, 1) := by decide +kernel
theorem dX6_add_43 : decode cX6_add 43 = .ok (.aload_n 0, 1) := by decide +kernel
theorem dX6_add_44 : decode cX6_add 44 = .ok (.dup, 1) := by decide +kernel
theorem dX6_add_45 : decode cX6_add 45 = .ok (.getfield 39, 3) := by decide +kernel
theorem dX6_add_48 : decode cX6_add 48 = .ok (.iconst 1, 1) := by decide +kernel
theorem dX6_add_49 : decode cX6_add 49 = .ok (.iadd, 1) := by decide +kernel
theorem dX6_add_50 : decode cX6_add 50 = .ok (.putfield 39, 3) := by decide +kernel
theorem dX6_add_53 : decode cX6_add 53 = .ok (.iconst 1, 1) := by decide +kernel
theorem dX6_add_54 : decode cX6_add 54 = .ok (.ireturn, 1) := by decide +kernel
theorem dX6_trace_0 : decode cX6_trace 0 = .ok (.iconst 1, 1) := by decide +kernel
theorem dX6_trace_1 : decode cX6_trace 1 = .ok (.istore_n 3, 1) := by decide +kernel
theorem dX6_trace_2 : decode cX6_trace 2 = .ok (.iload_n 1, 1) := by decide +kernel
theorem dX6_trace_3 : decode cX6_trace 3 = .ok (.istore 4, 2) := by decide +kernel
theorem dX6_trace_5 : decode cX6_trace 5 = .ok (.iload 4, 2) := by decide +kernel
theorem dX6_trace_7 : decode cX6_trace 7 = .ok (.ifCond .le 25, 3) := by decide +kernel
theorem dX6_trace_10 : decode cX6_trace 10 = .ok (.iload_n 3, 1) := by decide +kernel
theorem dX6_trace_11 : decode cX6_trace 11 = .ok (.sipush 250, 3) := by decide +kernel
theorem dX6_trace_14 : decode cX6_trace 14 = .ok (.if_icmp .ge 18, 3) := by decide +kernel
theorem dX6_trace_17 : decode cX6_trace 17 = .ok (.iinc 3 1, 3) := by decide +kernel
theorem dX6_trace_20 : decode cX6_trace 20 = .ok (.aload_n 0, 1) := by decide +kernel
theorem dX6_trace_21 : decode cX6_trace 21 = .ok (.getfield 32, 3) := by decide +kernel
theorem dX6_trace_24 : decode cX6_trace 24 = .ok (.iload 4, 2) := by decide +kernel
theorem dX6_trace_26 : decode cX6_trace 26 = .ok (.iaload, 1) := by decide +kernel
theorem dX6_trace_27 : decode cX6_trace 27 = .ok (.istore 4, 2) := by decide +kernel
theorem dX6_trace_29 : decode cX6_trace 29 = .ok (.goto (-24), 3) := by decide +kernel
theorem dX6_trace_32 : decode cX6_trace 32 = .ok (.iload_n 3, 1) := by decide +kernel
theorem dX6_trace_33 : decode cX6_trace 33 = .ok (.iconst 1, 1) := by decide +kernel
theorem dX6_trace_34 : decode cX6_trace 34 = .ok (.isub, 1) := by decide +kernel
theorem dX6_trace_35 : decode cX6_trace 35 = .ok (.istore 4, 2) := by decide +kernel
theorem dX6_trace_37 : decode cX6_trace 37 = .ok (.aload_n 0, 1) := by decide +kernel
theorem dX6_trace_38 : decode cX6_trace 38 = .ok (.getfield 43, 3) := by decide +kernel
theorem dX6_trace_41 : decode cX6_trace 41 = .ok (.iload 4, 2) := by decide +kernel
theorem dX6_trace_43 : decode cX6_trace 43 = .ok (.iload_n 2, 1) := by decide +kernel
theorem dX6_trace_44 : decode cX6_trace 44 = .ok (.iastore, 1) := by decide +kernel
theorem dX6_trace_45 : decode cX6_trace 45 = .ok (.iload_n 1, 1) := by decide +kernel
theorem dX6_trace_46 : decode cX6_trace 46 = .ok (.istore 5, 2) := by decide +kernel
theorem dX6_trace_48 : decode cX6_trace 48 = .ok (.iload 5, 2) := by decide +kernel
theorem dX6_trace_50 : decode cX6_trace 50 = .ok (.ifCond .le 37, 3) := by decide +kernel
theorem dX6_trace_53 : decode cX6_trace 53 = .ok (.iload 4, 2) := by decide +kernel
theorem dX6_trace_55 : decode cX6_trace 55 = .ok (.ifCond .le 32, 3) := by decide +kernel
theorem dX6_trace_58 : decode cX6_trace 58 = .ok (.iinc 4 (-1), 3) := by decide +kernel
theorem dX6_trace_61 : decode cX6_trace 61 = .ok (.aload_n 0, 1) := by decide +kernel
theorem dX6_trace_62 : decode cX6_trace 62 = .ok (.getfield 43, 3) := by decide +kernel
theorem dX6_trace_65 : decode cX6_trace 65 = .ok (.iload 4, 2) := by decide +kernel
theorem dX6_trace_67 : decode cX6_trace 67 = .ok (.aload_n 0, 1) := by decide +kernel
theorem dX6_trace_68 : decode cX6_trace 68 = .ok (.getfield 36, 3) := by decide +kernel
theorem dX6_trace_71 : decode cX6_trace 71 = .ok (.iload 5, 2) := by decide +kernel
theorem dX6_trace_73 : decode cX6_trace 73 = .ok (.iaload, 1) := by decide +kernel
theorem dX6_trace_74 : decode cX6_trace 74 = .ok (.iastore, 1) := by decide +kernel
theorem dX6_trace_75 : decode cX6_trace 75 = .ok (.aload_n 0, 1) := by decide +kernel
theorem dX6_trace_76 : decode cX6_trace 76 = .ok (.getfield 32, 3) := by decide +kernel
theorem dX6_trace_79 : decode cX6_trace 79 = .ok (.iload 5, 2) := by decide +kernel
theorem dX6_trace_81 : decode cX6_trace 81 = .ok (.iaload, 1) := by decide +kernel
theorem dX6_trace_82 : decode cX6_trace 82 = .ok (.istore 5, 2) := by decide +kernel
theorem dX6_trace_84 : decode cX6_trace 84 = .ok (.goto (-36), 3) := by decide +kernel
theorem dX6_trace_87 : decode cX6_trace 87 = .ok (.iload_n 3, 1) := by decide +kernel
theorem dX6_trace_88 : decode cX6_trace 88 = .ok (.ireturn, 1) := by decide +kernel
theorem dX7_ofWho_0 : decode cX7_ofWho 0 = .ok (.iload_n 0, 1) := by decide +kernel
theorem dX7_ofWho_1 : decode cX7_ofWho 1 = .ok (.tableswitch 78 0 8 #[51, 54, 57, 60, 63, 66, 69, 72, 75], 51) := by decide +kernel
theorem dX7_ofWho_52 : decode cX7_ofWho 52 = .ok (.ldc 9, 2) := by decide +kernel
theorem dX7_ofWho_54 : decode cX7_ofWho 54 = .ok (.areturn, 1) := by decide +kernel
theorem dX7_ofWho_55 : decode cX7_ofWho 55 = .ok (.ldc 11, 2) := by decide +kernel
theorem dX7_ofWho_57 : decode cX7_ofWho 57 = .ok (.areturn, 1) := by decide +kernel
theorem dX7_ofWho_58 : decode cX7_ofWho 58 = .ok (.ldc 13, 2) := by decide +kernel
theorem dX7_ofWho_60 : decode cX7_ofWho 60 = .ok (.areturn, 1) := by decide +kernel
theorem dX7_ofWho_61 : decode cX7_ofWho 61 = .ok (.ldc 15, 2) := by decide +kernel
theorem dX7_ofWho_63 : decode cX7_ofWho 63 = .ok (.areturn, 1) := by decide +kernel
theorem dX7_ofWho_64 : decode cX7_ofWho 64 = .ok (.ldc 17, 2) := by decide +kernel
theorem dX7_ofWho_66 : decode cX7_ofWho 66 = .ok (.areturn, 1) := by decide +kernel
theorem dX7_ofWho_67 : decode cX7_ofWho 67 = .ok (.ldc 19, 2) := by decide +kernel
theorem dX7_ofWho_69 : decode cX7_ofWho 69 = .ok (.areturn, 1) := by decide +kernel
theorem dX7_ofWho_70 : decode cX7_ofWho 70 = .ok (.ldc 21, 2) := by decide +kernel
theorem dX7_ofWho_72 : decode cX7_ofWho 72 = .ok (.areturn, 1) := by decide +kernel
theorem dX7_ofWho_73 : decode cX7_ofWho 73 = .ok (.ldc 23, 2) := by decide +kernel
theorem dX7_ofWho_75 : decode cX7_ofWho 75 = .ok (.areturn, 1) := by decide +kernel
theorem dX7_ofWho_76 : decode cX7_ofWho 76 = .ok (.ldc 25, 2) := by decide +kernel
theorem dX7_ofWho_78 : decode cX7_ofWho 78 = .ok (.areturn, 1) := by decide +kernel
theorem dX7_ofWho_79 : decode cX7_ofWho 79 = .ok (.ldc 27, 2) := by decide +kernel
theorem dX7_ofWho_81 : decode cX7_ofWho 81 = .ok (.areturn, 1) := by decide +kernel
theorem dX7_ofFigure_0 : decode cX7_ofFigure 0 = .ok (.iload_n 0, 1) := by decide +kernel
theorem dX7_ofFigure_1 : decode cX7_ofFigure 1 = .ok (.tableswitch 99 0 11 #[63, 66, 69, 72, 75, 78, 81, 84, 87, 90, 93, 96], 63) := by decide +kernel
theorem dX7_ofFigure_64 : decode cX7_ofFigure 64 = .ok (.ldc 29, 2) := by decide +kernel
theorem dX7_ofFigure_66 : decode cX7_ofFigure 66 = .ok (.areturn, 1) := by decide +kernel
theorem dX7_ofFigure_67 : decode cX7_ofFigure 67 = .ok (.ldc 31, 2) := by decide +kernel
theorem dX7_ofFigure_69 : decode cX7_ofFigure 69 = .ok (.areturn, 1) := by decide +kernel
theorem dX7_ofFigure_70 : decode cX7_ofFigure 70 = .ok (.ldc 33, 2) := by decide +kernel
theorem dX7_ofFigure_72 : decode cX7_ofFigure 72 = .ok (.areturn, 1) := by decide +kernel
theorem dX7_ofFigure_73 : decode cX7_ofFigure 73 = .ok (.ldc 35, 2) := by decide +kernel
theorem dX7_ofFigure_75 : decode cX7_ofFigure 75 = .ok (.areturn, 1) := by decide +kernel
theorem dX7_ofFigure_76 : decode cX7_ofFigure 76 = .ok (.ldc 37, 2) := by decide +kernel
theorem dX7_ofFigure_78 : decode cX7_ofFigure 78 = .ok (.areturn, 1) := by decide +kernel
theorem dX7_ofFigure_79 : decode cX7_ofFigure 79 = .ok (.ldc 39, 2) := by decide +kernel
theorem dX7_ofFigure_81 : decode cX7_ofFigure 81 = .ok (.areturn, 1) := by decide +kernel
theorem dX7_ofFigure_82 : decode cX7_ofFigure 82 = .ok (.ldc 41, 2) := by decide +kernel
theorem dX7_ofFigure_84 : decode cX7_ofFigure 84 = .ok (.areturn, 1) := by decide +kernel
theorem dX7_ofFigure_85 : decode cX7_ofFigure 85 = .ok (.ldc 43, 2) := by decide +kernel
theorem dX7_ofFigure_87 : decode cX7_ofFigure 87 = .ok (.areturn, 1) := by decide +kernel
theorem dX7_ofFigure_88 : decode cX7_ofFigure 88 = .ok (.ldc 45, 2) := by decide +kernel
theorem dX7_ofFigure_90 : decode cX7_ofFigure 90 = .ok (.areturn, 1) := by decide +kernel
theorem dX7_ofFigure_91 : decode cX7_ofFigure 91 = .ok (.ldc 47, 2) := by decide +kernel
theorem dX7_ofFigure_93 : decode cX7_ofFigure 93 = .ok (.areturn, 1) := by decide +kernel
theorem dX7_ofFigure_94 : decode cX7_ofFigure 94 = .ok (.ldc 49, 2) := by decide +kernel
theorem dX7_ofFigure_96 : decode cX7_ofFigure 96 = .ok (.areturn, 1) := by decide +kernel
theorem dX7_ofFigure_97 : decode cX7_ofFigure 97 = .ok (.ldc 51, 2) := by decide +kernel
theorem dX7_ofFigure_99 : decode cX7_ofFigure 99 = .ok (.areturn, 1) := by decide +kernel
theorem dX7_ofFigure_100 : decode cX7_ofFigure 100 = .ok (.ldc 27, 2) := by decide +kernel
theorem dX7_ofFigure_102 : decode cX7_ofFigure 102 = .ok (.areturn, 1) := by decide +kernel
theorem dX8_init_0 : decode cX8_init 0 = .ok (.aload_n 0, 1) := by decide +kernel
theorem dX8_init_1 : decode cX8_init 1 = .ok (.invokespecial 3, 3) := by decide +kernel
theorem dX8_init_4 : decode cX8_init 4 = .ok (.aload_n 0, 1) := by decide +kernel
theorem dX8_init_5 : decode cX8_init 5 = .ok (.new 9, 3) := by decide +kernel
theorem dX8_init_8 : decode cX8_init 8 = .ok (.dup, 1) := by decide +kernel
theorem dX8_init_9 : decode cX8_init 9 = .ok (.invokespecial 11, 3) := by decide +kernel
theorem dX8_init_12 : decode cX8_init 12 = .ok (.putfield 12, 3) := by decide +kernel
theorem dX8_init_15 : decode cX8_init 15 = .ok (.aload_n 0, 1) := by decide +kernel
theorem dX8_init_16 : decode cX8_init 16 = .ok (.new 16, 3) := by decide +kernel
theorem dX8_init_19 : decode cX8_init 19 = .ok (.dup, 1) := by decide +kernel
theorem dX8_init_20 : decode cX8_init 20 = .ok (.invokespecial 18, 3) := by decide +kernel
theorem dX8_init_23 : decode cX8_init 23 = .ok (.putfield 19, 3) := by decide +kernel
theorem dX8_init_26 : decode cX8_init 26 = .ok (.aload_n 0, 1) := by decide +kernel
theorem dX8_init_27 : decode cX8_init 27 = .ok (.new 23, 3) := by decide +kernel
theorem dX8_init_30 : decode cX8_init 30 = .ok (.dup, 1) := by decide +kernel
theorem dX8_init_31 : decode cX8_init 31 = .ok (.invokespecial 25, 3) := by decide +kernel
theorem dX8_init_34 : decode cX8_init 34 = .ok (.putfield 26, 3) := by decide +kernel
theorem dX8_init_37 : decode cX8_init 37 = .ok (.aload_n 0, 1) := by decide +kernel
theorem dX8_init_38 : decode cX8_init 38 = .ok (.new 23, 3) := by decide +kernel
theorem dX8_init_41 : decode cX8_init 41 = .ok (.dup, 1) := by decide +kernel
theorem dX8_init_42 : decode cX8_init 42 = .ok (.invokespecial 25, 3) := by decide +kernel
theorem dX8_init_45 : decode cX8_init 45 = .ok (.putfield 30, 3) := by decide +kernel
theorem dX8_init_48 : decode cX8_init 48 = .ok (.aload_n 0, 1) := by decide +kernel
theorem dX8_init_49 : decode cX8_init 49 = .ok (.iconst 0, 1) := by decide +kernel
theorem dX8_init_50 : decode cX8_init 50 = .ok (.putfield 33, 3) := by decide +kernel
theorem dX8_init_53 : decode cX8_init 53 = .ok (.aload_n 0, 1) := by decide +kernel
theorem dX8_init_54 : decode cX8_init 54 = .ok (.new 37, 3) := by decide +kernel
theorem dX8_init_57 : decode cX8_init 57 = .ok (.dup, 1) := by decide +kernel
theorem dX8_init_58 : decode cX8_init 58 = .ok (.invokespecial 39, 3) := by decide +kernel
theorem dX8_init_61 : decode cX8_init 61 = .ok (.putfield 40, 3) := by decide +kernel
theorem dX8_init_64 : decode cX8_init 64 = .ok (.aload_n 0, 1) := by decide +kernel
theorem dX8_init_65 : decode cX8_init 65 = .ok (.new 44, 3) := by decide +kernel
theorem dX8_init_68 : decode cX8_init 68 = .ok (.dup, 1) := by decide +kernel
theorem dX8_init_69 : decode cX8_init 69 = .ok (.invokespecial 46, 3) := by decide +kernel
theorem dX8_init_72 : decode cX8_init 72 = .ok (.putfield 47, 3) := by decide +kernel
theorem dX8_init_75 : decode cX8_init 75 = .ok (.aload_n 0, 1) := by decide +kernel
theorem dX8_init_76 : decode cX8_init 76 = .ok (.new 51, 3) := by decide +kernel
theorem dX8_init_79 : decode cX8_init 79 = .ok (.dup, 1) := by decide +kernel
theorem dX8_init_80 : decode cX8_init 80 = .ok (.invokespecial 53, 3) := by decide +kernel
theorem dX8_init_83 : decode cX8_init 83 = .ok (.putfield 54, 3) := by decide +kernel
theorem dX8_init_86 : decode cX8_init 86 = .ok (.aload_n 0, 1) := by decide +kernel
theorem dX8_init_87 : decode cX8_init 87 = .ok (.bipush 12, 2) := by decide +kernel
theorem dX8_init_89 : decode cX8_init 89 = .ok (.newarray .int, 2) := by decide +kernel
theorem dX8_init_91 : decode cX8_init 91 = .ok (.putfield 58, 3) := by decide +kernel
theorem dX8_init_94 : decode cX8_init 94 = .ok (.return_, 1) := by decide +kernel
theorem dX8_feed_0 : decode cX8_feed 0 = .ok (.iload_n 1, 1) := by decide +kernel
theorem dX8_feed_1 : decode cX8_feed 1 = .ok (.bipush 32, 2) := by decide +kernel
theorem dX8_feed_3 : decode cX8_feed 3 = .ok (.if_icmp .lt 9, 3) := by decide +kernel
theorem dX8_feed_6 : decode cX8_feed 6 = .ok (.iload_n 1, 1) := by decide +kernel
theorem dX8_feed_7 : decode cX8_feed 7 = .ok (.bipush 126, 2) := by decide +kernel
theorem dX8_feed_9 : decode cX8_feed 9 = .ok (.if_icmp .le 5, 3) := by decide +kernel
theorem dX8_feed_12 : decode cX8_feed 12 = .ok (.iconst (-1), 1) := by decide +kernel
theorem dX8_feed_13 : decode cX8_feed 13 = .ok (.ireturn, 1) := by decide +kernel
theorem dX8_feed_14 : decode cX8_feed 14 = .ok (.aload_n 0, 1) := by decide +kernel
theorem dX8_feed_15 : decode cX8_feed 15 = .ok (.getfield 12, 3) := by decide +kernel
theorem dX8_feed_18 : decode cX8_feed 18 = .ok (.iload_n 1, 1) := by decide +kernel
theorem dX8_feed_19 : decode cX8_feed 19 = .ok (.invokevirtual 62, 3) := by decide +kernel
theorem dX8_feed_22 : decode cX8_feed 22 = .ok (.ifCond .eq 13, 3) := by decide +kernel
theorem dX8_feed_25 : decode cX8_feed 25 = .ok (.aload_n 0, 1) := by decide +kernel
theorem dX8_feed_26 : decode cX8_feed 26 = .ok (.getfield 12, 3) := by decide +kernel
theorem dX8_feed_29 : decode cX8_feed 29 = .ok (.getfield 66, 3) := by decide +kernel
theorem dX8_feed_32 : decode cX8_feed 32 = .ok (.goto 5, 3) := by decide +kernel
theorem dX8_feed_35 : decode cX8_feed 35 = .ok (.bipush (-3), 2) := by decide +kernel
theorem dX8_feed_37 : decode cX8_feed 37 = .ok (.ireturn, 1) := by decide +kernel
theorem dX8_dance_0 : decode cX8_dance 0 = .ok (.aload_n 0, 1) := by decide +kernel
theorem dX8_dance_1 : decode cX8_dance 1 = .ok (.getfield 12, 3) := by decide +kernel
theorem dX8_dance_4 : decode cX8_dance 4 = .ok (.invokevirtual 70, 3) := by decide +kernel
theorem dX8_dance_7 : decode cX8_dance 7 = .ok (.istore_n 1, 1) := by decide +kernel
theorem dX8_dance_8 : decode cX8_dance 8 = .ok (.iload_n 1, 1) := by decide +kernel
theorem dX8_dance_9 : decode cX8_dance 9 = .ok (.iconst (-1), 1) := by decide +kernel
theorem dX8_dance_10 : decode cX8_dance 10 = .ok (.if_icmp .eq 8, 3) := by decide +kernel
theorem dX8_dance_13 : decode cX8_dance 13 = .ok (.bipush (-100), 2) := by decide +kernel
theorem dX8_dance_15 : decode cX8_dance 15 = .ok (.iload_n 1, 1) := by decide +kernel
theorem dX8_dance_16 : decode cX8_dance 16 = .ok (.isub, 1) := by decide +kernel
theorem dX8_dance_17 : decode cX8_dance 17 = .ok (.ireturn, 1) := by decide +kernel
theorem dX8_dance_18 : decode cX8_dance 18 = .ok (.aload_n 0, 1) := by decide +kernel
theorem dX8_dance_19 : decode cX8_dance 19 = .ok (.getfield 26, 3) := by decide +kernel
theorem dX8_dance_22 : decode cX8_dance 22 = .ok (.getfield 74, 3) := by decide +kernel
theorem dX8_dance_25 : decode cX8_dance 25 = .ok (.aload_n 0, 1) := by decide +kernel
theorem dX8_dance_26 : decode cX8_dance 26 = .ok (.getfield 12, 3) := by decide +kernel
theorem dX8_dance_29 : decode cX8_dance 29 = .ok (.getfield 77, 3) := by decide +kernel
theorem dX8_dance_32 : decode cX8_dance 32 = .ok (.iadd, 1) := by decide +kernel
theorem dX8_dance_33 : decode cX8_dance 33 = .ok (.sipush 200, 3) := by decide +kernel
theorem dX8_dance_36 : decode cX8_dance 36 = .ok (.if_icmp .le 6, 3) := by decide +kernel
theorem dX8_dance_39 : decode cX8_dance 39 = .ok (.bipush (-3), 2) := by decide +kernel
theorem dX8_dance_41 : decode cX8_dance 41 = .ok (.ireturn, 1) := by decide +kernel
theorem dX8_dance_42 : decode cX8_dance 42 = .ok (.aload_n 0, 1) := by decide +kernel
theorem dX8_dance_43 : decode cX8_dance 43 = .ok (.getfield 40, 3) := by decide +kernel
theorem dX8_dance_46 : decode cX8_dance 46 = .ok (.invokevirtual 80, 3) := by decide +kernel
theorem dX8_dance_49 : decode cX8_dance 49 = .ok (.iconst 0, 1) := by decide +kernel
theorem dX8_dance_50 : decode cX8_dance 50 = .ok (.istore_n 2, 1) := by decide +kernel
theorem dX8_dance_51 : decode cX8_dance 51 = .ok (.iload_n 2, 1) := by decide +kernel
theorem dX8_dance_52 : decode cX8_dance 52 = .ok (.aload_n 0, 1) := by decide +kernel
theorem dX8_dance_53 : decode cX8_dance 53 = .ok (.getfield 12, 3) := by decide +kernel
theorem dX8_dance_56 : decode cX8_dance 56 = .ok (.getfield 77, 3) := by decide +kernel
theorem dX8_dance_59 : decode cX8_dance 59 = .ok (.if_icmp .ge 76, 3) := by decide +kernel
theorem dX8_dance_62 : decode cX8_dance 62 = .ok (.aload_n 0, 1) := by decide +kernel
theorem dX8_dance_63 : decode cX8_dance 63 = .ok (.getfield 12, 3) := by decide +kernel
theorem dX8_dance_66 : decode cX8_dance 66 = .ok (.iload_n 2, 1) := by decide +kernel
theorem dX8_dance_67 : decode cX8_dance 67 = .ok (.invokevirtual 83, 3) := by decide +kernel
theorem dX8_dance_70 : decode cX8_dance 70 = .ok (.istore_n 3, 1) := by decide +kernel
theorem dX8_dance_71 : decode cX8_dance 71 = .ok (.aload_n 0, 1) := by decide +kernel
theorem dX8_dance_72 : decode cX8_dance 72 = .ok (.getfield 19, 3) := by decide +kernel
theorem dX8_dance_75 : decode cX8_dance 75 = .ok (.aload_n 0, 1) := by decide +kernel
theorem dX8_dance_76 : decode cX8_dance 76 = .ok (.getfield 26, 3) := by decide +kernel
theorem dX8_dance_79 : decode cX8_dance 79 = .ok (.invokevirtual 87, 3) := by decide +kernel
theorem dX8_dance_82 : decode cX8_dance 82 = .ok (.invokevirtual 91, 3) := by decide +kernel
theorem dX8_dance_85 : decode cX8_dance 85 = .ok (.aload_n 0, 1) := by decide +kernel
theorem dX8_dance_86 : decode cX8_dance 86 = .ok (.getfield 19, 3) := by decide +kernel
theorem dX8_dance_89 : decode cX8_dance 89 = .ok (.iload_n 3, 1) := by decide +kernel
theorem dX8_dance_90 : decode cX8_dance 90 = .ok (.invokevirtual 95, 3) := by decide +kernel
theorem dX8_dance_93 : decode cX8_dance 93 = .ok (.ifCond .ne 16, 3) := by decide +kernel
theorem dX8_dance_96 : decode cX8_dance 96 = .ok (.aload_n 0, 1) := by decide +kernel
theorem dX8_dance_97 : decode cX8_dance 97 = .ok (.getfield 40, 3) := by decide +kernel
theorem dX8_dance_100 : decode cX8_dance 100 = .ok (.aload_n 0, 1) := by decide +kernel
theorem dX8_dance_101 : decode cX8_dance 101 = .ok (.getfield 19, 3) := by decide +kernel
theorem dX8_dance_104 : decode cX8_dance 104 = .ok (.invokevirtual 98, 3) := by decide +kernel
theorem dX8_dance_107 : decode cX8_dance 107 = .ok (.iload_n 2, 1) := by decide +kernel
theorem dX8_dance_108 : decode cX8_dance 108 = .ok (.ireturn, 1) := by decide +kernel
theorem dX8_dance_109 : decode cX8_dance 109 = .ok (.aload_n 0, 1) := by decide +kernel
theorem dX8_dance_110 : decode cX8_dance 110 = .ok (.getfield 26, 3) := by decide +kernel
theorem dX8_dance_113 : decode cX8_dance 113 = .ok (.iload_n 3, 1) := by decide +kernel
theorem dX8_dance_114 : decode cX8_dance 114 = .ok (.aload_n 0, 1) := by decide +kernel
theorem dX8_dance_115 : decode cX8_dance 115 = .ok (.getfield 19, 3) := by decide +kernel
theorem dX8_dance_118 : decode cX8_dance 118 = .ok (.invokevirtual 102, 3) := by decide +kernel
theorem dX8_dance_121 : decode cX8_dance 121 = .ok (.invokevirtual 105, 3) := by decide +kernel
theorem dX8_dance_124 : decode cX8_dance 124 = .ok (.aload_n 0, 1) := by decide +kernel
theorem dX8_dance_125 : decode cX8_dance 125 = .ok (.iload_n 3, 1) := by decide +kernel
theorem dX8_dance_126 : decode cX8_dance 126 = .ok (.invokevirtual 109, 3) := by decide +kernel
theorem dX8_dance_129 : decode cX8_dance 129 = .ok (.iinc 2 1, 3) := by decide +kernel
theorem dX8_dance_132 : decode cX8_dance 132 = .ok (.goto (-81), 3) := by decide +kernel
theorem dX8_dance_135 : decode cX8_dance 135 = .ok (.aload_n 0, 1) := by decide +kernel
theorem dX8_dance_136 : decode cX8_dance 136 = .ok (.getfield 12, 3) := by decide +kernel
theorem dX8_dance_139 : decode cX8_dance 139 = .ok (.getfield 77, 3) := by decide +kernel
theorem dX8_dance_142 : decode cX8_dance 142 = .ok (.ireturn, 1) := by decide +kernel
theorem dX8_fall_0 : decode cX8_fall 0 = .ok (.iload_n 1, 1) := by decide +kernel
theorem dX8_fall_1 : decode cX8_fall 1 = .ok (.iconst (-1), 1) := by decide +kernel
theorem dX8_fall_2 : decode cX8_fall 2 = .ok (.if_icmp .ge 5, 3) := by decide +kernel
theorem dX8_fall_5 : decode cX8_fall 5 = .ok (.iconst (-1), 1) := by decide +kernel
theorem dX8_fall_6 : decode cX8_fall 6 = .ok (.ireturn, 1) := by decide +kernel
theorem dX8_fall_7 : decode cX8_fall 7 = .ok (.iload_n 1, 1) := by decide +kernel
theorem dX8_fall_8 : decode cX8_fall 8 = .ok (.iconst (-1), 1) := by decide +kernel
theorem dX8_fall_9 : decode cX8_fall 9 = .ok (.if_icmp .ne 11, 3) := by decide +kernel
theorem dX8_fall_12 : decode cX8_fall 12 = .ok (.aload_n 0, 1) := by decide +kernel
theorem dX8_fall_13 : decode cX8_fall 13 = .ok (.getfield 40, 3) := by decide +kernel
theorem dX8_fall_16 : decode cX8_fall 16 = .ok (.getfield 113, 3) := by decide +kernel
theorem dX8_fall_19 : decode cX8_fall 19 = .ok (.ireturn, 1) := by decide +kernel
theorem dX8_fall_20 : decode cX8_fall 20 = .ok (.iload_n 1, 1) := by decide +kernel
theorem dX8_fall_21 : decode cX8_fall 21 = .ok (.ifCond .ne 11, 3) := by decide +kernel
theorem dX8_fall_24 : decode cX8_fall 24 = .ok (.aload_n 0, 1) := by decide +kernel
theorem dX8_fall_25 : decode cX8_fall 25 = .ok (.getfield 40, 3) := by decide +kernel
theorem dX8_fall_28 : decode cX8_fall 28 = .ok (.getfield 116, 3) := by decide +kernel
theorem dX8_fall_31 : decode cX8_fall 31 = .ok (.ireturn, 1) := by decide +kernel
theorem dX8_fall_32 : decode cX8_fall 32 = .ok (.aload_n 0, 1) := by decide +kernel
theorem dX8_fall_33 : decode cX8_fall 33 = .ok (.getfield 40, 3) := by decide +kernel
theorem dX8_fall_36 : decode cX8_fall 36 = .ok (.iload_n 1, 1) := by decide +kernel
theorem dX8_fall_37 : decode cX8_fall 37 = .ok (.iconst 1, 1) := by decide +kernel
theorem dX8_fall_38 : decode cX8_fall 38 = .ok (.isub, 1) := by decide +kernel
theorem dX8_fall_39 : decode cX8_fall 39 = .ok (.invokevirtual 117, 3) := by decide +kernel
theorem dX8_fall_42 : decode cX8_fall 42 = .ok (.ifCond .eq 17, 3) := by decide +kernel
theorem dX8_fall_45 : decode cX8_fall 45 = .ok (.aload_n 0, 1) := by decide +kernel
theorem dX8_fall_46 : decode cX8_fall 46 = .ok (.getfield 40, 3) := by decide +kernel
theorem dX8_fall_49 : decode cX8_fall 49 = .ok (.getfield 120, 3) := by decide +kernel
theorem dX8_fall_52 : decode cX8_fall 52 = .ok (.iload_n 1, 1) := by decide +kernel
theorem dX8_fall_53 : decode cX8_fall 53 = .ok (.iconst 1, 1) := by decide +kernel
theorem dX8_fall_54 : decode cX8_fall 54 = .ok (.isub, 1) := by decide +kernel
theorem dX8_fall_55 : decode cX8_fall 55 = .ok (.iaload, 1) := by decide +kernel
theorem dX8_fall_56 : decode cX8_fall 56 = .ok (.goto 5, 3) := by decide +kernel
theorem dX8_fall_59 : decode cX8_fall 59 = .ok (.bipush (-2), 2) := by decide +kernel
theorem dX8_fall_61 : decode cX8_fall 61 = .ok (.ireturn, 1) := by decide +kernel
theorem dX8_would_0 : decode cX8_would 0 = .ok (.aload_n 0, 1) := by decide +kernel
theorem dX8_would_1 : decode cX8_would 1 = .ok (.getfield 12, 3) := by decide +kernel
theorem dX8_would_4 : decode cX8_would 4 = .ok (.invokevirtual 70, 3) := by decide +kernel
theorem dX8_would_7 : decode cX8_would 7 = .ok (.istore_n 1, 1) := by decide +kernel
theorem dX8_would_8 : decode cX8_would 8 = .ok (.iload_n 1, 1) := by decide +kernel
theorem dX8_would_9 : decode cX8_would 9 = .ok (.iconst (-1), 1) := by decide +kernel
theorem dX8_would_10 : decode cX8_would 10 = .ok (.if_icmp .eq 8, 3) := by decide +kernel
theorem dX8_would_13 : decode cX8_would 13 = .ok (.bipush (-100), 2) := by decide +kernel
theorem dX8_would_15 : decode cX8_would 15 = .ok (.iload_n 1, 1) := by decide +kernel
theorem dX8_would_16 : decode cX8_would 16 = .ok (.isub, 1) := by decide +kernel
theorem dX8_would_17 : decode cX8_would 17 = .ok (.ireturn, 1) := by decide +kernel
theorem dX8_would_18 : decode cX8_would 18 = .ok (.aload_n 0, 1) := by decide +kernel
theorem dX8_would_19 : decode cX8_would 19 = .ok (.getfield 12, 3) := by decide +kernel
theorem dX8_would_22 : decode cX8_would 22 = .ok (.getfield 77, 3) := by decide +kernel
theorem dX8_would_25 : decode cX8_would 25 = .ok (.iconst 1, 1) := by decide +kernel
theorem dX8_would_26 : decode cX8_would 26 = .ok (.if_icmp .eq 5, 3) := by decide +kernel
theorem dX8_would_29 : decode cX8_would 29 = .ok (.iconst (-1), 1) := by decide +kernel
theorem dX8_would_30 : decode cX8_would 30 = .ok (.ireturn, 1) := by decide +kernel
theorem dX8_would_31 : decode cX8_would 31 = .ok (.aload_n 0, 1) := by decide +kernel
theorem dX8_would_32 : decode cX8_would 32 = .ok (.getfield 19, 3) := by decide +kernel
theorem dX8_would_35 : decode cX8_would 35 = .ok (.aload_n 0, 1) := by decide +kernel
theorem dX8_would_36 : decode cX8_would 36 = .ok (.getfield 26, 3) := by decide +kernel
theorem dX8_would_39 : decode cX8_would 39 = .ok (.invokevirtual 87, 3) := by decide +kernel
theorem dX8_would_42 : decode cX8_would 42 = .ok (.invokevirtual 91, 3) := by decide +kernel
theorem dX8_would_45 : decode cX8_would 45 = .ok (.aload_n 0, 1) := by decide +kernel
theorem dX8_would_46 : decode cX8_would 46 = .ok (.getfield 19, 3) := by decide +kernel
theorem dX8_would_49 : decode cX8_would 49 = .ok (.aload_n 0, 1) := by decide +kernel
theorem dX8_would_50 : decode cX8_would 50 = .ok (.getfield 12, 3) := by decide +kernel
theorem dX8_would_53 : decode cX8_would 53 = .ok (.iconst 0, 1) := by decide +kernel
theorem dX8_would_54 : decode cX8_would 54 = .ok (.invokevirtual 83, 3) := by decide +kernel
theorem dX8_would_57 : decode cX8_would 57 = .ok (.invokevirtual 95, 3) := by decide +kernel
theorem dX8_would_60 : decode cX8_would 60 = .ok (.ifCond .eq 13, 3) := by decide +kernel
theorem dX8_would_63 : decode cX8_would 63 = .ok (.aload_n 0, 1) := by decide +kernel
theorem dX8_would_64 : decode cX8_would 64 = .ok (.getfield 19, 3) := by decide +kernel
theorem dX8_would_67 : decode cX8_would 67 = .ok (.getfield 123, 3) := by decide +kernel
theorem dX8_would_70 : decode cX8_would 70 = .ok (.goto 5, 3) := by decide +kernel
theorem dX8_would_73 : decode cX8_would 73 = .ok (.bipush (-2), 2) := by decide +kernel
theorem dX8_would_75 : decode cX8_would 75 = .ok (.ireturn, 1) := by decide +kernel
theorem dX8_undo_0 : decode cX8_undo 0 = .ok (.aload_n 0, 1) := by decide +kernel
theorem dX8_undo_1 : decode cX8_undo 1 = .ok (.getfield 26, 3) := by decide +kernel
theorem dX8_undo_4 : decode cX8_undo 4 = .ok (.invokevirtual 126, 3) := by decide +kernel
theorem dX8_undo_7 : decode cX8_undo 7 = .ok (.ifCond .eq 13, 3) := by decide +kernel
theorem dX8_undo_10 : decode cX8_undo 10 = .ok (.aload_n 0, 1) := by decide +kernel
theorem dX8_undo_11 : decode cX8_undo 11 = .ok (.getfield 26, 3) := by decide +kernel
theorem dX8_undo_14 : decode cX8_undo 14 = .ok (.getfield 74, 3) := by decide +kernel
theorem dX8_undo_17 : decode cX8_undo 17 = .ok (.goto 5, 3) := by decide +kernel
theorem dX8_undo_20 : decode cX8_undo 20 = .ok (.bipush (-5), 2) := by decide +kernel
theorem dX8_undo_22 : decode cX8_undo 22 = .ok (.ireturn, 1) := by decide +kernel
theorem dX8_redo_0 : decode cX8_redo 0 = .ok (.aload_n 0, 1) := by decide +kernel
theorem dX8_redo_1 : decode cX8_redo 1 = .ok (.getfield 26, 3) := by decide +kernel
theorem dX8_redo_4 : decode cX8_redo 4 = .ok (.invokevirtual 130, 3) := by decide +kernel
theorem dX8_redo_7 : decode cX8_redo 7 = .ok (.ifCond .ne 6, 3) := by decide +kernel
theorem dX8_redo_10 : decode cX8_redo 10 = .ok (.bipush (-5), 2) := by decide +kernel
theorem dX8_redo_12 : decode cX8_redo 12 = .ok (.ireturn, 1) := by decide +kernel
theorem dX8_redo_13 : decode cX8_redo 13 = .ok (.aload_n 0, 1) := by decide +kernel
theorem dX8_redo_14 : decode cX8_redo 14 = .ok (.aload_n 0, 1) := by decide +kernel
theorem dX8_redo_15 : decode cX8_redo 15 = .ok (.getfield 26, 3) := by decide +kernel
theorem dX8_redo_18 : decode cX8_redo 18 = .ok (.aload_n 0, 1) := by decide +kernel
theorem dX8_redo_19 : decode cX8_redo 19 = .ok (.getfield 26, 3) := by decide +kernel
theorem dX8_redo_22 : decode cX8_redo 22 = .ok (.getfield 74, 3) := by decide +kernel
theorem dX8_redo_25 : decode cX8_redo 25 = .ok (.iconst 1, 1) := by decide +kernel
theorem dX8_redo_26 : decode cX8_redo 26 = .ok (.isub, 1) := by decide +kernel
theorem dX8_redo_27 : decode cX8_redo 27 = .ok (.invokevirtual 133, 3) := by decide +kernel
theorem dX8_redo_30 : decode cX8_redo 30 = .ok (.invokevirtual 109, 3) := by decide +kernel
theorem dX8_redo_33 : decode cX8_redo 33 = .ok (.aload_n 0, 1) := by decide +kernel
theorem dX8_redo_34 : decode cX8_redo 34 = .ok (.getfield 26, 3) := by decide +kernel
theorem dX8_redo_37 : decode cX8_redo 37 = .ok (.getfield 74, 3) := by decide +kernel
theorem dX8_redo_40 : decode cX8_redo 40 = .ok (.ireturn, 1) := by decide +kernel
theorem dX8_home_0 : decode cX8_home 0 = .ok (.aload_n 0, 1) := by decide +kernel
theorem dX8_home_1 : decode cX8_home 1 = .ok (.getfield 26, 3) := by decide +kernel
theorem dX8_home_4 : decode cX8_home 4 = .ok (.getfield 74, 3) := by decide +kernel
theorem dX8_home_7 : decode cX8_home 7 = .ok (.istore_n 1, 1) := by decide +kernel
theorem dX8_home_8 : decode cX8_home 8 = .ok (.aload_n 0, 1) := by decide +kernel
theorem dX8_home_9 : decode cX8_home 9 = .ok (.getfield 26, 3) := by decide +kernel
theorem dX8_home_12 : decode cX8_home 12 = .ok (.invokevirtual 134, 3) := by decide +kernel
theorem dX8_home_15 : decode cX8_home 15 = .ok (.iload_n 1, 1) := by decide +kernel
theorem dX8_home_16 : decode cX8_home 16 = .ok (.ireturn, 1) := by decide +kernel
theorem dX8_at_0 : decode cX8_at 0 = .ok (.iload_n 1, 1) := by decide +kernel
theorem dX8_at_1 : decode cX8_at 1 = .ok (.ifCond .lt 18, 3) := by decide +kernel
theorem dX8_at_4 : decode cX8_at 4 = .ok (.iload_n 1, 1) := by decide +kernel
theorem dX8_at_5 : decode cX8_at 5 = .ok (.bipush 8, 2) := by decide +kernel
theorem dX8_at_7 : decode cX8_at 7 = .ok (.if_icmp .ge 12, 3) := by decide +kernel
theorem dX8_at_10 : decode cX8_at 10 = .ok (.iload_n 2, 1) := by decide +kernel
theorem dX8_at_11 : decode cX8_at 11 = .ok (.ifCond .lt 8, 3) := by decide +kernel
theorem dX8_at_14 : decode cX8_at 14 = .ok (.iload_n 2, 1) := by decide +kernel
theorem dX8_at_15 : decode cX8_at 15 = .ok (.iconst 5, 1) := by decide +kernel
theorem dX8_at_16 : decode cX8_at 16 = .ok (.if_icmp .le 5, 3) := by decide +kernel
theorem dX8_at_19 : decode cX8_at 19 = .ok (.iconst (-1), 1) := by decide +kernel
theorem dX8_at_20 : decode cX8_at 20 = .ok (.ireturn, 1) := by decide +kernel
theorem dX8_at_21 : decode cX8_at 21 = .ok (.aload_n 0, 1) := by decide +kernel
theorem dX8_at_22 : decode cX8_at 22 = .ok (.getfield 19, 3) := by decide +kernel
theorem dX8_at_25 : decode cX8_at 25 = .ok (.aload_n 0, 1) := by decide +kernel
theorem dX8_at_26 : decode cX8_at 26 = .ok (.getfield 26, 3) := by decide +kernel
theorem dX8_at_29 : decode cX8_at 29 = .ok (.invokevirtual 87, 3) := by decide +kernel
theorem dX8_at_32 : decode cX8_at 32 = .ok (.invokevirtual 91, 3) := by decide +kernel
theorem dX8_at_35 : decode cX8_at 35 = .ok (.iload_n 2, 1) := by decide +kernel
theorem dX8_at_36 : decode cX8_at 36 = .ok (.tableswitch 95 0 4 #[36, 46, 56, 69, 82], 36) := by decide +kernel
theorem dX8_at_72 : decode cX8_at 72 = .ok (.aload_n 0, 1) := by decide +kernel
theorem dX8_at_73 : decode cX8_at 73 = .ok (.getfield 19, 3) := by decide +kernel
theorem dX8_at_76 : decode cX8_at 76 = .ok (.getfield 135, 3) := by decide +kernel
theorem dX8_at_79 : decode cX8_at 79 = .ok (.iload_n 1, 1) := by decide +kernel
theorem dX8_at_80 : decode cX8_at 80 = .ok (.iaload, 1) := by decide +kernel
theorem dX8_at_81 : decode cX8_at 81 = .ok (.ireturn, 1) := by decide +kernel
theorem dX8_at_82 : decode cX8_at 82 = .ok (.aload_n 0, 1) := by decide +kernel
theorem dX8_at_83 : decode cX8_at 83 = .ok (.getfield 19, 3) := by decide +kernel
theorem dX8_at_86 : decode cX8_at 86 = .ok (.getfield 138, 3) := by decide +kernel
theorem dX8_at_89 : decode cX8_at 89 = .ok (.iload_n 1, 1) := by decide +kernel
theorem dX8_at_90 : decode cX8_at 90 = .ok (.iaload, 1) := by decide +kernel
theorem dX8_at_91 : decode cX8_at 91 = .ok (.ireturn, 1) := by decide +kernel
theorem dX8_at_92 : decode cX8_at 92 = .ok (.aload_n 0, 1) := by decide +kernel
theorem dX8_at_93 : decode cX8_at 93 = .ok (.getfield 19, 3) := by decide +kernel
theorem dX8_at_96 : decode cX8_at 96 = .ok (.iload_n 1, 1) := by decide +kernel
theorem dX8_at_97 : decode cX8_at 97 = .ok (.iconst 0, 1) := by decide +kernel
theorem dX8_at_98 : decode cX8_at 98 = .ok (.invokevirtual 141, 3) := by decide +kernel
theorem dX8_at_101 : decode cX8_at 101 = .ok (.invokestatic 145, 3) := by decide +kernel
theorem dX8_at_104 : decode cX8_at 104 = .ok (.ireturn, 1) := by decide +kernel
theorem dX8_at_105 : decode cX8_at 105 = .ok (.aload_n 0, 1) := by decide +kernel
theorem dX8_at_106 : decode cX8_at 106 = .ok (.getfield 19, 3) := by decide +kernel
theorem dX8_at_109 : decode cX8_at 109 = .ok (.iload_n 1, 1) := by decide +kernel
theorem dX8_at_110 : decode cX8_at 110 = .ok (.iconst 1, 1) := by decide +kernel
theorem dX8_at_111 : decode cX8_at 111 = .ok (.invokevirtual 141, 3) := by decide +kernel
theorem dX8_at_114 : decode cX8_at 114 = .ok (.invokestatic 145, 3) := by decide +kernel
theorem dX8_at_117 : decode cX8_at 117 = .ok (.ireturn, 1) := by decide +kernel
theorem dX8_at_118 : decode cX8_at 118 = .ok (.aload_n 0, 1) := by decide +kernel
theorem dX8_at_119 : decode cX8_at 119 = .ok (.getfield 19, 3) := by decide +kernel
theorem dX8_at_122 : decode cX8_at 122 = .ok (.iload_n 1, 1) := by decide +kernel
theorem dX8_at_123 : decode cX8_at 123 = .ok (.iconst 3, 1) := by decide +kernel
theorem dX8_at_124 : decode cX8_at 124 = .ok (.invokevirtual 141, 3) := by decide +kernel
theorem dX8_at_127 : decode cX8_at 127 = .ok (.invokestatic 145, 3) := by decide +kernel
theorem dX8_at_130 : decode cX8_at 130 = .ok (.ireturn, 1) := by decide +kernel
theorem dX8_at_131 : decode cX8_at 131 = .ok (.aload_n 0, 1) := by decide +kernel
theorem dX8_at_132 : decode cX8_at 132 = .ok (.getfield 19, 3) := by decide +kernel
theorem dX8_at_135 : decode cX8_at 135 = .ok (.iload_n 1, 1) := by decide +kernel
theorem dX8_at_136 : decode cX8_at 136 = .ok (.iconst 2, 1) := by decide +kernel
theorem dX8_at_137 : decode cX8_at 137 = .ok (.invokevirtual 141, 3) := by decide +kernel
theorem dX8_at_140 : decode cX8_at 140 = .ok (.invokestatic 145, 3) := by decide +kernel
theorem dX8_at_143 : decode cX8_at 143 = .ok (.ireturn, 1) := by decide +kernel
theorem dX8_on_0 : decode cX8_on 0 = .ok (.iload_n 1, 1) := by decide +kernel
theorem dX8_on_1 : decode cX8_on 1 = .ok (.ifCond .lt 9, 3) := by decide +kernel
theorem dX8_on_4 : decode cX8_on 4 = .ok (.iload_n 1, 1) := by decide +kernel
theorem dX8_on_5 : decode cX8_on 5 = .ok (.bipush 16, 2) := by decide +kernel
theorem dX8_on_7 : decode cX8_on 7 = .ok (.if_icmp .lt 5, 3) := by decide +kernel
theorem dX8_on_10 : decode cX8_on 10 = .ok (.iconst (-1), 1) := by decide +kernel
theorem dX8_on_11 : decode cX8_on 11 = .ok (.ireturn, 1) := by decide +kernel
theorem dX8_on_12 : decode cX8_on 12 = .ok (.aload_n 0, 1) := by decide +kernel
theorem dX8_on_13 : decode cX8_on 13 = .ok (.getfield 19, 3) := by decide +kernel
theorem dX8_on_16 : decode cX8_on 16 = .ok (.aload_n 0, 1) := by decide +kernel
theorem dX8_on_17 : decode cX8_on 17 = .ok (.getfield 26, 3) := by decide +kernel
theorem dX8_on_20 : decode cX8_on 20 = .ok (.invokevirtual 87, 3) := by decide +kernel
theorem dX8_on_23 : decode cX8_on 23 = .ok (.invokevirtual 91, 3) := by decide +kernel
theorem dX8_on_26 : decode cX8_on 26 = .ok (.aload_n 0, 1) := by decide +kernel
theorem dX8_on_27 : decode cX8_on 27 = .ok (.getfield 19, 3) := by decide +kernel
theorem dX8_on_30 : decode cX8_on 30 = .ok (.getfield 148, 3) := by decide +kernel
theorem dX8_on_33 : decode cX8_on 33 = .ok (.iload_n 1, 1) := by decide +kernel
theorem dX8_on_34 : decode cX8_on 34 = .ok (.iaload, 1) := by decide +kernel
theorem dX8_on_35 : decode cX8_on 35 = .ok (.invokestatic 145, 3) := by decide +kernel
theorem dX8_on_38 : decode cX8_on 38 = .ok (.ireturn, 1) := by decide +kernel
theorem dX8_meant_0 : decode cX8_meant 0 = .ok (.iload_n 1, 1) := by decide +kernel
theorem dX8_meant_1 : decode cX8_meant 1 = .ok (.ifCond .lt 9, 3) := by decide +kernel
theorem dX8_meant_4 : decode cX8_meant 4 = .ok (.iload_n 1, 1) := by decide +kernel
theorem dX8_meant_5 : decode cX8_meant 5 = .ok (.bipush 9, 2) := by decide +kernel
theorem dX8_meant_7 : decode cX8_meant 7 = .ok (.if_icmp .lt 5, 3) := by decide +kernel
theorem dX8_meant_10 : decode cX8_meant 10 = .ok (.iconst (-1), 1) := by decide +kernel
theorem dX8_meant_11 : decode cX8_meant 11 = .ok (.ireturn, 1) := by decide +kernel
theorem dX8_meant_12 : decode cX8_meant 12 = .ok (.aload_n 0, 1) := by decide +kernel
theorem dX8_meant_13 : decode cX8_meant 13 = .ok (.getfield 19, 3) := by decide +kernel
theorem dX8_meant_16 : decode cX8_meant 16 = .ok (.aload_n 0, 1) := by decide +kernel
theorem dX8_meant_17 : decode cX8_meant 17 = .ok (.getfield 26, 3) := by decide +kernel
theorem dX8_meant_20 : decode cX8_meant 20 = .ok (.invokevirtual 87, 3) := by decide +kernel
theorem dX8_meant_23 : decode cX8_meant 23 = .ok (.invokevirtual 91, 3) := by decide +kernel
theorem dX8_meant_26 : decode cX8_meant 26 = .ok (.aload_n 0, 1) := by decide +kernel
theorem dX8_meant_27 : decode cX8_meant 27 = .ok (.getfield 19, 3) := by decide +kernel
theorem dX8_meant_30 : decode cX8_meant 30 = .ok (.iload_n 1, 1) := by decide +kernel
theorem dX8_meant_31 : decode cX8_meant 31 = .ok (.invokevirtual 151, 3) := by decide +kernel
theorem dX8_meant_34 : decode cX8_meant 34 = .ok (.ireturn, 1) := by decide +kernel
theorem dX8_count_0 : decode cX8_count 0 = .ok (.aload_n 0, 1) := by decide +kernel
theorem dX8_count_1 : decode cX8_count 1 = .ok (.getfield 19, 3) := by decide +kernel
theorem dX8_count_4 : decode cX8_count 4 = .ok (.aload_n 0, 1) := by decide +kernel
theorem dX8_count_5 : decode cX8_count 5 = .ok (.getfield 26, 3) := by decide +kernel
theorem dX8_count_8 : decode cX8_count 8 = .ok (.invokevirtual 87, 3) := by decide +kernel
theorem dX8_count_11 : decode cX8_count 11 = .ok (.invokevirtual 91, 3) := by decide +kernel
theorem dX8_count_14 : decode cX8_count 14 = .ok (.iload_n 1, 1) := by decide +kernel
theorem dX8_count_15 : decode cX8_count 15 = .ok (.tableswitch 51 0 2 #[25, 34, 43], 25) := by decide +kernel
theorem dX8_count_40 : decode cX8_count 40 = .ok (.aload_n 0, 1) := by decide +kernel
theorem dX8_count_41 : decode cX8_count 41 = .ok (.getfield 19, 3) := by decide +kernel
theorem dX8_count_44 : decode cX8_count 44 = .ok (.iconst 0, 1) := by decide +kernel
theorem dX8_count_45 : decode cX8_count 45 = .ok (.invokevirtual 154, 3) := by decide +kernel
theorem dX8_count_48 : decode cX8_count 48 = .ok (.ireturn, 1) := by decide +kernel
theorem dX8_count_49 : decode cX8_count 49 = .ok (.aload_n 0, 1) := by decide +kernel
theorem dX8_count_50 : decode cX8_count 50 = .ok (.getfield 19, 3) := by decide +kernel
theorem dX8_count_53 : decode cX8_count 53 = .ok (.iconst 1, 1) := by decide +kernel
theorem dX8_count_54 : decode cX8_count 54 = .ok (.invokevirtual 154, 3) := by decide +kernel
theorem dX8_count_57 : decode cX8_count 57 = .ok (.ireturn, 1) := by decide +kernel
theorem dX8_count_58 : decode cX8_count 58 = .ok (.aload_n 0, 1) := by decide +kernel
theorem dX8_count_59 : decode cX8_count 59 = .ok (.getfield 19, 3) := by decide +kernel
theorem dX8_count_62 : decode cX8_count 62 = .ok (.invokevirtual 158, 3) := by decide +kernel
theorem dX8_count_65 : decode cX8_count 65 = .ok (.ireturn, 1) := by decide +kernel
theorem dX8_count_66 : decode cX8_count 66 = .ok (.iconst (-1), 1) := by decide +kernel
theorem dX8_count_67 : decode cX8_count 67 = .ok (.ireturn, 1) := by decide +kernel
theorem dX8_way_0 : decode cX8_way 0 = .ok (.iload_n 1, 1) := by decide +kernel
theorem dX8_way_1 : decode cX8_way 1 = .ok (.iconst (-1), 1) := by decide +kernel
theorem dX8_way_2 : decode cX8_way 2 = .ok (.if_icmp .ge 5, 3) := by decide +kernel
theorem dX8_way_5 : decode cX8_way 5 = .ok (.iconst (-1), 1) := by decide +kernel
theorem dX8_way_6 : decode cX8_way 6 = .ok (.ireturn, 1) := by decide +kernel
theorem dX8_way_7 : decode cX8_way 7 = .ok (.aload_n 0, 1) := by decide +kernel
theorem dX8_way_8 : decode cX8_way 8 = .ok (.getfield 47, 3) := by decide +kernel
theorem dX8_way_11 : decode cX8_way 11 = .ok (.getfield 161, 3) := by decide +kernel
theorem dX8_way_14 : decode cX8_way 14 = .ok (.aload_n 0, 1) := by decide +kernel
theorem dX8_way_15 : decode cX8_way 15 = .ok (.getfield 26, 3) := by decide +kernel
theorem dX8_way_18 : decode cX8_way 18 = .ok (.invokevirtual 87, 3) := by decide +kernel
theorem dX8_way_21 : decode cX8_way 21 = .ok (.lcmp, 1) := by decide +kernel
theorem dX8_way_22 : decode cX8_way 22 = .ok (.ifCond .eq 17, 3) := by decide +kernel
theorem dX8_way_25 : decode cX8_way 25 = .ok (.aload_n 0, 1) := by decide +kernel
theorem dX8_way_26 : decode cX8_way 26 = .ok (.getfield 47, 3) := by decide +kernel
theorem dX8_way_29 : decode cX8_way 29 = .ok (.aload_n 0, 1) := by decide +kernel
theorem dX8_way_30 : decode cX8_way 30 = .ok (.getfield 26, 3) := by decide +kernel
theorem dX8_way_33 : decode cX8_way 33 = .ok (.invokevirtual 87, 3) := by decide +kernel
theorem dX8_way_36 : decode cX8_way 36 = .ok (.invokevirtual 165, 3) := by decide +kernel
theorem dX8_way_39 : decode cX8_way 39 = .ok (.aload_n 0, 1) := by decide +kernel
theorem dX8_way_40 : decode cX8_way 40 = .ok (.getfield 47, 3) := by decide +kernel
theorem dX8_way_43 : decode cX8_way 43 = .ok (.getfield 168, 3) := by decide +kernel
theorem dX8_way_46 : decode cX8_way 46 = .ok (.ifCond .lt 8, 3) := by decide +kernel
theorem dX8_way_49 : decode cX8_way 49 = .ok (.iload_n 1, 1) := by decide +kernel
theorem dX8_way_50 : decode cX8_way 50 = .ok (.iconst (-1), 1) := by decide +kernel
theorem dX8_way_51 : decode cX8_way 51 = .ok (.if_icmp .ne 11, 3) := by decide +kernel
theorem dX8_way_54 : decode cX8_way 54 = .ok (.aload_n 0, 1) := by decide +kernel
theorem dX8_way_55 : decode cX8_way 55 = .ok (.getfield 47, 3) := by decide +kernel
theorem dX8_way_58 : decode cX8_way 58 = .ok (.getfield 168, 3) := by decide +kernel
theorem dX8_way_61 : decode cX8_way 61 = .ok (.ireturn, 1) := by decide +kernel
theorem dX8_way_62 : decode cX8_way 62 = .ok (.iload_n 1, 1) := by decide +kernel
theorem dX8_way_63 : decode cX8_way 63 = .ok (.aload_n 0, 1) := by decide +kernel
theorem dX8_way_64 : decode cX8_way 64 = .ok (.getfield 47, 3) := by decide +kernel
theorem dX8_way_67 : decode cX8_way 67 = .ok (.getfield 168, 3) := by decide +kernel
theorem dX8_way_70 : decode cX8_way 70 = .ok (.if_icmp .ge 14, 3) := by decide +kernel
theorem dX8_way_73 : decode cX8_way 73 = .ok (.aload_n 0, 1) := by decide +kernel
theorem dX8_way_74 : decode cX8_way 74 = .ok (.getfield 47, 3) := by decide +kernel
theorem dX8_way_77 : decode cX8_way 77 = .ok (.iload_n 1, 1) := by decide +kernel
theorem dX8_way_78 : decode cX8_way 78 = .ok (.invokevirtual 171, 3) := by decide +kernel
theorem dX8_way_81 : decode cX8_way 81 = .ok (.goto 5, 3) := by decide +kernel
theorem dX8_way_84 : decode cX8_way 84 = .ok (.bipush (-2), 2) := by decide +kernel
theorem dX8_way_86 : decode cX8_way 86 = .ok (.ireturn, 1) := by decide +kernel
theorem dX8_round_0 : decode cX8_round 0 = .ok (.aload_n 0, 1) := by decide +kernel
theorem dX8_round_1 : decode cX8_round 1 = .ok (.getfield 12, 3) := by decide +kernel
theorem dX8_round_4 : decode cX8_round 4 = .ok (.invokevirtual 70, 3) := by decide +kernel
theorem dX8_round_7 : decode cX8_round 7 = .ok (.istore_n 1, 1) := by decide +kernel
theorem dX8_round_8 : decode cX8_round 8 = .ok (.iload_n 1, 1) := by decide +kernel
theorem dX8_round_9 : decode cX8_round 9 = .ok (.iconst (-1), 1) := by decide +kernel
theorem dX8_round_10 : decode cX8_round 10 = .ok (.if_icmp .eq 8, 3) := by decide +kernel
theorem dX8_round_13 : decode cX8_round 13 = .ok (.bipush (-100), 2) := by decide +kernel
theorem dX8_round_15 : decode cX8_round 15 = .ok (.iload_n 1, 1) := by decide +kernel
theorem dX8_round_16 : decode cX8_round 16 = .ok (.isub, 1) := by decide +kernel
theorem dX8_round_17 : decode cX8_round 17 = .ok (.ireturn, 1) := by decide +kernel
theorem dX8_round_18 : decode cX8_round 18 = .ok (.aload_n 0, 1) := by decide +kernel
theorem dX8_round_19 : decode cX8_round 19 = .ok (.getfield 26, 3) := by decide +kernel
theorem dX8_round_22 : decode cX8_round 22 = .ok (.invokevirtual 87, 3) := by decide +kernel
theorem dX8_round_25 : decode cX8_round 25 = .ok (.lstore_n 2, 1) := by decide +kernel
theorem dX8_round_26 : decode cX8_round 26 = .ok (.aload_n 0, 1) := by decide +kernel
theorem dX8_round_27 : decode cX8_round 27 = .ok (.getfield 19, 3) := by decide +kernel
theorem dX8_round_30 : decode cX8_round 30 = .ok (.lload_n 2, 1) := by decide +kernel
theorem dX8_round_31 : decode cX8_round 31 = .ok (.invokevirtual 91, 3) := by decide +kernel
theorem dX8_round_34 : decode cX8_round 34 = .ok (.iconst 1, 1) := by decide +kernel
theorem dX8_round_35 : decode cX8_round 35 = .ok (.istore 4, 2) := by decide +kernel
theorem dX8_round_37 : decode cX8_round 37 = .ok (.iload 4, 2) := by decide +kernel
theorem dX8_round_39 : decode cX8_round 39 = .ok (.bipush 100, 2) := by decide +kernel
theorem dX8_round_41 : decode cX8_round 41 = .ok (.if_icmp .gt 34, 3) := by decide +kernel
theorem dX8_round_44 : decode cX8_round 44 = .ok (.aload_n 0, 1) := by decide +kernel
theorem dX8_round_45 : decode cX8_round 45 = .ok (.invokevirtual 172, 3) := by decide +kernel
theorem dX8_round_48 : decode cX8_round 48 = .ok (.ifCond .ne 6, 3) := by decide +kernel
theorem dX8_round_51 : decode cX8_round 51 = .ok (.bipush (-2), 2) := by decide +kernel
theorem dX8_round_53 : decode cX8_round 53 = .ok (.ireturn, 1) := by decide +kernel
theorem dX8_round_54 : decode cX8_round 54 = .ok (.aload_n 0, 1) := by decide +kernel
theorem dX8_round_55 : decode cX8_round 55 = .ok (.getfield 19, 3) := by decide +kernel
theorem dX8_round_58 : decode cX8_round 58 = .ok (.invokevirtual 175, 3) := by decide +kernel
theorem dX8_round_61 : decode cX8_round 61 = .ok (.lload_n 2, 1) := by decide +kernel
theorem dX8_round_62 : decode cX8_round 62 = .ok (.lcmp, 1) := by decide +kernel
theorem dX8_round_63 : decode cX8_round 63 = .ok (.ifCond .ne 6, 3) := by decide +kernel
theorem dX8_round_66 : decode cX8_round 66 = .ok (.iload 4, 2) := by decide +kernel
theorem dX8_round_68 : decode cX8_round 68 = .ok (.ireturn, 1) := by decide +kernel
theorem dX8_round_69 : decode cX8_round 69 = .ok (.iinc 4 1, 3) := by decide +kernel
theorem dX8_round_72 : decode cX8_round 72 = .ok (.goto (-35), 3) := by decide +kernel
theorem dX8_round_75 : decode cX8_round 75 = .ok (.bipush (-2), 2) := by decide +kernel
theorem dX8_round_77 : decode cX8_round 77 = .ok (.ireturn, 1) := by decide +kernel
theorem dX8_alike_0 : decode cX8_alike 0 = .ok (.iload_n 1, 1) := by decide +kernel
theorem dX8_alike_1 : decode cX8_alike 1 = .ok (.ifCond .lt 8, 3) := by decide +kernel
theorem dX8_alike_4 : decode cX8_alike 4 = .ok (.iload_n 1, 1) := by decide +kernel
theorem dX8_alike_5 : decode cX8_alike 5 = .ok (.iconst 1, 1) := by decide +kernel
theorem dX8_alike_6 : decode cX8_alike 6 = .ok (.if_icmp .le 5, 3) := by decide +kernel
theorem dX8_alike_9 : decode cX8_alike 9 = .ok (.iconst (-1), 1) := by decide +kernel
theorem dX8_alike_10 : decode cX8_alike 10 = .ok (.ireturn, 1) := by decide +kernel
theorem dX8_alike_11 : decode cX8_alike 11 = .ok (.aload_n 0, 1) := by decide +kernel
theorem dX8_alike_12 : decode cX8_alike 12 = .ok (.getfield 33, 3) := by decide +kernel
theorem dX8_alike_15 : decode cX8_alike 15 = .ok (.ifCond .ne 6, 3) := by decide +kernel
theorem dX8_alike_18 : decode cX8_alike 18 = .ok (.bipush (-5), 2) := by decide +kernel
theorem dX8_alike_20 : decode cX8_alike 20 = .ok (.ireturn, 1) := by decide +kernel
theorem dX8_alike_21 : decode cX8_alike 21 = .ok (.aload_n 0, 1) := by decide +kernel
theorem dX8_alike_22 : decode cX8_alike 22 = .ok (.getfield 26, 3) := by decide +kernel
theorem dX8_alike_25 : decode cX8_alike 25 = .ok (.invokevirtual 87, 3) := by decide +kernel
theorem dX8_alike_28 : decode cX8_alike 28 = .ok (.lstore_n 2, 1) := by decide +kernel
theorem dX8_alike_29 : decode cX8_alike 29 = .ok (.aload_n 0, 1) := by decide +kernel
theorem dX8_alike_30 : decode cX8_alike 30 = .ok (.getfield 30, 3) := by decide +kernel
theorem dX8_alike_33 : decode cX8_alike 33 = .ok (.invokevirtual 87, 3) := by decide +kernel
theorem dX8_alike_36 : decode cX8_alike 36 = .ok (.lstore 4, 2) := by decide +kernel
theorem dX8_alike_38 : decode cX8_alike 38 = .ok (.iconst 0, 1) := by decide +kernel
theorem dX8_alike_39 : decode cX8_alike 39 = .ok (.istore 6, 2) := by decide +kernel
theorem dX8_alike_41 : decode cX8_alike 41 = .ok (.iload 6, 2) := by decide +kernel
theorem dX8_alike_43 : decode cX8_alike 43 = .ok (.iconst 4, 1) := by decide +kernel
theorem dX8_alike_44 : decode cX8_alike 44 = .ok (.if_icmp .ge 35, 3) := by decide +kernel
theorem dX8_alike_47 : decode cX8_alike 47 = .ok (.lload 4, 2) := by decide +kernel
theorem dX8_alike_49 : decode cX8_alike 49 = .ok (.lload_n 2, 1) := by decide +kernel
theorem dX8_alike_50 : decode cX8_alike 50 = .ok (.lcmp, 1) := by decide +kernel
theorem dX8_alike_51 : decode cX8_alike 51 = .ok (.ifCond .ne 6, 3) := by decide +kernel
theorem dX8_alike_54 : decode cX8_alike 54 = .ok (.iload 6, 2) := by decide +kernel
theorem dX8_alike_56 : decode cX8_alike 56 = .ok (.ireturn, 1) := by decide +kernel
theorem dX8_alike_57 : decode cX8_alike 57 = .ok (.lload 4, 2) := by decide +kernel
theorem dX8_alike_59 : decode cX8_alike 59 = .ok (.iload_n 1, 1) := by decide +kernel
theorem dX8_alike_60 : decode cX8_alike 60 = .ok (.ifCond .ne 7, 3) := by decide +kernel
theorem dX8_alike_63 : decode cX8_alike 63 = .ok (.iconst 1, 1) := by decide +kernel
theorem dX8_alike_64 : decode cX8_alike 64 = .ok (.goto 4, 3) := by decide +kernel
theorem dX8_alike_67 : decode cX8_alike 67 = .ok (.iconst 0, 1) := by decide +kernel
theorem dX8_alike_68 : decode cX8_alike 68 = .ok (.invokestatic 178, 3) := by decide +kernel
theorem dX8_alike_71 : decode cX8_alike 71 = .ok (.lstore 4, 2) := by decide +kernel
theorem dX8_alike_73 : decode cX8_alike 73 = .ok (.iinc 6 1, 3) := by decide +kernel
theorem dX8_alike_76 : decode cX8_alike 76 = .ok (.goto (-35), 3) := by decide +kernel
theorem dX8_alike_79 : decode cX8_alike 79 = .ok (.bipush (-2), 2) := by decide +kernel
theorem dX8_alike_81 : decode cX8_alike 81 = .ok (.ireturn, 1) := by decide +kernel
theorem dX8_squares_0 : decode cX8_squares 0 = .ok (.iload_n 1, 1) := by decide +kernel
theorem dX8_squares_1 : decode cX8_squares 1 = .ok (.ifCond .lt 8, 3) := by decide +kernel
theorem dX8_squares_4 : decode cX8_squares 4 = .ok (.iload_n 1, 1) := by decide +kernel
theorem dX8_squares_5 : decode cX8_squares 5 = .ok (.iconst 2, 1) := by decide +kernel
theorem dX8_squares_6 : decode cX8_squares 6 = .ok (.if_icmp .le 5, 3) := by decide +kernel
theorem dX8_squares_9 : decode cX8_squares 9 = .ok (.iconst (-1), 1) := by decide +kernel
theorem dX8_squares_10 : decode cX8_squares 10 = .ok (.ireturn, 1) := by decide +kernel
theorem dX8_squares_11 : decode cX8_squares 11 = .ok (.aload_n 0, 1) := by decide +kernel
theorem dX8_squares_12 : decode cX8_squares 12 = .ok (.getfield 26, 3) := by decide +kernel
theorem dX8_squares_15 : decode cX8_squares 15 = .ok (.iload_n 1, 1) := by decide +kernel
theorem dX8_squares_16 : decode cX8_squares 16 = .ok (.invokevirtual 184, 3) := by decide +kernel
theorem dX8_squares_19 : decode cX8_squares 19 = .ok (.ireturn, 1) := by decide +kernel
theorem dX8_text_0 : decode cX8_text 0 = .ok (.iload_n 1, 1) := by decide +kernel
theorem dX8_text_1 : decode cX8_text 1 = .ok (.iconst (-1), 1) := by decide +kernel
theorem dX8_text_2 : decode cX8_text 2 = .ok (.if_icmp .ge 5, 3) := by decide +kernel
theorem dX8_text_5 : decode cX8_text 5 = .ok (.iconst (-1), 1) := by decide +kernel
theorem dX8_text_6 : decode cX8_text 6 = .ok (.ireturn, 1) := by decide +kernel
theorem dX8_text_7 : decode cX8_text 7 = .ok (.aload_n 0, 1) := by decide +kernel
theorem dX8_text_8 : decode cX8_text 8 = .ok (.getfield 54, 3) := by decide +kernel
theorem dX8_text_11 : decode cX8_text 11 = .ok (.aload_n 0, 1) := by decide +kernel
theorem dX8_text_12 : decode cX8_text 12 = .ok (.getfield 26, 3) := by decide +kernel
theorem dX8_text_15 : decode cX8_text 15 = .ok (.iload_n 1, 1) := by decide +kernel
theorem dX8_text_16 : decode cX8_text 16 = .ok (.invokevirtual 187, 3) := by decide +kernel
theorem dX8_text_19 : decode cX8_text 19 = .ok (.iload_n 1, 1) := by decide +kernel
theorem dX8_text_20 : decode cX8_text 20 = .ok (.iconst (-1), 1) := by decide +kernel
theorem dX8_text_21 : decode cX8_text 21 = .ok (.if_icmp .ne 11, 3) := by decide +kernel
theorem dX8_text_24 : decode cX8_text 24 = .ok (.aload_n 0, 1) := by decide +kernel
theorem dX8_text_25 : decode cX8_text 25 = .ok (.getfield 54, 3) := by decide +kernel
theorem dX8_text_28 : decode cX8_text 28 = .ok (.getfield 191, 3) := by decide +kernel
theorem dX8_text_31 : decode cX8_text 31 = .ok (.ireturn, 1) := by decide +kernel
theorem dX8_text_32 : decode cX8_text 32 = .ok (.iload_n 1, 1) := by decide +kernel
theorem dX8_text_33 : decode cX8_text 33 = .ok (.aload_n 0, 1) := by decide +kernel
theorem dX8_text_34 : decode cX8_text 34 = .ok (.getfield 54, 3) := by decide +kernel
theorem dX8_text_37 : decode cX8_text 37 = .ok (.getfield 191, 3) := by decide +kernel
theorem dX8_text_40 : decode cX8_text 40 = .ok (.if_icmp .ge 13, 3) := by decide +kernel
theorem dX8_text_43 : decode cX8_text 43 = .ok (.aload_n 0, 1) := by decide +kernel
theorem dX8_text_44 : decode cX8_text 44 = .ok (.getfield 54, 3) := by decide +kernel
theorem dX8_text_47 : decode cX8_text 47 = .ok (.getfield 192, 3) := by decide +kernel
theorem dX8_text_50 : decode cX8_text 50 = .ok (.goto 5, 3) := by decide +kernel
theorem dX8_text_53 : decode cX8_text 53 = .ok (.bipush (-2), 2) := by decide +kernel
theorem dX8_text_55 : decode cX8_text 55 = .ok (.ireturn, 1) := by decide +kernel
theorem dX8_picture_0 : decode cX8_picture 0 = .ok (.bipush 9, 2) := by decide +kernel
theorem dX8_picture_2 : decode cX8_picture 2 = .ok (.istore_n 2, 1) := by decide +kernel
theorem dX8_picture_3 : decode cX8_picture 3 = .ok (.iload_n 1, 1) := by decide +kernel
theorem dX8_picture_4 : decode cX8_picture 4 = .ok (.iconst (-1), 1) := by decide +kernel
theorem dX8_picture_5 : decode cX8_picture 5 = .ok (.if_icmp .ge 5, 3) := by decide +kernel
theorem dX8_picture_8 : decode cX8_picture 8 = .ok (.iconst (-1), 1) := by decide +kernel
theorem dX8_picture_9 : decode cX8_picture 9 = .ok (.ireturn, 1) := by decide +kernel
theorem dX8_picture_10 : decode cX8_picture 10 = .ok (.iload_n 1, 1) := by decide +kernel
theorem dX8_picture_11 : decode cX8_picture 11 = .ok (.iconst (-1), 1) := by decide +kernel
theorem dX8_picture_12 : decode cX8_picture 12 = .ok (.if_icmp .ne 7, 3) := by decide +kernel
theorem dX8_picture_15 : decode cX8_picture 15 = .ok (.iload_n 2, 1) := by decide +kernel
theorem dX8_picture_16 : decode cX8_picture 16 = .ok (.iconst 4, 1) := by decide +kernel
theorem dX8_picture_17 : decode cX8_picture 17 = .ok (.imul, 1) := by decide +kernel
theorem dX8_picture_18 : decode cX8_picture 18 = .ok (.ireturn, 1) := by decide +kernel
theorem dX8_picture_19 : decode cX8_picture 19 = .ok (.iload_n 1, 1) := by decide +kernel
theorem dX8_picture_20 : decode cX8_picture 20 = .ok (.iload_n 2, 1) := by decide +kernel
theorem dX8_picture_21 : decode cX8_picture 21 = .ok (.iconst 4, 1) := by decide +kernel
theorem dX8_picture_22 : decode cX8_picture 22 = .ok (.imul, 1) := by decide +kernel
theorem dX8_picture_23 : decode cX8_picture 23 = .ok (.if_icmp .lt 6, 3) := by decide +kernel
theorem dX8_picture_26 : decode cX8_picture 26 = .ok (.bipush (-2), 2) := by decide +kernel
theorem dX8_picture_28 : decode cX8_picture 28 = .ok (.ireturn, 1) := by decide +kernel
theorem dX8_picture_29 : decode cX8_picture 29 = .ok (.iload_n 1, 1) := by decide +kernel
theorem dX8_picture_30 : decode cX8_picture 30 = .ok (.iload_n 2, 1) := by decide +kernel
theorem dX8_picture_31 : decode cX8_picture 31 = .ok (.irem, 1) := by decide +kernel
theorem dX8_picture_32 : decode cX8_picture 32 = .ok (.istore_n 3, 1) := by decide +kernel
theorem dX8_picture_33 : decode cX8_picture 33 = .ok (.iload_n 3, 1) := by decide +kernel
theorem dX8_picture_34 : decode cX8_picture 34 = .ok (.bipush 8, 2) := by decide +kernel
theorem dX8_picture_36 : decode cX8_picture 36 = .ok (.if_icmp .ne 6, 3) := by decide +kernel
theorem dX8_picture_39 : decode cX8_picture 39 = .ok (.bipush 10, 2) := by decide +kernel
theorem dX8_picture_41 : decode cX8_picture 41 = .ok (.ireturn, 1) := by decide +kernel
theorem dX8_picture_42 : decode cX8_picture 42 = .ok (.aload_n 0, 1) := by decide +kernel
theorem dX8_picture_43 : decode cX8_picture 43 = .ok (.getfield 19, 3) := by decide +kernel
theorem dX8_picture_46 : decode cX8_picture 46 = .ok (.aload_n 0, 1) := by decide +kernel
theorem dX8_picture_47 : decode cX8_picture 47 = .ok (.getfield 26, 3) := by decide +kernel
theorem dX8_picture_50 : decode cX8_picture 50 = .ok (.invokevirtual 87, 3) := by decide +kernel
theorem dX8_picture_53 : decode cX8_picture 53 = .ok (.invokevirtual 91, 3) := by decide +kernel
theorem dX8_picture_56 : decode cX8_picture 56 = .ok (.aload_n 0, 1) := by decide +kernel
theorem dX8_picture_57 : decode cX8_picture 57 = .ok (.getfield 19, 3) := by decide +kernel
theorem dX8_picture_60 : decode cX8_picture 60 = .ok (.iconst 4, 1) := by decide +kernel
theorem dX8_picture_61 : decode cX8_picture 61 = .ok (.iconst 3, 1) := by decide +kernel
theorem dX8_picture_62 : decode cX8_picture 62 = .ok (.iload_n 1, 1) := by decide +kernel
theorem dX8_picture_63 : decode cX8_picture 63 = .ok (.iload_n 2, 1) := by decide +kernel
theorem dX8_picture_64 : decode cX8_picture 64 = .ok (.idiv, 1) := by decide +kernel
theorem dX8_picture_65 : decode cX8_picture 65 = .ok (.isub, 1) := by decide +kernel
theorem dX8_picture_66 : decode cX8_picture 66 = .ok (.imul, 1) := by decide +kernel
theorem dX8_picture_67 : decode cX8_picture 67 = .ok (.iload_n 3, 1) := by decide +kernel
theorem dX8_picture_68 : decode cX8_picture 68 = .ok (.iconst 2, 1) := by decide +kernel
theorem dX8_picture_69 : decode cX8_picture 69 = .ok (.idiv, 1) := by decide +kernel
theorem dX8_picture_70 : decode cX8_picture 70 = .ok (.iadd, 1) := by decide +kernel
theorem dX8_picture_71 : decode cX8_picture 71 = .ok (.iload_n 3, 1) := by decide +kernel
theorem dX8_picture_72 : decode cX8_picture 72 = .ok (.iconst 2, 1) := by decide +kernel
theorem dX8_picture_73 : decode cX8_picture 73 = .ok (.irem, 1) := by decide +kernel
theorem dX8_picture_74 : decode cX8_picture 74 = .ok (.ifCond .ne 7, 3) := by decide +kernel
theorem dX8_picture_77 : decode cX8_picture 77 = .ok (.iconst 1, 1) := by decide +kernel
theorem dX8_picture_78 : decode cX8_picture 78 = .ok (.goto 4, 3) := by decide +kernel
theorem dX8_picture_81 : decode cX8_picture 81 = .ok (.iconst 0, 1) := by decide +kernel
theorem dX8_picture_82 : decode cX8_picture 82 = .ok (.invokevirtual 195, 3) := by decide +kernel
theorem dX8_picture_85 : decode cX8_picture 85 = .ok (.ireturn, 1) := by decide +kernel
theorem dX8_call_0 : decode cX8_call 0 = .ok (.iload_n 1, 1) := by decide +kernel
theorem dX8_call_1 : decode cX8_call 1 = .ok (.iconst (-1), 1) := by decide +kernel
theorem dX8_call_2 : decode cX8_call 2 = .ok (.if_icmp .ge 5, 3) := by decide +kernel
theorem dX8_call_5 : decode cX8_call 5 = .ok (.iconst (-1), 1) := by decide +kernel
theorem dX8_call_6 : decode cX8_call 6 = .ok (.ireturn, 1) := by decide +kernel
theorem dX8_call_7 : decode cX8_call 7 = .ok (.iload_n 1, 1) := by decide +kernel
theorem dX8_call_8 : decode cX8_call 8 = .ok (.iconst (-1), 1) := by decide +kernel
theorem dX8_call_9 : decode cX8_call 9 = .ok (.if_icmp .ne 11, 3) := by decide +kernel
theorem dX8_call_12 : decode cX8_call 12 = .ok (.aload_n 0, 1) := by decide +kernel
theorem dX8_call_13 : decode cX8_call 13 = .ok (.getfield 26, 3) := by decide +kernel
theorem dX8_call_16 : decode cX8_call 16 = .ok (.getfield 74, 3) := by decide +kernel
theorem dX8_call_19 : decode cX8_call 19 = .ok (.ireturn, 1) := by decide +kernel
theorem dX8_call_20 : decode cX8_call 20 = .ok (.iload_n 1, 1) := by decide +kernel
theorem dX8_call_21 : decode cX8_call 21 = .ok (.aload_n 0, 1) := by decide +kernel
theorem dX8_call_22 : decode cX8_call 22 = .ok (.getfield 26, 3) := by decide +kernel
theorem dX8_call_25 : decode cX8_call 25 = .ok (.getfield 74, 3) := by decide +kernel
theorem dX8_call_28 : decode cX8_call 28 = .ok (.if_icmp .ge 14, 3) := by decide +kernel
theorem dX8_call_31 : decode cX8_call 31 = .ok (.aload_n 0, 1) := by decide +kernel
theorem dX8_call_32 : decode cX8_call 32 = .ok (.getfield 26, 3) := by decide +kernel
theorem dX8_call_35 : decode cX8_call 35 = .ok (.iload_n 1, 1) := by decide +kernel
theorem dX8_call_36 : decode cX8_call 36 = .ok (.invokevirtual 133, 3) := by decide +kernel
theorem dX8_call_39 : decode cX8_call 39 = .ok (.goto 5, 3) := by decide +kernel
theorem dX8_call_42 : decode cX8_call 42 = .ok (.bipush (-2), 2) := by decide +kernel
theorem dX8_call_44 : decode cX8_call 44 = .ok (.ireturn, 1) := by decide +kernel
theorem dX8_danced_0 : decode cX8_danced 0 = .ok (.iload_n 1, 1) := by decide +kernel
theorem dX8_danced_1 : decode cX8_danced 1 = .ok (.ifCond .lt 9, 3) := by decide +kernel
theorem dX8_danced_4 : decode cX8_danced 4 = .ok (.iload_n 1, 1) := by decide +kernel
theorem dX8_danced_5 : decode cX8_danced 5 = .ok (.bipush 12, 2) := by decide +kernel
theorem dX8_danced_7 : decode cX8_danced 7 = .ok (.if_icmp .lt 7, 3) := by decide +kernel
theorem dX8_danced_10 : decode cX8_danced 10 = .ok (.iconst (-1), 1) := by decide +kernel
theorem dX8_danced_11 : decode cX8_danced 11 = .ok (.goto 9, 3) := by decide +kernel
theorem dX8_danced_14 : decode cX8_danced 14 = .ok (.aload_n 0, 1) := by decide +kernel
theorem dX8_danced_15 : decode cX8_danced 15 = .ok (.getfield 58, 3) := by decide +kernel
theorem dX8_danced_18 : decode cX8_danced 18 = .ok (.iload_n 1, 1) := by decide +kernel
theorem dX8_danced_19 : decode cX8_danced 19 = .ok (.iaload, 1) := by decide +kernel
theorem dX8_danced_20 : decode cX8_danced 20 = .ok (.ireturn, 1) := by decide +kernel
theorem dX8_image_0 : decode cX8_image 0 = .ok (.aload_n 0, 1) := by decide +kernel
theorem dX8_image_1 : decode cX8_image 1 = .ok (.getfield 30, 3) := by decide +kernel
theorem dX8_image_4 : decode cX8_image 4 = .ok (.aload_n 0, 1) := by decide +kernel
theorem dX8_image_5 : decode cX8_image 5 = .ok (.getfield 26, 3) := by decide +kernel
theorem dX8_image_8 : decode cX8_image 8 = .ok (.invokevirtual 199, 3) := by decide +kernel
theorem dX8_image_11 : decode cX8_image 11 = .ok (.aload_n 0, 1) := by decide +kernel
theorem dX8_image_12 : decode cX8_image 12 = .ok (.iconst 1, 1) := by decide +kernel
theorem dX8_image_13 : decode cX8_image 13 = .ok (.putfield 33, 3) := by decide +kernel
theorem dX8_image_16 : decode cX8_image 16 = .ok (.aload_n 0, 1) := by decide +kernel
theorem dX8_image_17 : decode cX8_image 17 = .ok (.getfield 26, 3) := by decide +kernel
theorem dX8_image_20 : decode cX8_image 20 = .ok (.getfield 74, 3) := by decide +kernel
theorem dX8_image_23 : decode cX8_image 23 = .ok (.ireturn, 1) := by decide +kernel
theorem dX8_back_0 : decode cX8_back 0 = .ok (.aload_n 0, 1) := by decide +kernel
theorem dX8_back_1 : decode cX8_back 1 = .ok (.getfield 33, 3) := by decide +kernel
theorem dX8_back_4 : decode cX8_back 4 = .ok (.ifCond .ne 6, 3) := by decide +kernel
theorem dX8_back_7 : decode cX8_back 7 = .ok (.bipush (-5), 2) := by decide +kernel
theorem dX8_back_9 : decode cX8_back 9 = .ok (.ireturn, 1) := by decide +kernel
theorem dX8_back_10 : decode cX8_back 10 = .ok (.aload_n 0, 1) := by decide +kernel
theorem dX8_back_11 : decode cX8_back 11 = .ok (.getfield 26, 3) := by decide +kernel
theorem dX8_back_14 : decode cX8_back 14 = .ok (.aload_n 0, 1) := by decide +kernel
theorem dX8_back_15 : decode cX8_back 15 = .ok (.getfield 30, 3) := by decide +kernel
theorem dX8_back_18 : decode cX8_back 18 = .ok (.invokevirtual 199, 3) := by decide +kernel
theorem dX8_back_21 : decode cX8_back 21 = .ok (.aload_n 0, 1) := by decide +kernel
theorem dX8_back_22 : decode cX8_back 22 = .ok (.getfield 26, 3) := by decide +kernel
theorem dX8_back_25 : decode cX8_back 25 = .ok (.getfield 74, 3) := by decide +kernel
theorem dX8_back_28 : decode cX8_back 28 = .ok (.ireturn, 1) := by decide +kernel
theorem dX8_orNot_0 : decode cX8_orNot 0 = .ok (.iload_n 0, 1) := by decide +kernel
theorem dX8_orNot_1 : decode cX8_orNot 1 = .ok (.iconst (-1), 1) := by decide +kernel
theorem dX8_orNot_2 : decode cX8_orNot 2 = .ok (.if_icmp .ne 8, 3) := by decide +kernel
theorem dX8_orNot_5 : decode cX8_orNot 5 = .ok (.bipush (-2), 2) := by decide +kernel
theorem dX8_orNot_7 : decode cX8_orNot 7 = .ok (.goto 4, 3) := by decide +kernel
theorem dX8_orNot_10 : decode cX8_orNot 10 = .ok (.iload_n 0, 1) := by decide +kernel
theorem dX8_orNot_11 : decode cX8_orNot 11 = .ok (.ireturn, 1) := by decide +kernel
theorem dX8_tallyFigure_0 : decode cX8_tallyFigure 0 = .ok (.iload_n 1, 1) := by decide +kernel
theorem dX8_tallyFigure_1 : decode cX8_tallyFigure 1 = .ok (.bipush 100, 2) := by decide +kernel
theorem dX8_tallyFigure_3 : decode cX8_tallyFigure 3 = .ok (.irem, 1) := by decide +kernel
theorem dX8_tallyFigure_4 : decode cX8_tallyFigure 4 = .ok (.istore_n 2, 1) := by decide +kernel
theorem dX8_tallyFigure_5 : decode cX8_tallyFigure 5 = .ok (.iload_n 2, 1) := by decide +kernel
theorem dX8_tallyFigure_6 : decode cX8_tallyFigure 6 = .ok (.ifCond .lt 19, 3) := by decide +kernel
theorem dX8_tallyFigure_9 : decode cX8_tallyFigure 9 = .ok (.iload_n 2, 1) := by decide +kernel
theorem dX8_tallyFigure_10 : decode cX8_tallyFigure 10 = .ok (.bipush 12, 2) := by decide +kernel
theorem dX8_tallyFigure_12 : decode cX8_tallyFigure 12 = .ok (.if_icmp .ge 13, 3) := by decide +kernel
theorem dX8_tallyFigure_15 : decode cX8_tallyFigure 15 = .ok (.aload_n 0, 1) := by decide +kernel
theorem dX8_tallyFigure_16 : decode cX8_tallyFigure 16 = .ok (.getfield 58, 3) := by decide +kernel
theorem dX8_tallyFigure_19 : decode cX8_tallyFigure 19 = .ok (.iload_n 2, 1) := by decide +kernel
theorem dX8_tallyFigure_20 : decode cX8_tallyFigure 20 = .ok (.dup2, 1) := by decide +kernel
theorem dX8_tallyFigure_21 : decode cX8_tallyFigure 21 = .ok (.iaload, 1) := by decide +kernel
theorem dX8_tallyFigure_22 : decode cX8_tallyFigure 22 = .ok (.iconst 1, 1) := by decide +kernel
theorem dX8_tallyFigure_23 : decode cX8_tallyFigure 23 = .ok (.iadd, 1) := by decide +kernel
theorem dX8_tallyFigure_24 : decode cX8_tallyFigure 24 = .ok (.iastore, 1) := by decide +kernel
theorem dX8_tallyFigure_25 : decode cX8_tallyFigure 25 = .ok (.return_, 1) := by decide +kernel
theorem dX8_danceInThought_0 : decode cX8_danceInThought 0 = .ok (.iconst 0, 1) := by decide +kernel
theorem dX8_danceInThought_1 : decode cX8_danceInThought 1 = .ok (.istore_n 1, 1) := by decide +kernel
theorem dX8_danceInThought_2 : decode cX8_danceInThought 2 = .ok (.iload_n 1, 1) := by decide +kernel
theorem dX8_danceInThought_3 : decode cX8_danceInThought 3 = .ok (.aload_n 0, 1) := by decide +kernel
theorem dX8_danceInThought_4 : decode cX8_danceInThought 4 = .ok (.getfield 12, 3) := by decide +kernel
theorem dX8_danceInThought_7 : decode cX8_danceInThought 7 = .ok (.getfield 77, 3) := by decide +kernel
theorem dX8_danceInThought_10 : decode cX8_danceInThought 10 = .ok (.if_icmp .ge 43, 3) := by decide +kernel
theorem dX8_danceInThought_13 : decode cX8_danceInThought 13 = .ok (.aload_n 0, 1) := by decide +kernel
theorem dX8_danceInThought_14 : decode cX8_danceInThought 14 = .ok (.getfield 19, 3) := by decide +kernel
theorem dX8_danceInThought_17 : decode cX8_danceInThought 17 = .ok (.aload_n 0, 1) := by decide +kernel
theorem dX8_danceInThought_18 : decode cX8_danceInThought 18 = .ok (.getfield 12, 3) := by decide +kernel
theorem dX8_danceInThought_21 : decode cX8_danceInThought 21 = .ok (.iload_n 1, 1) := by decide +kernel
theorem dX8_danceInThought_22 : decode cX8_danceInThought 22 = .ok (.invokevirtual 83, 3) := by decide +kernel
theorem dX8_danceInThought_25 : decode cX8_danceInThought 25 = .ok (.invokevirtual 95, 3) := by decide +kernel
theorem dX8_danceInThought_28 : decode cX8_danceInThought 28 = .ok (.ifCond .ne 5, 3) := by decide +kernel
theorem dX8_danceInThought_31 : decode cX8_danceInThought 31 = .ok (.iconst 0, 1) := by decide +kernel
theorem dX8_danceInThought_32 : decode cX8_danceInThought 32 = .ok (.ireturn, 1) := by decide +kernel
theorem dX8_danceInThought_33 : decode cX8_danceInThought 33 = .ok (.aload_n 0, 1) := by decide +kernel
theorem dX8_danceInThought_34 : decode cX8_danceInThought 34 = .ok (.getfield 19, 3) := by decide +kernel
theorem dX8_danceInThought_37 : decode cX8_danceInThought 37 = .ok (.aload_n 0, 1) := by decide +kernel
theorem dX8_danceInThought_38 : decode cX8_danceInThought 38 = .ok (.getfield 19, 3) := by decide +kernel
theorem dX8_danceInThought_41 : decode cX8_danceInThought 41 = .ok (.invokevirtual 102, 3) := by decide +kernel
theorem dX8_danceInThought_44 : decode cX8_danceInThought 44 = .ok (.invokevirtual 91, 3) := by decide +kernel
theorem dX8_danceInThought_47 : decode cX8_danceInThought 47 = .ok (.iinc 1 1, 3) := by decide +kernel
theorem dX8_danceInThought_50 : decode cX8_danceInThought 50 = .ok (.goto (-48), 3) := by decide +kernel
theorem dX8_danceInThought_53 : decode cX8_danceInThought 53 = .ok (.iconst 1, 1) := by decide +kernel
theorem dX8_danceInThought_54 : decode cX8_danceInThought 54 = .ok (.ireturn, 1) := by decide +kernel
theorem dL_law_0 : decode cL_law 0 = .ok (.new 7, 3) := by decide +kernel
theorem dL_law_3 : decode cL_law 3 = .ok (.dup, 1) := by decide +kernel
theorem dL_law_4 : decode cL_law 4 = .ok (.invokespecial 9, 3) := by decide +kernel
theorem dL_law_7 : decode cL_law 7 = .ok (.astore_n 1, 1) := by decide +kernel
theorem dL_law_8 : decode cL_law 8 = .ok (.new 10, 3) := by decide +kernel
theorem dL_law_11 : decode cL_law 11 = .ok (.dup, 1) := by decide +kernel
theorem dL_law_12 : decode cL_law 12 = .ok (.invokespecial 12, 3) := by decide +kernel
theorem dL_law_15 : decode cL_law 15 = .ok (.astore_n 2, 1) := by decide +kernel
theorem dL_law_16 : decode cL_law 16 = .ok (.iconst 0, 1) := by decide +kernel
theorem dL_law_17 : decode cL_law 17 = .ok (.istore_n 3, 1) := by decide +kernel
theorem dL_law_18 : decode cL_law 18 = .ok (.iload_n 3, 1) := by decide +kernel
theorem dL_law_19 : decode cL_law 19 = .ok (.aload_n 0, 1) := by decide +kernel
theorem dL_law_20 : decode cL_law 20 = .ok (.arraylength, 1) := by decide +kernel
theorem dL_law_21 : decode cL_law 21 = .ok (.iconst 3, 1) := by decide +kernel
theorem dL_law_22 : decode cL_law 22 = .ok (.isub, 1) := by decide +kernel
theorem dL_law_23 : decode cL_law 23 = .ok (.if_icmp .gt 528, 3) := by decide +kernel
theorem dL_law_26 : decode cL_law 26 = .ok (.aload_n 0, 1) := by decide +kernel
theorem dL_law_27 : decode cL_law 27 = .ok (.iload_n 3, 1) := by decide +kernel
theorem dL_law_28 : decode cL_law 28 = .ok (.iaload, 1) := by decide +kernel
theorem dL_law_29 : decode cL_law 29 = .ok (.bipush 31, 2) := by decide +kernel
theorem dL_law_31 : decode cL_law 31 = .ok (.iand, 1) := by decide +kernel
theorem dL_law_32 : decode cL_law 32 = .ok (.tableswitch 513 0 20 #[100, 123, 136, 159, 172, 185, 198, 211, 244, 267, 290, 313, 336, 349, 372, 395, 418, 441, 464, 487, 500], 100) := by decide +kernel
theorem dL_law_132 : decode cL_law 132 = .ok (.aload_n 1, 1) := by decide +kernel
theorem dL_law_133 : decode cL_law 133 = .ok (.aload_n 0, 1) := by decide +kernel
theorem dL_law_134 : decode cL_law 134 = .ok (.iload_n 3, 1) := by decide +kernel
theorem dL_law_135 : decode cL_law 135 = .ok (.iconst 1, 1) := by decide +kernel
theorem dL_law_136 : decode cL_law 136 = .ok (.iadd, 1) := by decide +kernel
theorem dL_law_137 : decode cL_law 137 = .ok (.iaload, 1) := by decide +kernel
theorem dL_law_138 : decode cL_law 138 = .ok (.invokevirtual 13, 3) := by decide +kernel
theorem dL_law_141 : decode cL_law 141 = .ok (.aload_n 2, 1) := by decide +kernel
theorem dL_law_142 : decode cL_law 142 = .ok (.aload_n 0, 1) := by decide +kernel
theorem dL_law_143 : decode cL_law 143 = .ok (.iload_n 3, 1) := by decide +kernel
theorem dL_law_144 : decode cL_law 144 = .ok (.iconst 1, 1) := by decide +kernel
theorem dL_law_145 : decode cL_law 145 = .ok (.iadd, 1) := by decide +kernel
theorem dL_law_146 : decode cL_law 146 = .ok (.iaload, 1) := by decide +kernel
theorem dL_law_147 : decode cL_law 147 = .ok (.invokevirtual 17, 3) := by decide +kernel
theorem dL_law_150 : decode cL_law 150 = .ok (.if_icmp .eq 395, 3) := by decide +kernel
theorem dL_law_153 : decode cL_law 153 = .ok (.iconst 0, 1) := by decide +kernel
theorem dL_law_154 : decode cL_law 154 = .ok (.ireturn, 1) := by decide +kernel
theorem dL_law_155 : decode cL_law 155 = .ok (.aload_n 1, 1) := by decide +kernel
theorem dL_law_156 : decode cL_law 156 = .ok (.invokevirtual 18, 3) := by decide +kernel
theorem dL_law_159 : decode cL_law 159 = .ok (.aload_n 2, 1) := by decide +kernel
theorem dL_law_160 : decode cL_law 160 = .ok (.invokevirtual 22, 3) := by decide +kernel
theorem dL_law_163 : decode cL_law 163 = .ok (.if_icmp .eq 382, 3) := by decide +kernel
theorem dL_law_166 : decode cL_law 166 = .ok (.iconst 0, 1) := by decide +kernel
theorem dL_law_167 : decode cL_law 167 = .ok (.ireturn, 1) := by decide +kernel
theorem dL_law_168 : decode cL_law 168 = .ok (.aload_n 1, 1) := by decide +kernel
theorem dL_law_169 : decode cL_law 169 = .ok (.aload_n 0, 1) := by decide +kernel
theorem dL_law_170 : decode cL_law 170 = .ok (.iload_n 3, 1) := by decide +kernel
theorem dL_law_171 : decode cL_law 171 = .ok (.iconst 1, 1) := by decide +kernel
theorem dL_law_172 : decode cL_law 172 = .ok (.iadd, 1) := by decide +kernel
theorem dL_law_173 : decode cL_law 173 = .ok (.iaload, 1) := by decide +kernel
theorem dL_law_174 : decode cL_law 174 = .ok (.invokevirtual 23, 3) := by decide +kernel
theorem dL_law_177 : decode cL_law 177 = .ok (.aload_n 2, 1) := by decide +kernel
theorem dL_law_178 : decode cL_law 178 = .ok (.aload_n 0, 1) := by decide +kernel
theorem dL_law_179 : decode cL_law 179 = .ok (.iload_n 3, 1) := by decide +kernel
theorem dL_law_180 : decode cL_law 180 = .ok (.iconst 1, 1) := by decide +kernel
theorem dL_law_181 : decode cL_law 181 = .ok (.iadd, 1) := by decide +kernel
theorem dL_law_182 : decode cL_law 182 = .ok (.iaload, 1) := by decide +kernel
theorem dL_law_183 : decode cL_law 183 = .ok (.invokevirtual 26, 3) := by decide +kernel
theorem dL_law_186 : decode cL_law 186 = .ok (.if_icmp .eq 359, 3) := by decide +kernel
theorem dL_law_189 : decode cL_law 189 = .ok (.iconst 0, 1) := by decide +kernel
theorem dL_law_190 : decode cL_law 190 = .ok (.ireturn, 1) := by decide +kernel
theorem dL_law_191 : decode cL_law 191 = .ok (.aload_n 1, 1) := by decide +kernel
theorem dL_law_192 : decode cL_law 192 = .ok (.invokevirtual 27, 3) := by decide +kernel
theorem dL_law_195 : decode cL_law 195 = .ok (.aload_n 2, 1) := by decide +kernel
theorem dL_law_196 : decode cL_law 196 = .ok (.invokevirtual 30, 3) := by decide +kernel
theorem dL_law_199 : decode cL_law 199 = .ok (.if_icmp .eq 346, 3) := by decide +kernel
theorem dL_law_202 : decode cL_law 202 = .ok (.iconst 0, 1) := by decide +kernel
theorem dL_law_203 : decode cL_law 203 = .ok (.ireturn, 1) := by decide +kernel
theorem dL_law_204 : decode cL_law 204 = .ok (.aload_n 1, 1) := by decide +kernel
theorem dL_law_205 : decode cL_law 205 = .ok (.invokevirtual 31, 3) := by decide +kernel
theorem dL_law_208 : decode cL_law 208 = .ok (.aload_n 2, 1) := by decide +kernel
theorem dL_law_209 : decode cL_law 209 = .ok (.invokevirtual 34, 3) := by decide +kernel
theorem dL_law_212 : decode cL_law 212 = .ok (.if_icmp .eq 333, 3) := by decide +kernel
theorem dL_law_215 : decode cL_law 215 = .ok (.iconst 0, 1) := by decide +kernel
theorem dL_law_216 : decode cL_law 216 = .ok (.ireturn, 1) := by decide +kernel
theorem dL_law_217 : decode cL_law 217 = .ok (.aload_n 1, 1) := by decide +kernel
theorem dL_law_218 : decode cL_law 218 = .ok (.invokevirtual 35, 3) := by decide +kernel
theorem dL_law_221 : decode cL_law 221 = .ok (.aload_n 2, 1) := by decide +kernel
theorem dL_law_222 : decode cL_law 222 = .ok (.invokevirtual 38, 3) := by decide +kernel
theorem dL_law_225 : decode cL_law 225 = .ok (.if_icmp .eq 320, 3) := by decide +kernel
theorem dL_law_228 : decode cL_law 228 = .ok (.iconst 0, 1) := by decide +kernel
theorem dL_law_229 : decode cL_law 229 = .ok (.ireturn, 1) := by decide +kernel
theorem dL_law_230 : decode cL_law 230 = .ok (.aload_n 1, 1) := by decide +kernel
theorem dL_law_231 : decode cL_law 231 = .ok (.invokevirtual 39, 3) := by decide +kernel
theorem dL_law_234 : decode cL_law 234 = .ok (.aload_n 2, 1) := by decide +kernel
theorem dL_law_235 : decode cL_law 235 = .ok (.invokevirtual 42, 3) := by decide +kernel
theorem dL_law_238 : decode cL_law 238 = .ok (.if_icmp .eq 307, 3) := by decide +kernel
theorem dL_law_241 : decode cL_law 241 = .ok (.iconst 0, 1) := by decide +kernel
theorem dL_law_242 : decode cL_law 242 = .ok (.ireturn, 1) := by decide +kernel
theorem dL_law_243 : decode cL_law 243 = .ok (.aload_n 1, 1) := by decide +kernel
theorem dL_law_244 : decode cL_law 244 = .ok (.aload_n 0, 1) := by decide +kernel
theorem dL_law_245 : decode cL_law 245 = .ok (.iload_n 3, 1) := by decide +kernel
theorem dL_law_246 : decode cL_law 246 = .ok (.iconst 1, 1) := by decide +kernel
theorem dL_law_247 : decode cL_law 247 = .ok (.iadd, 1) := by decide +kernel
theorem dL_law_248 : decode cL_law 248 = .ok (.iaload, 1) := by decide +kernel
theorem dL_law_249 : decode cL_law 249 = .ok (.aload_n 0, 1) := by decide +kernel
theorem dL_law_250 : decode cL_law 250 = .ok (.iload_n 3, 1) := by decide +kernel
theorem dL_law_251 : decode cL_law 251 = .ok (.iconst 2, 1) := by decide +kernel
theorem dL_law_252 : decode cL_law 252 = .ok (.iadd, 1) := by decide +kernel
theorem dL_law_253 : decode cL_law 253 = .ok (.iaload, 1) := by decide +kernel
theorem dL_law_254 : decode cL_law 254 = .ok (.invokevirtual 43, 3) := by decide +kernel
theorem dL_law_257 : decode cL_law 257 = .ok (.aload_n 2, 1) := by decide +kernel
theorem dL_law_258 : decode cL_law 258 = .ok (.aload_n 0, 1) := by decide +kernel
theorem dL_law_259 : decode cL_law 259 = .ok (.iload_n 3, 1) := by decide +kernel
theorem dL_law_260 : decode cL_law 260 = .ok (.iconst 1, 1) := by decide +kernel
theorem dL_law_261 : decode cL_law 261 = .ok (.iadd, 1) := by decide +kernel
theorem dL_law_262 : decode cL_law 262 = .ok (.iaload, 1) := by decide +kernel
theorem dL_law_263 : decode cL_law 263 = .ok (.aload_n 0, 1) := by decide +kernel
theorem dL_law_264 : decode cL_law 264 = .ok (.iload_n 3, 1) := by decide +kernel
theorem dL_law_265 : decode cL_law 265 = .ok (.iconst 2, 1) := by decide +kernel
theorem dL_law_266 : decode cL_law 266 = .ok (.iadd, 1) := by decide +kernel
theorem dL_law_267 : decode cL_law 267 = .ok (.iaload, 1) := by decide +kernel
theorem dL_law_268 : decode cL_law 268 = .ok (.invokevirtual 47, 3) := by decide +kernel
theorem dL_law_271 : decode cL_law 271 = .ok (.if_icmp .eq 274, 3) := by decide +kernel
theorem dL_law_274 : decode cL_law 274 = .ok (.iconst 0, 1) := by decide +kernel
theorem dL_law_275 : decode cL_law 275 = .ok (.ireturn, 1) := by decide +kernel
theorem dL_law_276 : decode cL_law 276 = .ok (.aload_n 1, 1) := by decide +kernel
theorem dL_law_277 : decode cL_law 277 = .ok (.aload_n 0, 1) := by decide +kernel
theorem dL_law_278 : decode cL_law 278 = .ok (.iload_n 3, 1) := by decide +kernel
theorem dL_law_279 : decode cL_law 279 = .ok (.iconst 1, 1) := by decide +kernel
theorem dL_law_280 : decode cL_law 280 = .ok (.iadd, 1) := by decide +kernel
theorem dL_law_281 : decode cL_law 281 = .ok (.iaload, 1) := by decide +kernel
theorem dL_law_282 : decode cL_law 282 = .ok (.invokevirtual 48, 3) := by decide +kernel
theorem dL_law_285 : decode cL_law 285 = .ok (.aload_n 2, 1) := by decide +kernel
theorem dL_law_286 : decode cL_law 286 = .ok (.aload_n 0, 1) := by decide +kernel
theorem dL_law_287 : decode cL_law 287 = .ok (.iload_n 3, 1) := by decide +kernel
theorem dL_law_288 : decode cL_law 288 = .ok (.iconst 1, 1) := by decide +kernel
theorem dL_law_289 : decode cL_law 289 = .ok (.iadd, 1) := by decide +kernel
theorem dL_law_290 : decode cL_law 290 = .ok (.iaload, 1) := by decide +kernel
theorem dL_law_291 : decode cL_law 291 = .ok (.invokevirtual 51, 3) := by decide +kernel
theorem dL_law_294 : decode cL_law 294 = .ok (.if_icmp .eq 251, 3) := by decide +kernel
theorem dL_law_297 : decode cL_law 297 = .ok (.iconst 0, 1) := by decide +kernel
theorem dL_law_298 : decode cL_law 298 = .ok (.ireturn, 1) := by decide +kernel
theorem dL_law_299 : decode cL_law 299 = .ok (.aload_n 1, 1) := by decide +kernel
theorem dL_law_300 : decode cL_law 300 = .ok (.aload_n 0, 1) := by decide +kernel
theorem dL_law_301 : decode cL_law 301 = .ok (.iload_n 3, 1) := by decide +kernel
theorem dL_law_302 : decode cL_law 302 = .ok (.iconst 1, 1) := by decide +kernel
theorem dL_law_303 : decode cL_law 303 = .ok (.iadd, 1) := by decide +kernel
theorem dL_law_304 : decode cL_law 304 = .ok (.iaload, 1) := by decide +kernel
theorem dL_law_305 : decode cL_law 305 = .ok (.invokevirtual 52, 3) := by decide +kernel
theorem dL_law_308 : decode cL_law 308 = .ok (.aload_n 2, 1) := by decide +kernel
theorem dL_law_309 : decode cL_law 309 = .ok (.aload_n 0, 1) := by decide +kernel
theorem dL_law_310 : decode cL_law 310 = .ok (.iload_n 3, 1) := by decide +kernel
theorem dL_law_311 : decode cL_law 311 = .ok (.iconst 1, 1) := by decide +kernel
theorem dL_law_312 : decode cL_law 312 = .ok (.iadd, 1) := by decide +kernel
theorem dL_law_313 : decode cL_law 313 = .ok (.iaload, 1) := by decide +kernel
theorem dL_law_314 : decode cL_law 314 = .ok (.invokevirtual 55, 3) := by decide +kernel
theorem dL_law_317 : decode cL_law 317 = .ok (.if_icmp .eq 228, 3) := by decide +kernel
theorem dL_law_320 : decode cL_law 320 = .ok (.iconst 0, 1) := by decide +kernel
theorem dL_law_321 : decode cL_law 321 = .ok (.ireturn, 1) := by decide +kernel
theorem dL_law_322 : decode cL_law 322 = .ok (.aload_n 1, 1) := by decide +kernel
theorem dL_law_323 : decode cL_law 323 = .ok (.aload_n 0, 1) := by decide +kernel
theorem dL_law_324 : decode cL_law 324 = .ok (.iload_n 3, 1) := by decide +kernel
theorem dL_law_325 : decode cL_law 325 = .ok (.iconst 1, 1) := by decide +kernel
theorem dL_law_326 : decode cL_law 326 = .ok (.iadd, 1) := by decide +kernel
theorem dL_law_327 : decode cL_law 327 = .ok (.iaload, 1) := by decide +kernel
theorem dL_law_328 : decode cL_law 328 = .ok (.invokevirtual 56, 3) := by decide +kernel
theorem dL_law_331 : decode cL_law 331 = .ok (.aload_n 2, 1) := by decide +kernel
theorem dL_law_332 : decode cL_law 332 = .ok (.aload_n 0, 1) := by decide +kernel
theorem dL_law_333 : decode cL_law 333 = .ok (.iload_n 3, 1) := by decide +kernel
theorem dL_law_334 : decode cL_law 334 = .ok (.iconst 1, 1) := by decide +kernel
theorem dL_law_335 : decode cL_law 335 = .ok (.iadd, 1) := by decide +kernel
theorem dL_law_336 : decode cL_law 336 = .ok (.iaload, 1) := by decide +kernel
theorem dL_law_337 : decode cL_law 337 = .ok (.invokevirtual 59, 3) := by decide +kernel
theorem dL_law_340 : decode cL_law 340 = .ok (.if_icmp .eq 205, 3) := by decide +kernel
theorem dL_law_343 : decode cL_law 343 = .ok (.iconst 0, 1) := by decide +kernel
theorem dL_law_344 : decode cL_law 344 = .ok (.ireturn, 1) := by decide +kernel
theorem dL_law_345 : decode cL_law 345 = .ok (.aload_n 1, 1) := by decide +kernel
theorem dL_law_346 : decode cL_law 346 = .ok (.aload_n 0, 1) := by decide +kernel
theorem dL_law_347 : decode cL_law 347 = .ok (.iload_n 3, 1) := by decide +kernel
theorem dL_law_348 : decode cL_law 348 = .ok (.iconst 1, 1) := by decide +kernel
theorem dL_law_349 : decode cL_law 349 = .ok (.iadd, 1) := by decide +kernel
theorem dL_law_350 : decode cL_law 350 = .ok (.iaload, 1) := by decide +kernel
theorem dL_law_351 : decode cL_law 351 = .ok (.invokevirtual 60, 3) := by decide +kernel
theorem dL_law_354 : decode cL_law 354 = .ok (.aload_n 2, 1) := by decide +kernel
theorem dL_law_355 : decode cL_law 355 = .ok (.aload_n 0, 1) := by decide +kernel
theorem dL_law_356 : decode cL_law 356 = .ok (.iload_n 3, 1) := by decide +kernel
theorem dL_law_357 : decode cL_law 357 = .ok (.iconst 1, 1) := by decide +kernel
theorem dL_law_358 : decode cL_law 358 = .ok (.iadd, 1) := by decide +kernel
theorem dL_law_359 : decode cL_law 359 = .ok (.iaload, 1) := by decide +kernel
theorem dL_law_360 : decode cL_law 360 = .ok (.invokevirtual 63, 3) := by decide +kernel
theorem dL_law_363 : decode cL_law 363 = .ok (.if_icmp .eq 182, 3) := by decide +kernel
theorem dL_law_366 : decode cL_law 366 = .ok (.iconst 0, 1) := by decide +kernel
theorem dL_law_367 : decode cL_law 367 = .ok (.ireturn, 1) := by decide +kernel
theorem dL_law_368 : decode cL_law 368 = .ok (.aload_n 1, 1) := by decide +kernel
theorem dL_law_369 : decode cL_law 369 = .ok (.invokevirtual 64, 3) := by decide +kernel
theorem dL_law_372 : decode cL_law 372 = .ok (.aload_n 2, 1) := by decide +kernel
theorem dL_law_373 : decode cL_law 373 = .ok (.invokevirtual 67, 3) := by decide +kernel
theorem dL_law_376 : decode cL_law 376 = .ok (.if_icmp .eq 169, 3) := by decide +kernel
theorem dL_law_379 : decode cL_law 379 = .ok (.iconst 0, 1) := by decide +kernel
theorem dL_law_380 : decode cL_law 380 = .ok (.ireturn, 1) := by decide +kernel
theorem dL_law_381 : decode cL_law 381 = .ok (.aload_n 1, 1) := by decide +kernel
theorem dL_law_382 : decode cL_law 382 = .ok (.aload_n 0, 1) := by decide +kernel
theorem dL_law_383 : decode cL_law 383 = .ok (.iload_n 3, 1) := by decide +kernel
theorem dL_law_384 : decode cL_law 384 = .ok (.iconst 1, 1) := by decide +kernel
theorem dL_law_385 : decode cL_law 385 = .ok (.iadd, 1) := by decide +kernel
theorem dL_law_386 : decode cL_law 386 = .ok (.iaload, 1) := by decide +kernel
theorem dL_law_387 : decode cL_law 387 = .ok (.invokevirtual 68, 3) := by decide +kernel
theorem dL_law_390 : decode cL_law 390 = .ok (.aload_n 2, 1) := by decide +kernel
theorem dL_law_391 : decode cL_law 391 = .ok (.aload_n 0, 1) := by decide +kernel
theorem dL_law_392 : decode cL_law 392 = .ok (.iload_n 3, 1) := by decide +kernel
theorem dL_law_393 : decode cL_law 393 = .ok (.iconst 1, 1) := by decide +kernel
theorem dL_law_394 : decode cL_law 394 = .ok (.iadd, 1) := by decide +kernel
theorem dL_law_395 : decode cL_law 395 = .ok (.iaload, 1) := by decide +kernel
theorem dL_law_396 : decode cL_law 396 = .ok (.invokevirtual 71, 3) := by decide +kernel
theorem dL_law_399 : decode cL_law 399 = .ok (.if_icmp .eq 146, 3) := by decide +kernel
theorem dL_law_402 : decode cL_law 402 = .ok (.iconst 0, 1) := by decide +kernel
theorem dL_law_403 : decode cL_law 403 = .ok (.ireturn, 1) := by decide +kernel
theorem dL_law_404 : decode cL_law 404 = .ok (.aload_n 1, 1) := by decide +kernel
theorem dL_law_405 : decode cL_law 405 = .ok (.aload_n 0, 1) := by decide +kernel
theorem dL_law_406 : decode cL_law 406 = .ok (.iload_n 3, 1) := by decide +kernel
theorem dL_law_407 : decode cL_law 407 = .ok (.iconst 1, 1) := by decide +kernel
theorem dL_law_408 : decode cL_law 408 = .ok (.iadd, 1) := by decide +kernel
theorem dL_law_409 : decode cL_law 409 = .ok (.iaload, 1) := by decide +kernel
theorem dL_law_410 : decode cL_law 410 = .ok (.invokevirtual 72, 3) := by decide +kernel
theorem dL_law_413 : decode cL_law 413 = .ok (.aload_n 2, 1) := by decide +kernel
theorem dL_law_414 : decode cL_law 414 = .ok (.aload_n 0, 1) := by decide +kernel
theorem dL_law_415 : decode cL_law 415 = .ok (.iload_n 3, 1) := by decide +kernel
theorem dL_law_416 : decode cL_law 416 = .ok (.iconst 1, 1) := by decide +kernel
theorem dL_law_417 : decode cL_law 417 = .ok (.iadd, 1) := by decide +kernel
theorem dL_law_418 : decode cL_law 418 = .ok (.iaload, 1) := by decide +kernel
theorem dL_law_419 : decode cL_law 419 = .ok (.invokevirtual 75, 3) := by decide +kernel
theorem dL_law_422 : decode cL_law 422 = .ok (.if_icmp .eq 123, 3) := by decide +kernel
theorem dL_law_425 : decode cL_law 425 = .ok (.iconst 0, 1) := by decide +kernel
theorem dL_law_426 : decode cL_law 426 = .ok (.ireturn, 1) := by decide +kernel
theorem dL_law_427 : decode cL_law 427 = .ok (.aload_n 1, 1) := by decide +kernel
theorem dL_law_428 : decode cL_law 428 = .ok (.aload_n 0, 1) := by decide +kernel
theorem dL_law_429 : decode cL_law 429 = .ok (.iload_n 3, 1) := by decide +kernel
theorem dL_law_430 : decode cL_law 430 = .ok (.iconst 1, 1) := by decide +kernel
theorem dL_law_431 : decode cL_law 431 = .ok (.iadd, 1) := by decide +kernel
theorem dL_law_432 : decode cL_law 432 = .ok (.iaload, 1) := by decide +kernel
theorem dL_law_433 : decode cL_law 433 = .ok (.invokevirtual 76, 3) := by decide +kernel
theorem dL_law_436 : decode cL_law 436 = .ok (.aload_n 2, 1) := by decide +kernel
theorem dL_law_437 : decode cL_law 437 = .ok (.aload_n 0, 1) := by decide +kernel
theorem dL_law_438 : decode cL_law 438 = .ok (.iload_n 3, 1) := by decide +kernel
theorem dL_law_439 : decode cL_law 439 = .ok (.iconst 1, 1) := by decide +kernel
theorem dL_law_440 : decode cL_law 440 = .ok (.iadd, 1) := by decide +kernel
theorem dL_law_441 : decode cL_law 441 = .ok (.iaload, 1) := by decide +kernel
theorem dL_law_442 : decode cL_law 442 = .ok (.invokevirtual 79, 3) := by decide +kernel
theorem dL_law_445 : decode cL_law 445 = .ok (.if_icmp .eq 100, 3) := by decide +kernel
theorem dL_law_448 : decode cL_law 448 = .ok (.iconst 0, 1) := by decide +kernel
theorem dL_law_449 : decode cL_law 449 = .ok (.ireturn, 1) := by decide +kernel
theorem dL_law_450 : decode cL_law 450 = .ok (.aload_n 1, 1) := by decide +kernel
theorem dL_law_451 : decode cL_law 451 = .ok (.aload_n 0, 1) := by decide +kernel
theorem dL_law_452 : decode cL_law 452 = .ok (.iload_n 3, 1) := by decide +kernel
theorem dL_law_453 : decode cL_law 453 = .ok (.iconst 1, 1) := by decide +kernel
theorem dL_law_454 : decode cL_law 454 = .ok (.iadd, 1) := by decide +kernel
theorem dL_law_455 : decode cL_law 455 = .ok (.iaload, 1) := by decide +kernel
theorem dL_law_456 : decode cL_law 456 = .ok (.invokevirtual 80, 3) := by decide +kernel
theorem dL_law_459 : decode cL_law 459 = .ok (.aload_n 2, 1) := by decide +kernel
theorem dL_law_460 : decode cL_law 460 = .ok (.aload_n 0, 1) := by decide +kernel
theorem dL_law_461 : decode cL_law 461 = .ok (.iload_n 3, 1) := by decide +kernel
theorem dL_law_462 : decode cL_law 462 = .ok (.iconst 1, 1) := by decide +kernel
theorem dL_law_463 : decode cL_law 463 = .ok (.iadd, 1) := by decide +kernel
theorem dL_law_464 : decode cL_law 464 = .ok (.iaload, 1) := by decide +kernel
theorem dL_law_465 : decode cL_law 465 = .ok (.invokevirtual 83, 3) := by decide +kernel
theorem dL_law_468 : decode cL_law 468 = .ok (.if_icmp .eq 77, 3) := by decide +kernel
theorem dL_law_471 : decode cL_law 471 = .ok (.iconst 0, 1) := by decide +kernel
theorem dL_law_472 : decode cL_law 472 = .ok (.ireturn, 1) := by decide +kernel
theorem dL_law_473 : decode cL_law 473 = .ok (.aload_n 1, 1) := by decide +kernel
theorem dL_law_474 : decode cL_law 474 = .ok (.aload_n 0, 1) := by decide +kernel
theorem dL_law_475 : decode cL_law 475 = .ok (.iload_n 3, 1) := by decide +kernel
theorem dL_law_476 : decode cL_law 476 = .ok (.iconst 1, 1) := by decide +kernel
theorem dL_law_477 : decode cL_law 477 = .ok (.iadd, 1) := by decide +kernel
theorem dL_law_478 : decode cL_law 478 = .ok (.iaload, 1) := by decide +kernel
theorem dL_law_479 : decode cL_law 479 = .ok (.invokevirtual 84, 3) := by decide +kernel
theorem dL_law_482 : decode cL_law 482 = .ok (.aload_n 2, 1) := by decide +kernel
theorem dL_law_483 : decode cL_law 483 = .ok (.aload_n 0, 1) := by decide +kernel
theorem dL_law_484 : decode cL_law 484 = .ok (.iload_n 3, 1) := by decide +kernel
theorem dL_law_485 : decode cL_law 485 = .ok (.iconst 1, 1) := by decide +kernel
theorem dL_law_486 : decode cL_law 486 = .ok (.iadd, 1) := by decide +kernel
theorem dL_law_487 : decode cL_law 487 = .ok (.iaload, 1) := by decide +kernel
theorem dL_law_488 : decode cL_law 488 = .ok (.invokevirtual 87, 3) := by decide +kernel
theorem dL_law_491 : decode cL_law 491 = .ok (.if_icmp .eq 54, 3) := by decide +kernel
theorem dL_law_494 : decode cL_law 494 = .ok (.iconst 0, 1) := by decide +kernel
theorem dL_law_495 : decode cL_law 495 = .ok (.ireturn, 1) := by decide +kernel
theorem dL_law_496 : decode cL_law 496 = .ok (.aload_n 1, 1) := by decide +kernel
theorem dL_law_497 : decode cL_law 497 = .ok (.aload_n 0, 1) := by decide +kernel
theorem dL_law_498 : decode cL_law 498 = .ok (.iload_n 3, 1) := by decide +kernel
theorem dL_law_499 : decode cL_law 499 = .ok (.iconst 1, 1) := by decide +kernel
theorem dL_law_500 : decode cL_law 500 = .ok (.iadd, 1) := by decide +kernel
theorem dL_law_501 : decode cL_law 501 = .ok (.iaload, 1) := by decide +kernel
theorem dL_law_502 : decode cL_law 502 = .ok (.invokevirtual 88, 3) := by decide +kernel
theorem dL_law_505 : decode cL_law 505 = .ok (.aload_n 2, 1) := by decide +kernel
theorem dL_law_506 : decode cL_law 506 = .ok (.aload_n 0, 1) := by decide +kernel
theorem dL_law_507 : decode cL_law 507 = .ok (.iload_n 3, 1) := by decide +kernel
theorem dL_law_508 : decode cL_law 508 = .ok (.iconst 1, 1) := by decide +kernel
theorem dL_law_509 : decode cL_law 509 = .ok (.iadd, 1) := by decide +kernel
theorem dL_law_510 : decode cL_law 510 = .ok (.iaload, 1) := by decide +kernel
theorem dL_law_511 : decode cL_law 511 = .ok (.invokevirtual 91, 3) := by decide +kernel
theorem dL_law_514 : decode cL_law 514 = .ok (.if_icmp .eq 31, 3) := by decide +kernel
theorem dL_law_517 : decode cL_law 517 = .ok (.iconst 0, 1) := by decide +kernel
theorem dL_law_518 : decode cL_law 518 = .ok (.ireturn, 1) := by decide +kernel
theorem dL_law_519 : decode cL_law 519 = .ok (.aload_n 1, 1) := by decide +kernel
theorem dL_law_520 : decode cL_law 520 = .ok (.invokevirtual 92, 3) := by decide +kernel
theorem dL_law_523 : decode cL_law 523 = .ok (.aload_n 2, 1) := by decide +kernel
theorem dL_law_524 : decode cL_law 524 = .ok (.invokevirtual 95, 3) := by decide +kernel
theorem dL_law_527 : decode cL_law 527 = .ok (.if_icmp .eq 18, 3) := by decide +kernel
theorem dL_law_530 : decode cL_law 530 = .ok (.iconst 0, 1) := by decide +kernel
theorem dL_law_531 : decode cL_law 531 = .ok (.ireturn, 1) := by decide +kernel
theorem dL_law_532 : decode cL_law 532 = .ok (.aload_n 1, 1) := by decide +kernel
theorem dL_law_533 : decode cL_law 533 = .ok (.invokevirtual 96, 3) := by decide +kernel
theorem dL_law_536 : decode cL_law 536 = .ok (.aload_n 2, 1) := by decide +kernel
theorem dL_law_537 : decode cL_law 537 = .ok (.invokevirtual 99, 3) := by decide +kernel
theorem dL_law_540 : decode cL_law 540 = .ok (.if_icmp .eq 5, 3) := by decide +kernel
theorem dL_law_543 : decode cL_law 543 = .ok (.iconst 0, 1) := by decide +kernel
theorem dL_law_544 : decode cL_law 544 = .ok (.ireturn, 1) := by decide +kernel
theorem dL_law_545 : decode cL_law 545 = .ok (.iinc 3 3, 3) := by decide +kernel
theorem dL_law_548 : decode cL_law 548 = .ok (.goto (-530), 3) := by decide +kernel
theorem dL_law_551 : decode cL_law 551 = .ok (.iconst 1, 1) := by decide +kernel
theorem dL_law_552 : decode cL_law 552 = .ok (.ireturn, 1) := by decide +kernel
