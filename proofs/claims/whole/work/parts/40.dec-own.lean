theorem dX0_init_0 : decode cX0_init 0 = .ok (.aload_n 0, 1) := by decide +kernel
theorem dX0_init_1 : decode cX0_init 1 = .ok (.invokespecial 1, 3) := by decide +kernel
theorem dX0_init_4 : decode cX0_init 4 = .ok (.aload_n 0, 1) := by decide +kernel
theorem dX0_init_5 : decode cX0_init 5 = .ok (.iconst 0, 1) := by decide +kernel
theorem dX0_init_6 : decode cX0_init 6 = .ok (.putfield 7, 3) := by decide +kernel
theorem dX0_init_9 : decode cX0_init 9 = .ok (.aload_n 0, 1) := by decide +kernel
theorem dX0_init_10 : decode cX0_init 10 = .ok (.iload_n 1, 1) := by decide +kernel
theorem dX0_init_11 : decode cX0_init 11 = .ok (.putfield 13, 3) := by decide +kernel
theorem dX0_init_14 : decode cX0_init 14 = .ok (.aload_n 0, 1) := by decide +kernel
theorem dX0_init_15 : decode cX0_init 15 = .ok (.aload_n 2, 1) := by decide +kernel
theorem dX0_init_16 : decode cX0_init 16 = .ok (.putfield 16, 3) := by decide +kernel
theorem dX0_init_19 : decode cX0_init 19 = .ok (.aload_n 0, 1) := by decide +kernel
theorem dX0_init_20 : decode cX0_init 20 = .ok (.iload_n 3, 1) := by decide +kernel
theorem dX0_init_21 : decode cX0_init 21 = .ok (.putfield 20, 3) := by decide +kernel
theorem dX0_init_24 : decode cX0_init 24 = .ok (.return_, 1) := by decide +kernel
theorem dX0_rest_0 : decode cX0_rest 0 = .ok (.aload_n 0, 1) := by decide +kernel
theorem dX0_rest_1 : decode cX0_rest 1 = .ok (.getfield 20, 3) := by decide +kernel
theorem dX0_rest_4 : decode cX0_rest 4 = .ok (.aload_n 0, 1) := by decide +kernel
theorem dX0_rest_5 : decode cX0_rest 5 = .ok (.getfield 7, 3) := by decide +kernel
theorem dX0_rest_8 : decode cX0_rest 8 = .ok (.isub, 1) := by decide +kernel
theorem dX0_rest_9 : decode cX0_rest 9 = .ok (.ireturn, 1) := by decide +kernel
theorem dX0_receive_0 : decode cX0_receive 0 = .ok (.aload_n 0, 1) := by decide +kernel
theorem dX0_receive_1 : decode cX0_receive 1 = .ok (.dup, 1) := by decide +kernel
theorem dX0_receive_2 : decode cX0_receive 2 = .ok (.getfield 7, 3) := by decide +kernel
theorem dX0_receive_5 : decode cX0_receive 5 = .ok (.iload_n 1, 1) := by decide +kernel
theorem dX0_receive_6 : decode cX0_receive 6 = .ok (.iadd, 1) := by decide +kernel
theorem dX0_receive_7 : decode cX0_receive 7 = .ok (.putfield 7, 3) := by decide +kernel
theorem dX0_receive_10 : decode cX0_receive 10 = .ok (.return_, 1) := by decide +kernel
theorem dX1_init_0 : decode cX1_init 0 = .ok (.aload_n 0, 1) := by decide +kernel
theorem dX1_init_1 : decode cX1_init 1 = .ok (.invokespecial 3, 3) := by decide +kernel
theorem dX1_init_4 : decode cX1_init 4 = .ok (.aload_n 0, 1) := by decide +kernel
theorem dX1_init_5 : decode cX1_init 5 = .ok (.bipush 6, 2) := by decide +kernel
theorem dX1_init_7 : decode cX1_init 7 = .ok (.newarray .int, 2) := by decide +kernel
theorem dX1_init_9 : decode cX1_init 9 = .ok (.putfield 9, 3) := by decide +kernel
theorem dX1_init_12 : decode cX1_init 12 = .ok (.aload_n 0, 1) := by decide +kernel
theorem dX1_init_13 : decode cX1_init 13 = .ok (.bipush 6, 2) := by decide +kernel
theorem dX1_init_15 : decode cX1_init 15 = .ok (.newarray .int, 2) := by decide +kernel
theorem dX1_init_17 : decode cX1_init 17 = .ok (.putfield 15, 3) := by decide +kernel
theorem dX1_init_20 : decode cX1_init 20 = .ok (.aload_n 0, 1) := by decide +kernel
theorem dX1_init_21 : decode cX1_init 21 = .ok (.bipush 6, 2) := by decide +kernel
theorem dX1_init_23 : decode cX1_init 23 = .ok (.newarray .int, 2) := by decide +kernel
theorem dX1_init_25 : decode cX1_init 25 = .ok (.putfield 18, 3) := by decide +kernel
theorem dX1_init_28 : decode cX1_init 28 = .ok (.aload_n 0, 1) := by decide +kernel
theorem dX1_init_29 : decode cX1_init 29 = .ok (.sipush 2400, 3) := by decide +kernel
theorem dX1_init_32 : decode cX1_init 32 = .ok (.newarray .int, 2) := by decide +kernel
theorem dX1_init_34 : decode cX1_init 34 = .ok (.putfield 21, 3) := by decide +kernel
theorem dX1_init_37 : decode cX1_init 37 = .ok (.aload_n 0, 1) := by decide +kernel
theorem dX1_init_38 : decode cX1_init 38 = .ok (.iconst 1, 1) := by decide +kernel
theorem dX1_init_39 : decode cX1_init 39 = .ok (.putfield 24, 3) := by decide +kernel
theorem dX1_init_42 : decode cX1_init 42 = .ok (.aload_n 0, 1) := by decide +kernel
theorem dX1_init_43 : decode cX1_init 43 = .ok (.iconst 0, 1) := by decide +kernel
theorem dX1_init_44 : decode cX1_init 44 = .ok (.putfield 28, 3) := by decide +kernel
theorem dX1_init_47 : decode cX1_init 47 = .ok (.return_, 1) := by decide +kernel
theorem dX1_howMany_0 : decode cX1_howMany 0 = .ok (.aload_n 0, 1) := by decide +kernel
theorem dX1_howMany_1 : decode cX1_howMany 1 = .ok (.getfield 24, 3) := by decide +kernel
theorem dX1_howMany_4 : decode cX1_howMany 4 = .ok (.ireturn, 1) := by decide +kernel
theorem dX1_givenInAll_0 : decode cX1_givenInAll 0 = .ok (.aload_n 0, 1) := by decide +kernel
theorem dX1_givenInAll_1 : decode cX1_givenInAll 1 = .ok (.getfield 28, 3) := by decide +kernel
theorem dX1_givenInAll_4 : decode cX1_givenInAll 4 = .ok (.ireturn, 1) := by decide +kernel
theorem dX1_has_0 : decode cX1_has 0 = .ok (.iload_n 1, 1) := by decide +kernel
theorem dX1_has_1 : decode cX1_has 1 = .ok (.ifCond .lt 15, 3) := by decide +kernel
theorem dX1_has_4 : decode cX1_has 4 = .ok (.iload_n 1, 1) := by decide +kernel
theorem dX1_has_5 : decode cX1_has 5 = .ok (.aload_n 0, 1) := by decide +kernel
theorem dX1_has_6 : decode cX1_has 6 = .ok (.getfield 24, 3) := by decide +kernel
theorem dX1_has_9 : decode cX1_has 9 = .ok (.if_icmp .ge 7, 3) := by decide +kernel
theorem dX1_has_12 : decode cX1_has 12 = .ok (.iconst 1, 1) := by decide +kernel
theorem dX1_has_13 : decode cX1_has 13 = .ok (.goto 4, 3) := by decide +kernel
theorem dX1_has_16 : decode cX1_has 16 = .ok (.iconst 0, 1) := by decide +kernel
theorem dX1_has_17 : decode cX1_has 17 = .ok (.ireturn, 1) := by decide +kernel
theorem dX1_penceNow_0 : decode cX1_penceNow 0 = .ok (.aload_n 0, 1) := by decide +kernel
theorem dX1_penceNow_1 : decode cX1_penceNow 1 = .ok (.getfield 9, 3) := by decide +kernel
theorem dX1_penceNow_4 : decode cX1_penceNow 4 = .ok (.iload_n 1, 1) := by decide +kernel
theorem dX1_penceNow_5 : decode cX1_penceNow 5 = .ok (.iaload, 1) := by decide +kernel
theorem dX1_penceNow_6 : decode cX1_penceNow 6 = .ok (.ireturn, 1) := by decide +kernel
theorem dX1_penceAtEnd_0 : decode cX1_penceAtEnd 0 = .ok (.iload_n 2, 1) := by decide +kernel
theorem dX1_penceAtEnd_1 : decode cX1_penceAtEnd 1 = .ok (.aload_n 0, 1) := by decide +kernel
theorem dX1_penceAtEnd_2 : decode cX1_penceAtEnd 2 = .ok (.getfield 18, 3) := by decide +kernel
theorem dX1_penceAtEnd_5 : decode cX1_penceAtEnd 5 = .ok (.iload_n 1, 1) := by decide +kernel
theorem dX1_penceAtEnd_6 : decode cX1_penceAtEnd 6 = .ok (.iaload, 1) := by decide +kernel
theorem dX1_penceAtEnd_7 : decode cX1_penceAtEnd 7 = .ok (.if_icmp .ge 7, 3) := by decide +kernel
theorem dX1_penceAtEnd_10 : decode cX1_penceAtEnd 10 = .ok (.iconst (-1), 1) := by decide +kernel
theorem dX1_penceAtEnd_11 : decode cX1_penceAtEnd 11 = .ok (.goto 14, 3) := by decide +kernel
theorem dX1_penceAtEnd_14 : decode cX1_penceAtEnd 14 = .ok (.aload_n 0, 1) := by decide +kernel
theorem dX1_penceAtEnd_15 : decode cX1_penceAtEnd 15 = .ok (.getfield 21, 3) := by decide +kernel
theorem dX1_penceAtEnd_18 : decode cX1_penceAtEnd 18 = .ok (.iload_n 2, 1) := by decide +kernel
theorem dX1_penceAtEnd_19 : decode cX1_penceAtEnd 19 = .ok (.bipush 6, 2) := by decide +kernel
theorem dX1_penceAtEnd_21 : decode cX1_penceAtEnd 21 = .ok (.imul, 1) := by decide +kernel
theorem dX1_penceAtEnd_22 : decode cX1_penceAtEnd 22 = .ok (.iload_n 1, 1) := by decide +kernel
theorem dX1_penceAtEnd_23 : decode cX1_penceAtEnd 23 = .ok (.iadd, 1) := by decide +kernel
theorem dX1_penceAtEnd_24 : decode cX1_penceAtEnd 24 = .ok (.iaload, 1) := by decide +kernel
theorem dX1_penceAtEnd_25 : decode cX1_penceAtEnd 25 = .ok (.ireturn, 1) := by decide +kernel
theorem dX1_writeDown_0 : decode cX1_writeDown 0 = .ok (.iconst 0, 1) := by decide +kernel
theorem dX1_writeDown_1 : decode cX1_writeDown 1 = .ok (.istore_n 2, 1) := by decide +kernel
theorem dX1_writeDown_2 : decode cX1_writeDown 2 = .ok (.iload_n 2, 1) := by decide +kernel
theorem dX1_writeDown_3 : decode cX1_writeDown 3 = .ok (.aload_n 0, 1) := by decide +kernel
theorem dX1_writeDown_4 : decode cX1_writeDown 4 = .ok (.getfield 24, 3) := by decide +kernel
theorem dX1_writeDown_7 : decode cX1_writeDown 7 = .ok (.if_icmp .ge 26, 3) := by decide +kernel
theorem dX1_writeDown_10 : decode cX1_writeDown 10 = .ok (.aload_n 0, 1) := by decide +kernel
theorem dX1_writeDown_11 : decode cX1_writeDown 11 = .ok (.getfield 21, 3) := by decide +kernel
theorem dX1_writeDown_14 : decode cX1_writeDown 14 = .ok (.iload_n 1, 1) := by decide +kernel
theorem dX1_writeDown_15 : decode cX1_writeDown 15 = .ok (.bipush 6, 2) := by decide +kernel
theorem dX1_writeDown_17 : decode cX1_writeDown 17 = .ok (.imul, 1) := by decide +kernel
theorem dX1_writeDown_18 : decode cX1_writeDown 18 = .ok (.iload_n 2, 1) := by decide +kernel
theorem dX1_writeDown_19 : decode cX1_writeDown 19 = .ok (.iadd, 1) := by decide +kernel
theorem dX1_writeDown_20 : decode cX1_writeDown 20 = .ok (.aload_n 0, 1) := by decide +kernel
theorem dX1_writeDown_21 : decode cX1_writeDown 21 = .ok (.getfield 9, 3) := by decide +kernel
theorem dX1_writeDown_24 : decode cX1_writeDown 24 = .ok (.iload_n 2, 1) := by decide +kernel
theorem dX1_writeDown_25 : decode cX1_writeDown 25 = .ok (.iaload, 1) := by decide +kernel
theorem dX1_writeDown_26 : decode cX1_writeDown 26 = .ok (.iastore, 1) := by decide +kernel
theorem dX1_writeDown_27 : decode cX1_writeDown 27 = .ok (.iinc 2 1, 3) := by decide +kernel
theorem dX1_writeDown_30 : decode cX1_writeDown 30 = .ok (.goto (-28), 3) := by decide +kernel
theorem dX1_writeDown_33 : decode cX1_writeDown 33 = .ok (.return_, 1) := by decide +kernel
theorem dX1_found_0 : decode cX1_found 0 = .ok (.aload_n 0, 1) := by decide +kernel
theorem dX1_found_1 : decode cX1_found 1 = .ok (.getfield 24, 3) := by decide +kernel
theorem dX1_found_4 : decode cX1_found 4 = .ok (.bipush 6, 2) := by decide +kernel
theorem dX1_found_6 : decode cX1_found 6 = .ok (.if_icmp .lt 5, 3) := by decide +kernel
theorem dX1_found_9 : decode cX1_found 9 = .ok (.iconst (-1), 1) := by decide +kernel
theorem dX1_found_10 : decode cX1_found 10 = .ok (.ireturn, 1) := by decide +kernel
theorem dX1_found_11 : decode cX1_found 11 = .ok (.aload_n 0, 1) := by decide +kernel
theorem dX1_found_12 : decode cX1_found 12 = .ok (.getfield 9, 3) := by decide +kernel
theorem dX1_found_15 : decode cX1_found 15 = .ok (.aload_n 0, 1) := by decide +kernel
theorem dX1_found_16 : decode cX1_found 16 = .ok (.getfield 24, 3) := by decide +kernel
theorem dX1_found_19 : decode cX1_found 19 = .ok (.iload_n 2, 1) := by decide +kernel
theorem dX1_found_20 : decode cX1_found 20 = .ok (.iastore, 1) := by decide +kernel
theorem dX1_found_21 : decode cX1_found 21 = .ok (.aload_n 0, 1) := by decide +kernel
theorem dX1_found_22 : decode cX1_found 22 = .ok (.getfield 15, 3) := by decide +kernel
theorem dX1_found_25 : decode cX1_found 25 = .ok (.aload_n 0, 1) := by decide +kernel
theorem dX1_found_26 : decode cX1_found 26 = .ok (.getfield 24, 3) := by decide +kernel
theorem dX1_found_29 : decode cX1_found 29 = .ok (.iload_n 1, 1) := by decide +kernel
theorem dX1_found_30 : decode cX1_found 30 = .ok (.iastore, 1) := by decide +kernel
theorem dX1_found_31 : decode cX1_found 31 = .ok (.aload_n 0, 1) := by decide +kernel
theorem dX1_found_32 : decode cX1_found 32 = .ok (.getfield 18, 3) := by decide +kernel
theorem dX1_found_35 : decode cX1_found 35 = .ok (.aload_n 0, 1) := by decide +kernel
theorem dX1_found_36 : decode cX1_found 36 = .ok (.getfield 24, 3) := by decide +kernel
theorem dX1_found_39 : decode cX1_found 39 = .ok (.iload_n 3, 1) := by decide +kernel
theorem dX1_found_40 : decode cX1_found 40 = .ok (.iastore, 1) := by decide +kernel
theorem dX1_found_41 : decode cX1_found 41 = .ok (.aload_n 0, 1) := by decide +kernel
theorem dX1_found_42 : decode cX1_found 42 = .ok (.dup, 1) := by decide +kernel
theorem dX1_found_43 : decode cX1_found 43 = .ok (.getfield 28, 3) := by decide +kernel
theorem dX1_found_46 : decode cX1_found 46 = .ok (.iload_n 2, 1) := by decide +kernel
theorem dX1_found_47 : decode cX1_found 47 = .ok (.iadd, 1) := by decide +kernel
theorem dX1_found_48 : decode cX1_found 48 = .ok (.putfield 28, 3) := by decide +kernel
theorem dX1_found_51 : decode cX1_found 51 = .ok (.aload_n 0, 1) := by decide +kernel
theorem dX1_found_52 : decode cX1_found 52 = .ok (.dup, 1) := by decide +kernel
theorem dX1_found_53 : decode cX1_found 53 = .ok (.getfield 24, 3) := by decide +kernel
theorem dX1_found_56 : decode cX1_found 56 = .ok (.iconst 1, 1) := by decide +kernel
theorem dX1_found_57 : decode cX1_found 57 = .ok (.iadd, 1) := by decide +kernel
theorem dX1_found_58 : decode cX1_found 58 = .ok (.putfield 24, 3) := by decide +kernel
theorem dX1_found_61 : decode cX1_found 61 = .ok (.aload_n 0, 1) := by decide +kernel
theorem dX1_found_62 : decode cX1_found 62 = .ok (.getfield 24, 3) := by decide +kernel
theorem dX1_found_65 : decode cX1_found 65 = .ok (.iconst 1, 1) := by decide +kernel
theorem dX1_found_66 : decode cX1_found 66 = .ok (.isub, 1) := by decide +kernel
theorem dX1_found_67 : decode cX1_found 67 = .ok (.ireturn, 1) := by decide +kernel
theorem dX1_give_0 : decode cX1_give 0 = .ok (.aload_n 0, 1) := by decide +kernel
theorem dX1_give_1 : decode cX1_give 1 = .ok (.getfield 9, 3) := by decide +kernel
theorem dX1_give_4 : decode cX1_give 4 = .ok (.iload_n 1, 1) := by decide +kernel
theorem dX1_give_5 : decode cX1_give 5 = .ok (.iaload, 1) := by decide +kernel
theorem dX1_give_6 : decode cX1_give 6 = .ok (.ldc 31, 2) := by decide +kernel
theorem dX1_give_8 : decode cX1_give 8 = .ok (.iload_n 2, 1) := by decide +kernel
theorem dX1_give_9 : decode cX1_give 9 = .ok (.isub, 1) := by decide +kernel
theorem dX1_give_10 : decode cX1_give 10 = .ok (.if_icmp .le 5, 3) := by decide +kernel
theorem dX1_give_13 : decode cX1_give 13 = .ok (.iconst (-1), 1) := by decide +kernel
theorem dX1_give_14 : decode cX1_give 14 = .ok (.ireturn, 1) := by decide +kernel
theorem dX1_give_15 : decode cX1_give 15 = .ok (.aload_n 0, 1) := by decide +kernel
theorem dX1_give_16 : decode cX1_give 16 = .ok (.getfield 9, 3) := by decide +kernel
theorem dX1_give_19 : decode cX1_give 19 = .ok (.iload_n 1, 1) := by decide +kernel
theorem dX1_give_20 : decode cX1_give 20 = .ok (.dup2, 1) := by decide +kernel
theorem dX1_give_21 : decode cX1_give 21 = .ok (.iaload, 1) := by decide +kernel
theorem dX1_give_22 : decode cX1_give 22 = .ok (.iload_n 2, 1) := by decide +kernel
theorem dX1_give_23 : decode cX1_give 23 = .ok (.iadd, 1) := by decide +kernel
theorem dX1_give_24 : decode cX1_give 24 = .ok (.iastore, 1) := by decide +kernel
theorem dX1_give_25 : decode cX1_give 25 = .ok (.aload_n 0, 1) := by decide +kernel
theorem dX1_give_26 : decode cX1_give 26 = .ok (.dup, 1) := by decide +kernel
theorem dX1_give_27 : decode cX1_give 27 = .ok (.getfield 28, 3) := by decide +kernel
theorem dX1_give_30 : decode cX1_give 30 = .ok (.iload_n 2, 1) := by decide +kernel
theorem dX1_give_31 : decode cX1_give 31 = .ok (.iadd, 1) := by decide +kernel
theorem dX1_give_32 : decode cX1_give 32 = .ok (.putfield 28, 3) := by decide +kernel
theorem dX1_give_35 : decode cX1_give 35 = .ok (.aload_n 0, 1) := by decide +kernel
theorem dX1_give_36 : decode cX1_give 36 = .ok (.getfield 9, 3) := by decide +kernel
theorem dX1_give_39 : decode cX1_give 39 = .ok (.iload_n 1, 1) := by decide +kernel
theorem dX1_give_40 : decode cX1_give 40 = .ok (.iaload, 1) := by decide +kernel
theorem dX1_give_41 : decode cX1_give 41 = .ok (.ireturn, 1) := by decide +kernel
theorem dX1_canLend_0 : decode cX1_canLend 0 = .ok (.aload_n 0, 1) := by decide +kernel
theorem dX1_canLend_1 : decode cX1_canLend 1 = .ok (.iload_n 2, 1) := by decide +kernel
theorem dX1_canLend_2 : decode cX1_canLend 2 = .ok (.invokevirtual 32, 3) := by decide +kernel
theorem dX1_canLend_5 : decode cX1_canLend 5 = .ok (.istore_n 3, 1) := by decide +kernel
theorem dX1_canLend_6 : decode cX1_canLend 6 = .ok (.iconst 1, 1) := by decide +kernel
theorem dX1_canLend_7 : decode cX1_canLend 7 = .ok (.istore 4, 2) := by decide +kernel
theorem dX1_canLend_9 : decode cX1_canLend 9 = .ok (.iload 4, 2) := by decide +kernel
theorem dX1_canLend_11 : decode cX1_canLend 11 = .ok (.aload_n 0, 1) := by decide +kernel
theorem dX1_canLend_12 : decode cX1_canLend 12 = .ok (.getfield 24, 3) := by decide +kernel
theorem dX1_canLend_15 : decode cX1_canLend 15 = .ok (.if_icmp .ge 29, 3) := by decide +kernel
theorem dX1_canLend_18 : decode cX1_canLend 18 = .ok (.aload_n 0, 1) := by decide +kernel
theorem dX1_canLend_19 : decode cX1_canLend 19 = .ok (.iload 4, 2) := by decide +kernel
theorem dX1_canLend_21 : decode cX1_canLend 21 = .ok (.iload_n 1, 1) := by decide +kernel
theorem dX1_canLend_22 : decode cX1_canLend 22 = .ok (.invokevirtual 36, 3) := by decide +kernel
theorem dX1_canLend_25 : decode cX1_canLend 25 = .ok (.ifCond .eq 13, 3) := by decide +kernel
theorem dX1_canLend_28 : decode cX1_canLend 28 = .ok (.iload_n 3, 1) := by decide +kernel
theorem dX1_canLend_29 : decode cX1_canLend 29 = .ok (.aload_n 0, 1) := by decide +kernel
theorem dX1_canLend_30 : decode cX1_canLend 30 = .ok (.getfield 9, 3) := by decide +kernel
theorem dX1_canLend_33 : decode cX1_canLend 33 = .ok (.iload 4, 2) := by decide +kernel
theorem dX1_canLend_35 : decode cX1_canLend 35 = .ok (.iaload, 1) := by decide +kernel
theorem dX1_canLend_36 : decode cX1_canLend 36 = .ok (.iadd, 1) := by decide +kernel
theorem dX1_canLend_37 : decode cX1_canLend 37 = .ok (.istore_n 3, 1) := by decide +kernel
theorem dX1_canLend_38 : decode cX1_canLend 38 = .ok (.iinc 4 1, 3) := by decide +kernel
theorem dX1_canLend_41 : decode cX1_canLend 41 = .ok (.goto (-32), 3) := by decide +kernel
theorem dX1_canLend_44 : decode cX1_canLend 44 = .ok (.iload_n 3, 1) := by decide +kernel
theorem dX1_canLend_45 : decode cX1_canLend 45 = .ok (.ireturn, 1) := by decide +kernel
theorem dX1_lendTo_0 : decode cX1_lendTo 0 = .ok (.aload_n 1, 1) := by decide +kernel
theorem dX1_lendTo_1 : decode cX1_lendTo 1 = .ok (.getfield 40, 3) := by decide +kernel
theorem dX1_lendTo_4 : decode cX1_lendTo 4 = .ok (.istore 4, 2) := by decide +kernel
theorem dX1_lendTo_6 : decode cX1_lendTo 6 = .ok (.iconst 1, 1) := by decide +kernel
theorem dX1_lendTo_7 : decode cX1_lendTo 7 = .ok (.istore 5, 2) := by decide +kernel
theorem dX1_lendTo_9 : decode cX1_lendTo 9 = .ok (.iload 5, 2) := by decide +kernel
theorem dX1_lendTo_11 : decode cX1_lendTo 11 = .ok (.aload_n 0, 1) := by decide +kernel
theorem dX1_lendTo_12 : decode cX1_lendTo 12 = .ok (.getfield 24, 3) := by decide +kernel
theorem dX1_lendTo_15 : decode cX1_lendTo 15 = .ok (.if_icmp .ge 43, 3) := by decide +kernel
theorem dX1_lendTo_18 : decode cX1_lendTo 18 = .ok (.aload_n 0, 1) := by decide +kernel
theorem dX1_lendTo_19 : decode cX1_lendTo 19 = .ok (.iload 5, 2) := by decide +kernel
theorem dX1_lendTo_21 : decode cX1_lendTo 21 = .ok (.iload_n 2, 1) := by decide +kernel
theorem dX1_lendTo_22 : decode cX1_lendTo 22 = .ok (.invokevirtual 36, 3) := by decide +kernel
theorem dX1_lendTo_25 : decode cX1_lendTo 25 = .ok (.ifCond .eq 27, 3) := by decide +kernel
theorem dX1_lendTo_28 : decode cX1_lendTo 28 = .ok (.iload 4, 2) := by decide +kernel
theorem dX1_lendTo_30 : decode cX1_lendTo 30 = .ok (.aload_n 0, 1) := by decide +kernel
theorem dX1_lendTo_31 : decode cX1_lendTo 31 = .ok (.aload_n 1, 1) := by decide +kernel
theorem dX1_lendTo_32 : decode cX1_lendTo 32 = .ok (.iload 5, 2) := by decide +kernel
theorem dX1_lendTo_34 : decode cX1_lendTo 34 = .ok (.iload 4, 2) := by decide +kernel
theorem dX1_lendTo_36 : decode cX1_lendTo 36 = .ok (.aload_n 0, 1) := by decide +kernel
theorem dX1_lendTo_37 : decode cX1_lendTo 37 = .ok (.getfield 9, 3) := by decide +kernel
theorem dX1_lendTo_40 : decode cX1_lendTo 40 = .ok (.iload 5, 2) := by decide +kernel
theorem dX1_lendTo_42 : decode cX1_lendTo 42 = .ok (.iaload, 1) := by decide +kernel
theorem dX1_lendTo_43 : decode cX1_lendTo 43 = .ok (.invokestatic 45, 3) := by decide +kernel
theorem dX1_lendTo_46 : decode cX1_lendTo 46 = .ok (.invokevirtual 51, 3) := by decide +kernel
theorem dX1_lendTo_49 : decode cX1_lendTo 49 = .ok (.isub, 1) := by decide +kernel
theorem dX1_lendTo_50 : decode cX1_lendTo 50 = .ok (.istore 4, 2) := by decide +kernel
theorem dX1_lendTo_52 : decode cX1_lendTo 52 = .ok (.iinc 5 1, 3) := by decide +kernel
theorem dX1_lendTo_55 : decode cX1_lendTo 55 = .ok (.goto (-46), 3) := by decide +kernel
theorem dX1_lendTo_58 : decode cX1_lendTo 58 = .ok (.aload_n 0, 1) := by decide +kernel
theorem dX1_lendTo_59 : decode cX1_lendTo 59 = .ok (.aload_n 1, 1) := by decide +kernel
theorem dX1_lendTo_60 : decode cX1_lendTo 60 = .ok (.iconst 0, 1) := by decide +kernel
theorem dX1_lendTo_61 : decode cX1_lendTo 61 = .ok (.iload 4, 2) := by decide +kernel
theorem dX1_lendTo_63 : decode cX1_lendTo 63 = .ok (.aload_n 0, 1) := by decide +kernel
theorem dX1_lendTo_64 : decode cX1_lendTo 64 = .ok (.iload_n 3, 1) := by decide +kernel
theorem dX1_lendTo_65 : decode cX1_lendTo 65 = .ok (.invokevirtual 32, 3) := by decide +kernel
theorem dX1_lendTo_68 : decode cX1_lendTo 68 = .ok (.invokestatic 45, 3) := by decide +kernel
theorem dX1_lendTo_71 : decode cX1_lendTo 71 = .ok (.invokevirtual 51, 3) := by decide +kernel
theorem dX1_lendTo_74 : decode cX1_lendTo 74 = .ok (.pop, 1) := by decide +kernel
theorem dX1_lendTo_75 : decode cX1_lendTo 75 = .ok (.return_, 1) := by decide +kernel
theorem dX1_bringBack_0 : decode cX1_bringBack 0 = .ok (.iload_n 2, 1) := by decide +kernel
theorem dX1_bringBack_1 : decode cX1_bringBack 1 = .ok (.aload_n 0, 1) := by decide +kernel
theorem dX1_bringBack_2 : decode cX1_bringBack 2 = .ok (.aload_n 1, 1) := by decide +kernel
theorem dX1_bringBack_3 : decode cX1_bringBack 3 = .ok (.iconst 0, 1) := by decide +kernel
theorem dX1_bringBack_4 : decode cX1_bringBack 4 = .ok (.iload_n 2, 1) := by decide +kernel
theorem dX1_bringBack_5 : decode cX1_bringBack 5 = .ok (.invokevirtual 55, 3) := by decide +kernel
theorem dX1_bringBack_8 : decode cX1_bringBack 8 = .ok (.isub, 1) := by decide +kernel
theorem dX1_bringBack_9 : decode cX1_bringBack 9 = .ok (.istore_n 3, 1) := by decide +kernel
theorem dX1_bringBack_10 : decode cX1_bringBack 10 = .ok (.iconst 5, 1) := by decide +kernel
theorem dX1_bringBack_11 : decode cX1_bringBack 11 = .ok (.istore 4, 2) := by decide +kernel
theorem dX1_bringBack_13 : decode cX1_bringBack 13 = .ok (.iload 4, 2) := by decide +kernel
theorem dX1_bringBack_15 : decode cX1_bringBack 15 = .ok (.ifCond .le 20, 3) := by decide +kernel
theorem dX1_bringBack_18 : decode cX1_bringBack 18 = .ok (.iload_n 3, 1) := by decide +kernel
theorem dX1_bringBack_19 : decode cX1_bringBack 19 = .ok (.aload_n 0, 1) := by decide +kernel
theorem dX1_bringBack_20 : decode cX1_bringBack 20 = .ok (.aload_n 1, 1) := by decide +kernel
theorem dX1_bringBack_21 : decode cX1_bringBack 21 = .ok (.iload 4, 2) := by decide +kernel
theorem dX1_bringBack_23 : decode cX1_bringBack 23 = .ok (.iload_n 3, 1) := by decide +kernel
theorem dX1_bringBack_24 : decode cX1_bringBack 24 = .ok (.invokevirtual 55, 3) := by decide +kernel
theorem dX1_bringBack_27 : decode cX1_bringBack 27 = .ok (.isub, 1) := by decide +kernel
theorem dX1_bringBack_28 : decode cX1_bringBack 28 = .ok (.istore_n 3, 1) := by decide +kernel
theorem dX1_bringBack_29 : decode cX1_bringBack 29 = .ok (.iinc 4 (-1), 3) := by decide +kernel
theorem dX1_bringBack_32 : decode cX1_bringBack 32 = .ok (.goto (-19), 3) := by decide +kernel
theorem dX1_bringBack_35 : decode cX1_bringBack 35 = .ok (.aload_n 1, 1) := by decide +kernel
theorem dX1_bringBack_36 : decode cX1_bringBack 36 = .ok (.dup, 1) := by decide +kernel
theorem dX1_bringBack_37 : decode cX1_bringBack 37 = .ok (.getfield 58, 3) := by decide +kernel
theorem dX1_bringBack_40 : decode cX1_bringBack 40 = .ok (.iload_n 2, 1) := by decide +kernel
theorem dX1_bringBack_41 : decode cX1_bringBack 41 = .ok (.iadd, 1) := by decide +kernel
theorem dX1_bringBack_42 : decode cX1_bringBack 42 = .ok (.putfield 58, 3) := by decide +kernel
theorem dX1_bringBack_45 : decode cX1_bringBack 45 = .ok (.return_, 1) := by decide +kernel
theorem dX1_addForAll_0 : decode cX1_addForAll 0 = .ok (.aload_n 0, 1) := by decide +kernel
theorem dX1_addForAll_1 : decode cX1_addForAll 1 = .ok (.getfield 9, 3) := by decide +kernel
theorem dX1_addForAll_4 : decode cX1_addForAll 4 = .ok (.iconst 0, 1) := by decide +kernel
theorem dX1_addForAll_5 : decode cX1_addForAll 5 = .ok (.dup2, 1) := by decide +kernel
theorem dX1_addForAll_6 : decode cX1_addForAll 6 = .ok (.iaload, 1) := by decide +kernel
theorem dX1_addForAll_7 : decode cX1_addForAll 7 = .ok (.iload_n 1, 1) := by decide +kernel
theorem dX1_addForAll_8 : decode cX1_addForAll 8 = .ok (.iadd, 1) := by decide +kernel
theorem dX1_addForAll_9 : decode cX1_addForAll 9 = .ok (.iastore, 1) := by decide +kernel
theorem dX1_addForAll_10 : decode cX1_addForAll 10 = .ok (.return_, 1) := by decide +kernel
theorem dX1_isFor_0 : decode cX1_isFor 0 = .ok (.iload_n 2, 1) := by decide +kernel
theorem dX1_isFor_1 : decode cX1_isFor 1 = .ok (.aload_n 0, 1) := by decide +kernel
theorem dX1_isFor_2 : decode cX1_isFor 2 = .ok (.getfield 15, 3) := by decide +kernel
theorem dX1_isFor_5 : decode cX1_isFor 5 = .ok (.iload_n 1, 1) := by decide +kernel
theorem dX1_isFor_6 : decode cX1_isFor 6 = .ok (.iaload, 1) := by decide +kernel
theorem dX1_isFor_7 : decode cX1_isFor 7 = .ok (.ishr, 1) := by decide +kernel
theorem dX1_isFor_8 : decode cX1_isFor 8 = .ok (.iconst 1, 1) := by decide +kernel
theorem dX1_isFor_9 : decode cX1_isFor 9 = .ok (.iand, 1) := by decide +kernel
theorem dX1_isFor_10 : decode cX1_isFor 10 = .ok (.ifCond .eq 7, 3) := by decide +kernel
theorem dX1_isFor_13 : decode cX1_isFor 13 = .ok (.iconst 1, 1) := by decide +kernel
theorem dX1_isFor_14 : decode cX1_isFor 14 = .ok (.goto 4, 3) := by decide +kernel
theorem dX1_isFor_17 : decode cX1_isFor 17 = .ok (.iconst 0, 1) := by decide +kernel
theorem dX1_isFor_18 : decode cX1_isFor 18 = .ok (.ireturn, 1) := by decide +kernel
theorem dX1_aboveKeep_0 : decode cX1_aboveKeep 0 = .ok (.iconst 0, 1) := by decide +kernel
theorem dX1_aboveKeep_1 : decode cX1_aboveKeep 1 = .ok (.aload_n 0, 1) := by decide +kernel
theorem dX1_aboveKeep_2 : decode cX1_aboveKeep 2 = .ok (.getfield 9, 3) := by decide +kernel
theorem dX1_aboveKeep_5 : decode cX1_aboveKeep 5 = .ok (.iconst 0, 1) := by decide +kernel
theorem dX1_aboveKeep_6 : decode cX1_aboveKeep 6 = .ok (.iaload, 1) := by decide +kernel
theorem dX1_aboveKeep_7 : decode cX1_aboveKeep 7 = .ok (.iload_n 1, 1) := by decide +kernel
theorem dX1_aboveKeep_8 : decode cX1_aboveKeep 8 = .ok (.isub, 1) := by decide +kernel
theorem dX1_aboveKeep_9 : decode cX1_aboveKeep 9 = .ok (.invokestatic 61, 3) := by decide +kernel
theorem dX1_aboveKeep_12 : decode cX1_aboveKeep 12 = .ok (.ireturn, 1) := by decide +kernel
theorem dX1_take_0 : decode cX1_take 0 = .ok (.aload_n 0, 1) := by decide +kernel
theorem dX1_take_1 : decode cX1_take 1 = .ok (.getfield 9, 3) := by decide +kernel
theorem dX1_take_4 : decode cX1_take 4 = .ok (.iload_n 2, 1) := by decide +kernel
theorem dX1_take_5 : decode cX1_take 5 = .ok (.dup2, 1) := by decide +kernel
theorem dX1_take_6 : decode cX1_take 6 = .ok (.iaload, 1) := by decide +kernel
theorem dX1_take_7 : decode cX1_take 7 = .ok (.iload_n 3, 1) := by decide +kernel
theorem dX1_take_8 : decode cX1_take 8 = .ok (.isub, 1) := by decide +kernel
theorem dX1_take_9 : decode cX1_take 9 = .ok (.iastore, 1) := by decide +kernel
theorem dX1_take_10 : decode cX1_take 10 = .ok (.aload_n 1, 1) := by decide +kernel
theorem dX1_take_11 : decode cX1_take 11 = .ok (.getfield 64, 3) := by decide +kernel
theorem dX1_take_14 : decode cX1_take 14 = .ok (.iload_n 2, 1) := by decide +kernel
theorem dX1_take_15 : decode cX1_take 15 = .ok (.iload_n 3, 1) := by decide +kernel
theorem dX1_take_16 : decode cX1_take 16 = .ok (.iastore, 1) := by decide +kernel
theorem dX1_take_17 : decode cX1_take 17 = .ok (.aload_n 1, 1) := by decide +kernel
theorem dX1_take_18 : decode cX1_take 18 = .ok (.getfield 67, 3) := by decide +kernel
theorem dX1_take_21 : decode cX1_take 21 = .ok (.iload_n 2, 1) := by decide +kernel
theorem dX1_take_22 : decode cX1_take 22 = .ok (.iload_n 3, 1) := by decide +kernel
theorem dX1_take_23 : decode cX1_take 23 = .ok (.iastore, 1) := by decide +kernel
theorem dX1_take_24 : decode cX1_take 24 = .ok (.iload_n 3, 1) := by decide +kernel
theorem dX1_take_25 : decode cX1_take 25 = .ok (.ireturn, 1) := by decide +kernel
theorem dX1_putBack_0 : decode cX1_putBack 0 = .ok (.iload_n 3, 1) := by decide +kernel
theorem dX1_putBack_1 : decode cX1_putBack 1 = .ok (.aload_n 1, 1) := by decide +kernel
theorem dX1_putBack_2 : decode cX1_putBack 2 = .ok (.getfield 67, 3) := by decide +kernel
theorem dX1_putBack_5 : decode cX1_putBack 5 = .ok (.iload_n 2, 1) := by decide +kernel
theorem dX1_putBack_6 : decode cX1_putBack 6 = .ok (.iaload, 1) := by decide +kernel
theorem dX1_putBack_7 : decode cX1_putBack 7 = .ok (.invokestatic 45, 3) := by decide +kernel
theorem dX1_putBack_10 : decode cX1_putBack 10 = .ok (.istore 4, 2) := by decide +kernel
theorem dX1_putBack_12 : decode cX1_putBack 12 = .ok (.aload_n 1, 1) := by decide +kernel
theorem dX1_putBack_13 : decode cX1_putBack 13 = .ok (.getfield 67, 3) := by decide +kernel
theorem dX1_putBack_16 : decode cX1_putBack 16 = .ok (.iload_n 2, 1) := by decide +kernel
theorem dX1_putBack_17 : decode cX1_putBack 17 = .ok (.dup2, 1) := by decide +kernel
theorem dX1_putBack_18 : decode cX1_putBack 18 = .ok (.iaload, 1) := by decide +kernel
theorem dX1_putBack_19 : decode cX1_putBack 19 = .ok (.iload 4, 2) := by decide +kernel
theorem dX1_putBack_21 : decode cX1_putBack 21 = .ok (.isub, 1) := by decide +kernel
theorem dX1_putBack_22 : decode cX1_putBack 22 = .ok (.iastore, 1) := by decide +kernel
theorem dX1_putBack_23 : decode cX1_putBack 23 = .ok (.aload_n 0, 1) := by decide +kernel
theorem dX1_putBack_24 : decode cX1_putBack 24 = .ok (.getfield 9, 3) := by decide +kernel
theorem dX1_putBack_27 : decode cX1_putBack 27 = .ok (.iload_n 2, 1) := by decide +kernel
theorem dX1_putBack_28 : decode cX1_putBack 28 = .ok (.dup2, 1) := by decide +kernel
theorem dX1_putBack_29 : decode cX1_putBack 29 = .ok (.iaload, 1) := by decide +kernel
theorem dX1_putBack_30 : decode cX1_putBack 30 = .ok (.iload 4, 2) := by decide +kernel
theorem dX1_putBack_32 : decode cX1_putBack 32 = .ok (.iadd, 1) := by decide +kernel
theorem dX1_putBack_33 : decode cX1_putBack 33 = .ok (.iastore, 1) := by decide +kernel
theorem dX1_putBack_34 : decode cX1_putBack 34 = .ok (.iload 4, 2) := by decide +kernel
theorem dX1_putBack_36 : decode cX1_putBack 36 = .ok (.ireturn, 1) := by decide +kernel
theorem dX3_init_0 : decode cX3_init 0 = .ok (.aload_n 0, 1) := by decide +kernel
theorem dX3_init_1 : decode cX3_init 1 = .ok (.invokespecial 3, 3) := by decide +kernel
theorem dX3_init_4 : decode cX3_init 4 = .ok (.aload_n 0, 1) := by decide +kernel
theorem dX3_init_5 : decode cX3_init 5 = .ok (.new 9, 3) := by decide +kernel
theorem dX3_init_8 : decode cX3_init 8 = .ok (.dup, 1) := by decide +kernel
theorem dX3_init_9 : decode cX3_init 9 = .ok (.invokespecial 11, 3) := by decide +kernel
theorem dX3_init_12 : decode cX3_init 12 = .ok (.putfield 12, 3) := by decide +kernel
theorem dX3_init_15 : decode cX3_init 15 = .ok (.aload_n 0, 1) := by decide +kernel
theorem dX3_init_16 : decode cX3_init 16 = .ok (.new 9, 3) := by decide +kernel
theorem dX3_init_19 : decode cX3_init 19 = .ok (.dup, 1) := by decide +kernel
theorem dX3_init_20 : decode cX3_init 20 = .ok (.invokespecial 11, 3) := by decide +kernel
theorem dX3_init_23 : decode cX3_init 23 = .ok (.putfield 18, 3) := by decide +kernel
theorem dX3_init_26 : decode cX3_init 26 = .ok (.aload_n 0, 1) := by decide +kernel
theorem dX3_init_27 : decode cX3_init 27 = .ok (.iconst 0, 1) := by decide +kernel
theorem dX3_init_28 : decode cX3_init 28 = .ok (.putfield 21, 3) := by decide +kernel
theorem dX3_init_31 : decode cX3_init 31 = .ok (.return_, 1) := by decide +kernel
theorem dX3_howManyLoans_0 : decode cX3_howManyLoans 0 = .ok (.aload_n 0, 1) := by decide +kernel
theorem dX3_howManyLoans_1 : decode cX3_howManyLoans 1 = .ok (.getfield 12, 3) := by decide +kernel
theorem dX3_howManyLoans_4 : decode cX3_howManyLoans 4 = .ok (.invokevirtual 25, 3) := by decide +kernel
theorem dX3_howManyLoans_7 : decode cX3_howManyLoans 7 = .ok (.ireturn, 1) := by decide +kernel
theorem dX3_lostPence_0 : decode cX3_lostPence 0 = .ok (.aload_n 0, 1) := by decide +kernel
theorem dX3_lostPence_1 : decode cX3_lostPence 1 = .ok (.getfield 21, 3) := by decide +kernel
theorem dX3_lostPence_4 : decode cX3_lostPence 4 = .ok (.ireturn, 1) := by decide +kernel
theorem dX3_enter_0 : decode cX3_enter 0 = .ok (.aload_n 0, 1) := by decide +kernel
theorem dX3_enter_1 : decode cX3_enter 1 = .ok (.getfield 12, 3) := by decide +kernel
theorem dX3_enter_4 : decode cX3_enter 4 = .ok (.aload_n 1, 1) := by decide +kernel
theorem dX3_enter_5 : decode cX3_enter 5 = .ok (.invokevirtual 29, 3) := by decide +kernel
theorem dX3_enter_8 : decode cX3_enter 8 = .ok (.pop, 1) := by decide +kernel
theorem dX3_enter_9 : decode cX3_enter 9 = .ok (.return_, 1) := by decide +kernel
theorem dX3_loanAt_0 : decode cX3_loanAt 0 = .ok (.iload_n 1, 1) := by decide +kernel
theorem dX3_loanAt_1 : decode cX3_loanAt 1 = .ok (.ifCond .lt 28, 3) := by decide +kernel
theorem dX3_loanAt_4 : decode cX3_loanAt 4 = .ok (.iload_n 1, 1) := by decide +kernel
theorem dX3_loanAt_5 : decode cX3_loanAt 5 = .ok (.aload_n 0, 1) := by decide +kernel
theorem dX3_loanAt_6 : decode cX3_loanAt 6 = .ok (.getfield 12, 3) := by decide +kernel
theorem dX3_loanAt_9 : decode cX3_loanAt 9 = .ok (.invokevirtual 25, 3) := by decide +kernel
theorem dX3_loanAt_12 : decode cX3_loanAt 12 = .ok (.if_icmp .ge 17, 3) := by decide +kernel
theorem dX3_loanAt_15 : decode cX3_loanAt 15 = .ok (.aload_n 0, 1) := by decide +kernel
theorem dX3_loanAt_16 : decode cX3_loanAt 16 = .ok (.getfield 12, 3) := by decide +kernel
theorem dX3_loanAt_19 : decode cX3_loanAt 19 = .ok (.iload_n 1, 1) := by decide +kernel
theorem dX3_loanAt_20 : decode cX3_loanAt 20 = .ok (.invokevirtual 33, 3) := by decide +kernel
theorem dX3_loanAt_23 : decode cX3_loanAt 23 = .ok (.checkcast 37, 3) := by decide +kernel
theorem dX3_loanAt_26 : decode cX3_loanAt 26 = .ok (.goto 4, 3) := by decide +kernel
theorem dX3_loanAt_29 : decode cX3_loanAt 29 = .ok (.aconst_null, 1) := by decide +kernel
theorem dX3_loanAt_30 : decode cX3_loanAt 30 = .ok (.areturn, 1) := by decide +kernel
theorem dX3_howManyOpen_0 : decode cX3_howManyOpen 0 = .ok (.iconst 0, 1) := by decide +kernel
theorem dX3_howManyOpen_1 : decode cX3_howManyOpen 1 = .ok (.istore_n 1, 1) := by decide +kernel
theorem dX3_howManyOpen_2 : decode cX3_howManyOpen 2 = .ok (.iconst 0, 1) := by decide +kernel
theorem dX3_howManyOpen_3 : decode cX3_howManyOpen 3 = .ok (.istore_n 2, 1) := by decide +kernel
theorem dX3_howManyOpen_4 : decode cX3_howManyOpen 4 = .ok (.iload_n 2, 1) := by decide +kernel
theorem dX3_howManyOpen_5 : decode cX3_howManyOpen 5 = .ok (.aload_n 0, 1) := by decide +kernel
theorem dX3_howManyOpen_6 : decode cX3_howManyOpen 6 = .ok (.getfield 12, 3) := by decide +kernel
theorem dX3_howManyOpen_9 : decode cX3_howManyOpen 9 = .ok (.invokevirtual 25, 3) := by decide +kernel
theorem dX3_howManyOpen_12 : decode cX3_howManyOpen 12 = .ok (.if_icmp .ge 29, 3) := by decide +kernel
theorem dX3_howManyOpen_15 : decode cX3_howManyOpen 15 = .ok (.aload_n 0, 1) := by decide +kernel
theorem dX3_howManyOpen_16 : decode cX3_howManyOpen 16 = .ok (.getfield 12, 3) := by decide +kernel
theorem dX3_howManyOpen_19 : decode cX3_howManyOpen 19 = .ok (.iload_n 2, 1) := by decide +kernel
theorem dX3_howManyOpen_20 : decode cX3_howManyOpen 20 = .ok (.invokevirtual 33, 3) := by decide +kernel
theorem dX3_howManyOpen_23 : decode cX3_howManyOpen 23 = .ok (.checkcast 37, 3) := by decide +kernel
theorem dX3_howManyOpen_26 : decode cX3_howManyOpen 26 = .ok (.getfield 39, 3) := by decide +kernel
theorem dX3_howManyOpen_29 : decode cX3_howManyOpen 29 = .ok (.ifCond .ne 6, 3) := by decide +kernel
theorem dX3_howManyOpen_32 : decode cX3_howManyOpen 32 = .ok (.iinc 1 1, 3) := by decide +kernel
theorem dX3_howManyOpen_35 : decode cX3_howManyOpen 35 = .ok (.iinc 2 1, 3) := by decide +kernel
theorem dX3_howManyOpen_38 : decode cX3_howManyOpen 38 = .ok (.goto (-34), 3) := by decide +kernel
theorem dX3_howManyOpen_41 : decode cX3_howManyOpen 41 = .ok (.iload_n 1, 1) := by decide +kernel
theorem dX3_howManyOpen_42 : decode cX3_howManyOpen 42 = .ok (.ireturn, 1) := by decide +kernel
theorem dX3_openLoanOf_0 : decode cX3_openLoanOf 0 = .ok (.iconst 0, 1) := by decide +kernel
theorem dX3_openLoanOf_1 : decode cX3_openLoanOf 1 = .ok (.istore_n 2, 1) := by decide +kernel
theorem dX3_openLoanOf_2 : decode cX3_openLoanOf 2 = .ok (.iload_n 2, 1) := by decide +kernel
theorem dX3_openLoanOf_3 : decode cX3_openLoanOf 3 = .ok (.aload_n 0, 1) := by decide +kernel
theorem dX3_openLoanOf_4 : decode cX3_openLoanOf 4 = .ok (.getfield 12, 3) := by decide +kernel
theorem dX3_openLoanOf_7 : decode cX3_openLoanOf 7 = .ok (.invokevirtual 25, 3) := by decide +kernel
theorem dX3_openLoanOf_10 : decode cX3_openLoanOf 10 = .ok (.if_icmp .ge 39, 3) := by decide +kernel
theorem dX3_openLoanOf_13 : decode cX3_openLoanOf 13 = .ok (.aload_n 0, 1) := by decide +kernel
theorem dX3_openLoanOf_14 : decode cX3_openLoanOf 14 = .ok (.getfield 12, 3) := by decide +kernel
theorem dX3_openLoanOf_17 : decode cX3_openLoanOf 17 = .ok (.iload_n 2, 1) := by decide +kernel
theorem dX3_openLoanOf_18 : decode cX3_openLoanOf 18 = .ok (.invokevirtual 33, 3) := by decide +kernel
theorem dX3_openLoanOf_21 : decode cX3_openLoanOf 21 = .ok (.checkcast 37, 3) := by decide +kernel
theorem dX3_openLoanOf_24 : decode cX3_openLoanOf 24 = .ok (.iload_n 1, 1) := by decide +kernel
theorem dX3_openLoanOf_25 : decode cX3_openLoanOf 25 = .ok (.invokevirtual 42, 3) := by decide +kernel
theorem dX3_openLoanOf_28 : decode cX3_openLoanOf 28 = .ok (.ifCond .eq 15, 3) := by decide +kernel
theorem dX3_openLoanOf_31 : decode cX3_openLoanOf 31 = .ok (.aload_n 0, 1) := by decide +kernel
theorem dX3_openLoanOf_32 : decode cX3_openLoanOf 32 = .ok (.getfield 12, 3) := by decide +kernel
theorem dX3_openLoanOf_35 : decode cX3_openLoanOf 35 = .ok (.iload_n 2, 1) := by decide +kernel
theorem dX3_openLoanOf_36 : decode cX3_openLoanOf 36 = .ok (.invokevirtual 33, 3) := by decide +kernel
theorem dX3_openLoanOf_39 : decode cX3_openLoanOf 39 = .ok (.checkcast 37, 3) := by decide +kernel
theorem dX3_openLoanOf_42 : decode cX3_openLoanOf 42 = .ok (.areturn, 1) := by decide +kernel
theorem dX3_openLoanOf_43 : decode cX3_openLoanOf 43 = .ok (.iinc 2 1, 3) := by decide +kernel
theorem dX3_openLoanOf_46 : decode cX3_openLoanOf 46 = .ok (.goto (-44), 3) := by decide +kernel
theorem dX3_openLoanOf_49 : decode cX3_openLoanOf 49 = .ok (.aconst_null, 1) := by decide +kernel
theorem dX3_openLoanOf_50 : decode cX3_openLoanOf 50 = .ok (.areturn, 1) := by decide +kernel
theorem dX3_calledLoansOf_0 : decode cX3_calledLoansOf 0 = .ok (.iconst 0, 1) := by decide +kernel
theorem dX3_calledLoansOf_1 : decode cX3_calledLoansOf 1 = .ok (.istore_n 2, 1) := by decide +kernel
theorem dX3_calledLoansOf_2 : decode cX3_calledLoansOf 2 = .ok (.iconst 0, 1) := by decide +kernel
theorem dX3_calledLoansOf_3 : decode cX3_calledLoansOf 3 = .ok (.istore_n 3, 1) := by decide +kernel
theorem dX3_calledLoansOf_4 : decode cX3_calledLoansOf 4 = .ok (.iload_n 3, 1) := by decide +kernel
theorem dX3_calledLoansOf_5 : decode cX3_calledLoansOf 5 = .ok (.aload_n 0, 1) := by decide +kernel
theorem dX3_calledLoansOf_6 : decode cX3_calledLoansOf 6 = .ok (.getfield 12, 3) := by decide +kernel
theorem dX3_calledLoansOf_9 : decode cX3_calledLoansOf 9 = .ok (.invokevirtual 25, 3) := by decide +kernel
theorem dX3_calledLoansOf_12 : decode cX3_calledLoansOf 12 = .ok (.if_icmp .ge 48, 3) := by decide +kernel
theorem dX3_calledLoansOf_15 : decode cX3_calledLoansOf 15 = .ok (.aload_n 0, 1) := by decide +kernel
theorem dX3_calledLoansOf_16 : decode cX3_calledLoansOf 16 = .ok (.getfield 12, 3) := by decide +kernel
theorem dX3_calledLoansOf_19 : decode cX3_calledLoansOf 19 = .ok (.iload_n 3, 1) := by decide +kernel
theorem dX3_calledLoansOf_20 : decode cX3_calledLoansOf 20 = .ok (.invokevirtual 33, 3) := by decide +kernel
theorem dX3_calledLoansOf_23 : decode cX3_calledLoansOf 23 = .ok (.checkcast 37, 3) := by decide +kernel
theorem dX3_calledLoansOf_26 : decode cX3_calledLoansOf 26 = .ok (.getfield 46, 3) := by decide +kernel
theorem dX3_calledLoansOf_29 : decode cX3_calledLoansOf 29 = .ok (.iload_n 1, 1) := by decide +kernel
theorem dX3_calledLoansOf_30 : decode cX3_calledLoansOf 30 = .ok (.if_icmp .ne 24, 3) := by decide +kernel
theorem dX3_calledLoansOf_33 : decode cX3_calledLoansOf 33 = .ok (.aload_n 0, 1) := by decide +kernel
theorem dX3_calledLoansOf_34 : decode cX3_calledLoansOf 34 = .ok (.getfield 12, 3) := by decide +kernel
theorem dX3_calledLoansOf_37 : decode cX3_calledLoansOf 37 = .ok (.iload_n 3, 1) := by decide +kernel
theorem dX3_calledLoansOf_38 : decode cX3_calledLoansOf 38 = .ok (.invokevirtual 33, 3) := by decide +kernel
theorem dX3_calledLoansOf_41 : decode cX3_calledLoansOf 41 = .ok (.checkcast 37, 3) := by decide +kernel
theorem dX3_calledLoansOf_44 : decode cX3_calledLoansOf 44 = .ok (.getfield 39, 3) := by decide +kernel
theorem dX3_calledLoansOf_47 : decode cX3_calledLoansOf 47 = .ok (.iconst 2, 1) := by decide +kernel
theorem dX3_calledLoansOf_48 : decode cX3_calledLoansOf 48 = .ok (.if_icmp .ne 6, 3) := by decide +kernel
theorem dX3_calledLoansOf_51 : decode cX3_calledLoansOf 51 = .ok (.iinc 2 1, 3) := by decide +kernel
theorem dX3_calledLoansOf_54 : decode cX3_calledLoansOf 54 = .ok (.iinc 3 1, 3) := by decide +kernel
theorem dX3_calledLoansOf_57 : decode cX3_calledLoansOf 57 = .ok (.goto (-53), 3) := by decide +kernel
theorem dX3_calledLoansOf_60 : decode cX3_calledLoansOf 60 = .ok (.iload_n 2, 1) := by decide +kernel
theorem dX3_calledLoansOf_61 : decode cX3_calledLoansOf 61 = .ok (.ireturn, 1) := by decide +kernel
theorem dX3_standsFor_0 : decode cX3_standsFor 0 = .ok (.iconst 0, 1) := by decide +kernel
theorem dX3_standsFor_1 : decode cX3_standsFor 1 = .ok (.istore_n 2, 1) := by decide +kernel
theorem dX3_standsFor_2 : decode cX3_standsFor 2 = .ok (.iconst 0, 1) := by decide +kernel
theorem dX3_standsFor_3 : decode cX3_standsFor 3 = .ok (.istore_n 3, 1) := by decide +kernel
theorem dX3_standsFor_4 : decode cX3_standsFor 4 = .ok (.iload_n 3, 1) := by decide +kernel
theorem dX3_standsFor_5 : decode cX3_standsFor 5 = .ok (.aload_n 0, 1) := by decide +kernel
theorem dX3_standsFor_6 : decode cX3_standsFor 6 = .ok (.getfield 12, 3) := by decide +kernel
theorem dX3_standsFor_9 : decode cX3_standsFor 9 = .ok (.invokevirtual 25, 3) := by decide +kernel
theorem dX3_standsFor_12 : decode cX3_standsFor 12 = .ok (.if_icmp .ge 30, 3) := by decide +kernel
theorem dX3_standsFor_15 : decode cX3_standsFor 15 = .ok (.aload_n 0, 1) := by decide +kernel
theorem dX3_standsFor_16 : decode cX3_standsFor 16 = .ok (.getfield 12, 3) := by decide +kernel
theorem dX3_standsFor_19 : decode cX3_standsFor 19 = .ok (.iload_n 3, 1) := by decide +kernel
theorem dX3_standsFor_20 : decode cX3_standsFor 20 = .ok (.invokevirtual 33, 3) := by decide +kernel
theorem dX3_standsFor_23 : decode cX3_standsFor 23 = .ok (.checkcast 37, 3) := by decide +kernel
theorem dX3_standsFor_26 : decode cX3_standsFor 26 = .ok (.iload_n 1, 1) := by decide +kernel
theorem dX3_standsFor_27 : decode cX3_standsFor 27 = .ok (.invokevirtual 49, 3) := by decide +kernel
theorem dX3_standsFor_30 : decode cX3_standsFor 30 = .ok (.ifCond .eq 6, 3) := by decide +kernel
theorem dX3_standsFor_33 : decode cX3_standsFor 33 = .ok (.iinc 2 1, 3) := by decide +kernel
theorem dX3_standsFor_36 : decode cX3_standsFor 36 = .ok (.iinc 3 1, 3) := by decide +kernel
theorem dX3_standsFor_39 : decode cX3_standsFor 39 = .ok (.goto (-35), 3) := by decide +kernel
theorem dX3_standsFor_42 : decode cX3_standsFor 42 = .ok (.iload_n 2, 1) := by decide +kernel
theorem dX3_standsFor_43 : decode cX3_standsFor 43 = .ok (.ireturn, 1) := by decide +kernel
theorem dX3_characterOf_0 : decode cX3_characterOf 0 = .ok (.bipush 100, 2) := by decide +kernel
theorem dX3_characterOf_2 : decode cX3_characterOf 2 = .ok (.istore_n 2, 1) := by decide +kernel
theorem dX3_characterOf_3 : decode cX3_characterOf 3 = .ok (.iconst 0, 1) := by decide +kernel
theorem dX3_characterOf_4 : decode cX3_characterOf 4 = .ok (.istore_n 3, 1) := by decide +kernel
theorem dX3_characterOf_5 : decode cX3_characterOf 5 = .ok (.iload_n 3, 1) := by decide +kernel
theorem dX3_characterOf_6 : decode cX3_characterOf 6 = .ok (.aload_n 0, 1) := by decide +kernel
theorem dX3_characterOf_7 : decode cX3_characterOf 7 = .ok (.getfield 12, 3) := by decide +kernel
theorem dX3_characterOf_10 : decode cX3_characterOf 10 = .ok (.invokevirtual 25, 3) := by decide +kernel
theorem dX3_characterOf_13 : decode cX3_characterOf 13 = .ok (.if_icmp .ge 44, 3) := by decide +kernel
theorem dX3_characterOf_16 : decode cX3_characterOf 16 = .ok (.aload_n 0, 1) := by decide +kernel
theorem dX3_characterOf_17 : decode cX3_characterOf 17 = .ok (.getfield 12, 3) := by decide +kernel
theorem dX3_characterOf_20 : decode cX3_characterOf 20 = .ok (.iload_n 3, 1) := by decide +kernel
theorem dX3_characterOf_21 : decode cX3_characterOf 21 = .ok (.invokevirtual 33, 3) := by decide +kernel
theorem dX3_characterOf_24 : decode cX3_characterOf 24 = .ok (.checkcast 37, 3) := by decide +kernel
theorem dX3_characterOf_27 : decode cX3_characterOf 27 = .ok (.getfield 46, 3) := by decide +kernel
theorem dX3_characterOf_30 : decode cX3_characterOf 30 = .ok (.iload_n 1, 1) := by decide +kernel
theorem dX3_characterOf_31 : decode cX3_characterOf 31 = .ok (.if_icmp .ne 20, 3) := by decide +kernel
theorem dX3_characterOf_34 : decode cX3_characterOf 34 = .ok (.iload_n 2, 1) := by decide +kernel
theorem dX3_characterOf_35 : decode cX3_characterOf 35 = .ok (.aload_n 0, 1) := by decide +kernel
theorem dX3_characterOf_36 : decode cX3_characterOf 36 = .ok (.getfield 12, 3) := by decide +kernel
theorem dX3_characterOf_39 : decode cX3_characterOf 39 = .ok (.iload_n 3, 1) := by decide +kernel
theorem dX3_characterOf_40 : decode cX3_characterOf 40 = .ok (.invokevirtual 33, 3) := by decide +kernel
theorem dX3_characterOf_43 : decode cX3_characterOf 43 = .ok (.checkcast 37, 3) := by decide +kernel
theorem dX3_characterOf_46 : decode cX3_characterOf 46 = .ok (.invokestatic 52, 3) := by decide +kernel
theorem dX3_characterOf_49 : decode cX3_characterOf 49 = .ok (.iadd, 1) := by decide +kernel
theorem dX3_characterOf_50 : decode cX3_characterOf 50 = .ok (.istore_n 2, 1) := by decide +kernel
theorem dX3_characterOf_51 : decode cX3_characterOf 51 = .ok (.iinc 3 1, 3) := by decide +kernel
theorem dX3_characterOf_54 : decode cX3_characterOf 54 = .ok (.goto (-49), 3) := by decide +kernel
theorem dX3_characterOf_57 : decode cX3_characterOf 57 = .ok (.iconst 0, 1) := by decide +kernel
theorem dX3_characterOf_58 : decode cX3_characterOf 58 = .ok (.sipush 200, 3) := by decide +kernel
theorem dX3_characterOf_61 : decode cX3_characterOf 61 = .ok (.iload_n 2, 1) := by decide +kernel
theorem dX3_characterOf_62 : decode cX3_characterOf 62 = .ok (.invokestatic 56, 3) := by decide +kernel
theorem dX3_characterOf_65 : decode cX3_characterOf 65 = .ok (.invokestatic 62, 3) := by decide +kernel
theorem dX3_characterOf_68 : decode cX3_characterOf 68 = .ok (.ireturn, 1) := by decide +kernel
theorem dX3_worthOf_0 : decode cX3_worthOf 0 = .ok (.bipush (-2), 2) := by decide +kernel
theorem dX3_worthOf_2 : decode cX3_worthOf 2 = .ok (.aload_n 0, 1) := by decide +kernel
theorem dX3_worthOf_3 : decode cX3_worthOf 3 = .ok (.getfield 65, 3) := by decide +kernel
theorem dX3_worthOf_6 : decode cX3_worthOf 6 = .ok (.imul, 1) := by decide +kernel
theorem dX3_worthOf_7 : decode cX3_worthOf 7 = .ok (.istore_n 1, 1) := by decide +kernel
theorem dX3_worthOf_8 : decode cX3_worthOf 8 = .ok (.aload_n 0, 1) := by decide +kernel
theorem dX3_worthOf_9 : decode cX3_worthOf 9 = .ok (.getfield 39, 3) := by decide +kernel
theorem dX3_worthOf_12 : decode cX3_worthOf 12 = .ok (.iconst 1, 1) := by decide +kernel
theorem dX3_worthOf_13 : decode cX3_worthOf 13 = .ok (.if_icmp .ne 22, 3) := by decide +kernel
theorem dX3_worthOf_16 : decode cX3_worthOf 16 = .ok (.iload_n 1, 1) := by decide +kernel
theorem dX3_worthOf_17 : decode cX3_worthOf 17 = .ok (.aload_n 0, 1) := by decide +kernel
theorem dX3_worthOf_18 : decode cX3_worthOf 18 = .ok (.getfield 65, 3) := by decide +kernel
theorem dX3_worthOf_21 : decode cX3_worthOf 21 = .ok (.ifCond .ne 8, 3) := by decide +kernel
theorem dX3_worthOf_24 : decode cX3_worthOf 24 = .ok (.bipush 10, 2) := by decide +kernel
theorem dX3_worthOf_26 : decode cX3_worthOf 26 = .ok (.goto 4, 3) := by decide +kernel
theorem dX3_worthOf_29 : decode cX3_worthOf 29 = .ok (.iconst 5, 1) := by decide +kernel
theorem dX3_worthOf_30 : decode cX3_worthOf 30 = .ok (.iadd, 1) := by decide +kernel
theorem dX3_worthOf_31 : decode cX3_worthOf 31 = .ok (.istore_n 1, 1) := by decide +kernel
theorem dX3_worthOf_32 : decode cX3_worthOf 32 = .ok (.goto 14, 3) := by decide +kernel
theorem dX3_worthOf_35 : decode cX3_worthOf 35 = .ok (.aload_n 0, 1) := by decide +kernel
theorem dX3_worthOf_36 : decode cX3_worthOf 36 = .ok (.getfield 39, 3) := by decide +kernel
theorem dX3_worthOf_39 : decode cX3_worthOf 39 = .ok (.iconst 2, 1) := by decide +kernel
theorem dX3_worthOf_40 : decode cX3_worthOf 40 = .ok (.if_icmp .ne 6, 3) := by decide +kernel
theorem dX3_worthOf_43 : decode cX3_worthOf 43 = .ok (.iinc 1 (-30), 3) := by decide +kernel
theorem dX3_worthOf_46 : decode cX3_worthOf 46 = .ok (.iload_n 1, 1) := by decide +kernel
theorem dX3_worthOf_47 : decode cX3_worthOf 47 = .ok (.ireturn, 1) := by decide +kernel
theorem dX3_unpaidCalls_0 : decode cX3_unpaidCalls 0 = .ok (.iconst 0, 1) := by decide +kernel
theorem dX3_unpaidCalls_1 : decode cX3_unpaidCalls 1 = .ok (.istore_n 2, 1) := by decide +kernel
theorem dX3_unpaidCalls_2 : decode cX3_unpaidCalls 2 = .ok (.iconst 0, 1) := by decide +kernel
theorem dX3_unpaidCalls_3 : decode cX3_unpaidCalls 3 = .ok (.istore_n 3, 1) := by decide +kernel
theorem dX3_unpaidCalls_4 : decode cX3_unpaidCalls 4 = .ok (.iload_n 3, 1) := by decide +kernel
theorem dX3_unpaidCalls_5 : decode cX3_unpaidCalls 5 = .ok (.aload_n 0, 1) := by decide +kernel
theorem dX3_unpaidCalls_6 : decode cX3_unpaidCalls 6 = .ok (.getfield 18, 3) := by decide +kernel
theorem dX3_unpaidCalls_9 : decode cX3_unpaidCalls 9 = .ok (.invokevirtual 25, 3) := by decide +kernel
theorem dX3_unpaidCalls_12 : decode cX3_unpaidCalls 12 = .ok (.if_icmp .ge 47, 3) := by decide +kernel
theorem dX3_unpaidCalls_15 : decode cX3_unpaidCalls 15 = .ok (.aload_n 0, 1) := by decide +kernel
theorem dX3_unpaidCalls_16 : decode cX3_unpaidCalls 16 = .ok (.getfield 18, 3) := by decide +kernel
theorem dX3_unpaidCalls_19 : decode cX3_unpaidCalls 19 = .ok (.iload_n 3, 1) := by decide +kernel
theorem dX3_unpaidCalls_20 : decode cX3_unpaidCalls 20 = .ok (.invokevirtual 33, 3) := by decide +kernel
theorem dX3_unpaidCalls_23 : decode cX3_unpaidCalls 23 = .ok (.checkcast 68, 3) := by decide +kernel
theorem dX3_unpaidCalls_26 : decode cX3_unpaidCalls 26 = .ok (.getfield 70, 3) := by decide +kernel
theorem dX3_unpaidCalls_29 : decode cX3_unpaidCalls 29 = .ok (.iload_n 1, 1) := by decide +kernel
theorem dX3_unpaidCalls_30 : decode cX3_unpaidCalls 30 = .ok (.if_icmp .ne 23, 3) := by decide +kernel
theorem dX3_unpaidCalls_33 : decode cX3_unpaidCalls 33 = .ok (.aload_n 0, 1) := by decide +kernel
theorem dX3_unpaidCalls_34 : decode cX3_unpaidCalls 34 = .ok (.getfield 18, 3) := by decide +kernel
theorem dX3_unpaidCalls_37 : decode cX3_unpaidCalls 37 = .ok (.iload_n 3, 1) := by decide +kernel
theorem dX3_unpaidCalls_38 : decode cX3_unpaidCalls 38 = .ok (.invokevirtual 33, 3) := by decide +kernel
theorem dX3_unpaidCalls_41 : decode cX3_unpaidCalls 41 = .ok (.checkcast 68, 3) := by decide +kernel
theorem dX3_unpaidCalls_44 : decode cX3_unpaidCalls 44 = .ok (.invokevirtual 73, 3) := by decide +kernel
theorem dX3_unpaidCalls_47 : decode cX3_unpaidCalls 47 = .ok (.ifCond .le 6, 3) := by decide +kernel
theorem dX3_unpaidCalls_50 : decode cX3_unpaidCalls 50 = .ok (.iinc 2 1, 3) := by decide +kernel
theorem dX3_unpaidCalls_53 : decode cX3_unpaidCalls 53 = .ok (.iinc 3 1, 3) := by decide +kernel
theorem dX3_unpaidCalls_56 : decode cX3_unpaidCalls 56 = .ok (.goto (-52), 3) := by decide +kernel
theorem dX3_unpaidCalls_59 : decode cX3_unpaidCalls 59 = .ok (.iload_n 2, 1) := by decide +kernel
theorem dX3_unpaidCalls_60 : decode cX3_unpaidCalls 60 = .ok (.ireturn, 1) := by decide +kernel
theorem dX3_owedByCalls_0 : decode cX3_owedByCalls 0 = .ok (.iconst 0, 1) := by decide +kernel
theorem dX3_owedByCalls_1 : decode cX3_owedByCalls 1 = .ok (.istore_n 2, 1) := by decide +kernel
theorem dX3_owedByCalls_2 : decode cX3_owedByCalls 2 = .ok (.iconst 0, 1) := by decide +kernel
theorem dX3_owedByCalls_3 : decode cX3_owedByCalls 3 = .ok (.istore_n 3, 1) := by decide +kernel
theorem dX3_owedByCalls_4 : decode cX3_owedByCalls 4 = .ok (.iload_n 3, 1) := by decide +kernel
theorem dX3_owedByCalls_5 : decode cX3_owedByCalls 5 = .ok (.aload_n 0, 1) := by decide +kernel
theorem dX3_owedByCalls_6 : decode cX3_owedByCalls 6 = .ok (.getfield 18, 3) := by decide +kernel
theorem dX3_owedByCalls_9 : decode cX3_owedByCalls 9 = .ok (.invokevirtual 25, 3) := by decide +kernel
theorem dX3_owedByCalls_12 : decode cX3_owedByCalls 12 = .ok (.if_icmp .ge 44, 3) := by decide +kernel
theorem dX3_owedByCalls_15 : decode cX3_owedByCalls 15 = .ok (.aload_n 0, 1) := by decide +kernel
theorem dX3_owedByCalls_16 : decode cX3_owedByCalls 16 = .ok (.getfield 18, 3) := by decide +kernel
theorem dX3_owedByCalls_19 : decode cX3_owedByCalls 19 = .ok (.iload_n 3, 1) := by decide +kernel
theorem dX3_owedByCalls_20 : decode cX3_owedByCalls 20 = .ok (.invokevirtual 33, 3) := by decide +kernel
theorem dX3_owedByCalls_23 : decode cX3_owedByCalls 23 = .ok (.checkcast 68, 3) := by decide +kernel
theorem dX3_owedByCalls_26 : decode cX3_owedByCalls 26 = .ok (.getfield 70, 3) := by decide +kernel
theorem dX3_owedByCalls_29 : decode cX3_owedByCalls 29 = .ok (.iload_n 1, 1) := by decide +kernel
theorem dX3_owedByCalls_30 : decode cX3_owedByCalls 30 = .ok (.if_icmp .ne 20, 3) := by decide +kernel
theorem dX3_owedByCalls_33 : decode cX3_owedByCalls 33 = .ok (.iload_n 2, 1) := by decide +kernel
theorem dX3_owedByCalls_34 : decode cX3_owedByCalls 34 = .ok (.aload_n 0, 1) := by decide +kernel
theorem dX3_owedByCalls_35 : decode cX3_owedByCalls 35 = .ok (.getfield 18, 3) := by decide +kernel
theorem dX3_owedByCalls_38 : decode cX3_owedByCalls 38 = .ok (.iload_n 3, 1) := by decide +kernel
theorem dX3_owedByCalls_39 : decode cX3_owedByCalls 39 = .ok (.invokevirtual 33, 3) := by decide +kernel
theorem dX3_owedByCalls_42 : decode cX3_owedByCalls 42 = .ok (.checkcast 68, 3) := by decide +kernel
theorem dX3_owedByCalls_45 : decode cX3_owedByCalls 45 = .ok (.invokevirtual 73, 3) := by decide +kernel
theorem dX3_owedByCalls_48 : decode cX3_owedByCalls 48 = .ok (.iadd, 1) := by decide +kernel
theorem dX3_owedByCalls_49 : decode cX3_owedByCalls 49 = .ok (.istore_n 2, 1) := by decide +kernel
theorem dX3_owedByCalls_50 : decode cX3_owedByCalls 50 = .ok (.iinc 3 1, 3) := by decide +kernel
theorem dX3_owedByCalls_53 : decode cX3_owedByCalls 53 = .ok (.goto (-49), 3) := by decide +kernel
theorem dX3_owedByCalls_56 : decode cX3_owedByCalls 56 = .ok (.iload_n 2, 1) := by decide +kernel
theorem dX3_owedByCalls_57 : decode cX3_owedByCalls 57 = .ok (.ireturn, 1) := by decide +kernel
theorem dX3_debtOf_0 : decode cX3_debtOf 0 = .ok (.aload_n 0, 1) := by decide +kernel
theorem dX3_debtOf_1 : decode cX3_debtOf 1 = .ok (.iload_n 1, 1) := by decide +kernel
theorem dX3_debtOf_2 : decode cX3_debtOf 2 = .ok (.invokevirtual 76, 3) := by decide +kernel
theorem dX3_debtOf_5 : decode cX3_debtOf 5 = .ok (.astore_n 2, 1) := by decide +kernel
theorem dX3_debtOf_6 : decode cX3_debtOf 6 = .ok (.aload_n 0, 1) := by decide +kernel
theorem dX3_debtOf_7 : decode cX3_debtOf 7 = .ok (.iload_n 1, 1) := by decide +kernel
theorem dX3_debtOf_8 : decode cX3_debtOf 8 = .ok (.invokevirtual 80, 3) := by decide +kernel
theorem dX3_debtOf_11 : decode cX3_debtOf 11 = .ok (.aload_n 2, 1) := by decide +kernel
theorem dX3_debtOf_12 : decode cX3_debtOf 12 = .ok (.ifnonnull 7, 3) := by decide +kernel
theorem dX3_debtOf_15 : decode cX3_debtOf 15 = .ok (.iconst 0, 1) := by decide +kernel
theorem dX3_debtOf_16 : decode cX3_debtOf 16 = .ok (.goto 7, 3) := by decide +kernel
theorem dX3_debtOf_19 : decode cX3_debtOf 19 = .ok (.aload_n 2, 1) := by decide +kernel
theorem dX3_debtOf_20 : decode cX3_debtOf 20 = .ok (.invokevirtual 84, 3) := by decide +kernel
theorem dX3_debtOf_23 : decode cX3_debtOf 23 = .ok (.iadd, 1) := by decide +kernel
theorem dX3_debtOf_24 : decode cX3_debtOf 24 = .ok (.ireturn, 1) := by decide +kernel
theorem dX3_shortestRing_0 : decode cX3_shortestRing 0 = .ok (.lload_n 2, 1) := by decide +kernel
theorem dX3_shortestRing_1 : decode cX3_shortestRing 1 = .ok (.lstore 4, 2) := by decide +kernel
theorem dX3_shortestRing_3 : decode cX3_shortestRing 3 = .ok (.iconst 1, 1) := by decide +kernel
theorem dX3_shortestRing_4 : decode cX3_shortestRing 4 = .ok (.istore 6, 2) := by decide +kernel
theorem dX3_shortestRing_6 : decode cX3_shortestRing 6 = .ok (.iload 6, 2) := by decide +kernel
theorem dX3_shortestRing_8 : decode cX3_shortestRing 8 = .ok (.bipush 40, 2) := by decide +kernel
theorem dX3_shortestRing_10 : decode cX3_shortestRing 10 = .ok (.if_icmp .gt 39, 3) := by decide +kernel
theorem dX3_shortestRing_13 : decode cX3_shortestRing 13 = .ok (.lload 4, 2) := by decide +kernel
theorem dX3_shortestRing_15 : decode cX3_shortestRing 15 = .ok (.lconst 0, 1) := by decide +kernel
theorem dX3_shortestRing_16 : decode cX3_shortestRing 16 = .ok (.lcmp, 1) := by decide +kernel
theorem dX3_shortestRing_17 : decode cX3_shortestRing 17 = .ok (.ifCond .eq 32, 3) := by decide +kernel
theorem dX3_shortestRing_20 : decode cX3_shortestRing 20 = .ok (.lload 4, 2) := by decide +kernel
theorem dX3_shortestRing_22 : decode cX3_shortestRing 22 = .ok (.iload_n 1, 1) := by decide +kernel
theorem dX3_shortestRing_23 : decode cX3_shortestRing 23 = .ok (.invokestatic 85, 3) := by decide +kernel
theorem dX3_shortestRing_26 : decode cX3_shortestRing 26 = .ok (.land, 1) := by decide +kernel
theorem dX3_shortestRing_27 : decode cX3_shortestRing 27 = .ok (.lconst 0, 1) := by decide +kernel
theorem dX3_shortestRing_28 : decode cX3_shortestRing 28 = .ok (.lcmp, 1) := by decide +kernel
theorem dX3_shortestRing_29 : decode cX3_shortestRing 29 = .ok (.ifCond .eq 6, 3) := by decide +kernel
theorem dX3_shortestRing_32 : decode cX3_shortestRing 32 = .ok (.iload 6, 2) := by decide +kernel
theorem dX3_shortestRing_34 : decode cX3_shortestRing 34 = .ok (.ireturn, 1) := by decide +kernel
theorem dX3_shortestRing_35 : decode cX3_shortestRing 35 = .ok (.aload_n 0, 1) := by decide +kernel
theorem dX3_shortestRing_36 : decode cX3_shortestRing 36 = .ok (.lload 4, 2) := by decide +kernel
theorem dX3_shortestRing_38 : decode cX3_shortestRing 38 = .ok (.invokevirtual 89, 3) := by decide +kernel
theorem dX3_shortestRing_41 : decode cX3_shortestRing 41 = .ok (.lstore 4, 2) := by decide +kernel
theorem dX3_shortestRing_43 : decode cX3_shortestRing 43 = .ok (.iinc 6 1, 3) := by decide +kernel
theorem dX3_shortestRing_46 : decode cX3_shortestRing 46 = .ok (.goto (-40), 3) := by decide +kernel
theorem dX3_shortestRing_49 : decode cX3_shortestRing 49 = .ok (.iconst (-1), 1) := by decide +kernel
theorem dX3_shortestRing_50 : decode cX3_shortestRing 50 = .ok (.ireturn, 1) := by decide +kernel
theorem dX3_suretiesOfAll_0 : decode cX3_suretiesOfAll 0 = .ok (.lconst 0, 1) := by decide +kernel
theorem dX3_suretiesOfAll_1 : decode cX3_suretiesOfAll 1 = .ok (.lstore_n 3, 1) := by decide +kernel
theorem dX3_suretiesOfAll_2 : decode cX3_suretiesOfAll 2 = .ok (.iconst 0, 1) := by decide +kernel
theorem dX3_suretiesOfAll_3 : decode cX3_suretiesOfAll 3 = .ok (.istore 5, 2) := by decide +kernel
theorem dX3_suretiesOfAll_5 : decode cX3_suretiesOfAll 5 = .ok (.iload 5, 2) := by decide +kernel
theorem dX3_suretiesOfAll_7 : decode cX3_suretiesOfAll 7 = .ok (.aload_n 0, 1) := by decide +kernel
theorem dX3_suretiesOfAll_8 : decode cX3_suretiesOfAll 8 = .ok (.getfield 12, 3) := by decide +kernel
theorem dX3_suretiesOfAll_11 : decode cX3_suretiesOfAll 11 = .ok (.invokevirtual 25, 3) := by decide +kernel
theorem dX3_suretiesOfAll_14 : decode cX3_suretiesOfAll 14 = .ok (.if_icmp .ge 54, 3) := by decide +kernel
theorem dX3_suretiesOfAll_17 : decode cX3_suretiesOfAll 17 = .ok (.aload_n 0, 1) := by decide +kernel
theorem dX3_suretiesOfAll_18 : decode cX3_suretiesOfAll 18 = .ok (.getfield 12, 3) := by decide +kernel
theorem dX3_suretiesOfAll_21 : decode cX3_suretiesOfAll 21 = .ok (.iload 5, 2) := by decide +kernel
theorem dX3_suretiesOfAll_23 : decode cX3_suretiesOfAll 23 = .ok (.invokevirtual 33, 3) := by decide +kernel
theorem dX3_suretiesOfAll_26 : decode cX3_suretiesOfAll 26 = .ok (.checkcast 37, 3) := by decide +kernel
theorem dX3_suretiesOfAll_29 : decode cX3_suretiesOfAll 29 = .ok (.astore 6, 2) := by decide +kernel
theorem dX3_suretiesOfAll_31 : decode cX3_suretiesOfAll 31 = .ok (.aload 6, 2) := by decide +kernel
theorem dX3_suretiesOfAll_33 : decode cX3_suretiesOfAll 33 = .ok (.getfield 39, 3) := by decide +kernel
theorem dX3_suretiesOfAll_36 : decode cX3_suretiesOfAll 36 = .ok (.ifCond .ne 26, 3) := by decide +kernel
theorem dX3_suretiesOfAll_39 : decode cX3_suretiesOfAll 39 = .ok (.lload_n 1, 1) := by decide +kernel
theorem dX3_suretiesOfAll_40 : decode cX3_suretiesOfAll 40 = .ok (.aload 6, 2) := by decide +kernel
theorem dX3_suretiesOfAll_42 : decode cX3_suretiesOfAll 42 = .ok (.getfield 46, 3) := by decide +kernel
theorem dX3_suretiesOfAll_45 : decode cX3_suretiesOfAll 45 = .ok (.invokestatic 85, 3) := by decide +kernel
theorem dX3_suretiesOfAll_48 : decode cX3_suretiesOfAll 48 = .ok (.land, 1) := by decide +kernel
theorem dX3_suretiesOfAll_49 : decode cX3_suretiesOfAll 49 = .ok (.lconst 0, 1) := by decide +kernel
theorem dX3_suretiesOfAll_50 : decode cX3_suretiesOfAll 50 = .ok (.lcmp, 1) := by decide +kernel
theorem dX3_suretiesOfAll_51 : decode cX3_suretiesOfAll 51 = .ok (.ifCond .eq 11, 3) := by decide +kernel
theorem dX3_suretiesOfAll_54 : decode cX3_suretiesOfAll 54 = .ok (.lload_n 3, 1) := by decide +kernel
theorem dX3_suretiesOfAll_55 : decode cX3_suretiesOfAll 55 = .ok (.aload 6, 2) := by decide +kernel
theorem dX3_suretiesOfAll_57 : decode cX3_suretiesOfAll 57 = .ok (.getfield 93, 3) := by decide +kernel
theorem dX3_suretiesOfAll_60 : decode cX3_suretiesOfAll 60 = .ok (.lor, 1) := by decide +kernel
theorem dX3_suretiesOfAll_61 : decode cX3_suretiesOfAll 61 = .ok (.lstore_n 3, 1) := by decide +kernel
theorem dX3_suretiesOfAll_62 : decode cX3_suretiesOfAll 62 = .ok (.iinc 5 1, 3) := by decide +kernel
theorem dX3_suretiesOfAll_65 : decode cX3_suretiesOfAll 65 = .ok (.goto (-60), 3) := by decide +kernel
theorem dX3_suretiesOfAll_68 : decode cX3_suretiesOfAll 68 = .ok (.lload_n 3, 1) := by decide +kernel
theorem dX3_suretiesOfAll_69 : decode cX3_suretiesOfAll 69 = .ok (.lreturn, 1) := by decide +kernel
theorem dX3_endWeek_0 : decode cX3_endWeek 0 = .ok (.iconst 0, 1) := by decide +kernel
theorem dX3_endWeek_1 : decode cX3_endWeek 1 = .ok (.istore_n 2, 1) := by decide +kernel
theorem dX3_endWeek_2 : decode cX3_endWeek 2 = .ok (.iload_n 2, 1) := by decide +kernel
theorem dX3_endWeek_3 : decode cX3_endWeek 3 = .ok (.aload_n 0, 1) := by decide +kernel
theorem dX3_endWeek_4 : decode cX3_endWeek 4 = .ok (.getfield 12, 3) := by decide +kernel
theorem dX3_endWeek_7 : decode cX3_endWeek 7 = .ok (.invokevirtual 25, 3) := by decide +kernel
theorem dX3_endWeek_10 : decode cX3_endWeek 10 = .ok (.if_icmp .ge 49, 3) := by decide +kernel
theorem dX3_endWeek_13 : decode cX3_endWeek 13 = .ok (.aload_n 0, 1) := by decide +kernel
theorem dX3_endWeek_14 : decode cX3_endWeek 14 = .ok (.getfield 12, 3) := by decide +kernel
theorem dX3_endWeek_17 : decode cX3_endWeek 17 = .ok (.iload_n 2, 1) := by decide +kernel
theorem dX3_endWeek_18 : decode cX3_endWeek 18 = .ok (.invokevirtual 33, 3) := by decide +kernel
theorem dX3_endWeek_21 : decode cX3_endWeek 21 = .ok (.checkcast 37, 3) := by decide +kernel
theorem dX3_endWeek_24 : decode cX3_endWeek 24 = .ok (.astore_n 3, 1) := by decide +kernel
theorem dX3_endWeek_25 : decode cX3_endWeek 25 = .ok (.aload_n 3, 1) := by decide +kernel
theorem dX3_endWeek_26 : decode cX3_endWeek 26 = .ok (.getfield 39, 3) := by decide +kernel
theorem dX3_endWeek_29 : decode cX3_endWeek 29 = .ok (.ifCond .ne 24, 3) := by decide +kernel
theorem dX3_endWeek_32 : decode cX3_endWeek 32 = .ok (.aload_n 3, 1) := by decide +kernel
theorem dX3_endWeek_33 : decode cX3_endWeek 33 = .ok (.getfield 97, 3) := by decide +kernel
theorem dX3_endWeek_36 : decode cX3_endWeek 36 = .ok (.iload_n 1, 1) := by decide +kernel
theorem dX3_endWeek_37 : decode cX3_endWeek 37 = .ok (.if_icmp .ge 16, 3) := by decide +kernel
theorem dX3_endWeek_40 : decode cX3_endWeek 40 = .ok (.aload_n 3, 1) := by decide +kernel
theorem dX3_endWeek_41 : decode cX3_endWeek 41 = .ok (.iload_n 1, 1) := by decide +kernel
theorem dX3_endWeek_42 : decode cX3_endWeek 42 = .ok (.invokevirtual 100, 3) := by decide +kernel
theorem dX3_endWeek_45 : decode cX3_endWeek 45 = .ok (.ifCond .eq 8, 3) := by decide +kernel
theorem dX3_endWeek_48 : decode cX3_endWeek 48 = .ok (.aload_n 0, 1) := by decide +kernel
theorem dX3_endWeek_49 : decode cX3_endWeek 49 = .ok (.aload_n 3, 1) := by decide +kernel
theorem dX3_endWeek_50 : decode cX3_endWeek 50 = .ok (.invokevirtual 103, 3) := by decide +kernel
theorem dX3_endWeek_53 : decode cX3_endWeek 53 = .ok (.iinc 2 1, 3) := by decide +kernel
theorem dX3_endWeek_56 : decode cX3_endWeek 56 = .ok (.goto (-54), 3) := by decide +kernel
theorem dX3_endWeek_59 : decode cX3_endWeek 59 = .ok (.return_, 1) := by decide +kernel
theorem dX3_callIn_0 : decode cX3_callIn 0 = .ok (.aload_n 1, 1) := by decide +kernel
theorem dX3_callIn_1 : decode cX3_callIn 1 = .ok (.iconst 2, 1) := by decide +kernel
theorem dX3_callIn_2 : decode cX3_callIn 2 = .ok (.putfield 39, 3) := by decide +kernel
theorem dX3_callIn_5 : decode cX3_callIn 5 = .ok (.aload_n 1, 1) := by decide +kernel
theorem dX3_callIn_6 : decode cX3_callIn 6 = .ok (.invokevirtual 84, 3) := by decide +kernel
theorem dX3_callIn_9 : decode cX3_callIn 9 = .ok (.istore_n 2, 1) := by decide +kernel
theorem dX3_callIn_10 : decode cX3_callIn 10 = .ok (.aload_n 1, 1) := by decide +kernel
theorem dX3_callIn_11 : decode cX3_callIn 11 = .ok (.getfield 107, 3) := by decide +kernel
theorem dX3_callIn_14 : decode cX3_callIn 14 = .ok (.arraylength, 1) := by decide +kernel
theorem dX3_callIn_15 : decode cX3_callIn 15 = .ok (.istore_n 3, 1) := by decide +kernel
theorem dX3_callIn_16 : decode cX3_callIn 16 = .ok (.iload_n 3, 1) := by decide +kernel
theorem dX3_callIn_17 : decode cX3_callIn 17 = .ok (.ifCond .ne 14, 3) := by decide +kernel
theorem dX3_callIn_20 : decode cX3_callIn 20 = .ok (.aload_n 0, 1) := by decide +kernel
theorem dX3_callIn_21 : decode cX3_callIn 21 = .ok (.dup, 1) := by decide +kernel
theorem dX3_callIn_22 : decode cX3_callIn 22 = .ok (.getfield 21, 3) := by decide +kernel
theorem dX3_callIn_25 : decode cX3_callIn 25 = .ok (.iload_n 2, 1) := by decide +kernel
theorem dX3_callIn_26 : decode cX3_callIn 26 = .ok (.iadd, 1) := by decide +kernel
theorem dX3_callIn_27 : decode cX3_callIn 27 = .ok (.putfield 21, 3) := by decide +kernel
theorem dX3_callIn_30 : decode cX3_callIn 30 = .ok (.return_, 1) := by decide +kernel
theorem dX3_callIn_31 : decode cX3_callIn 31 = .ok (.iconst 0, 1) := by decide +kernel
theorem dX3_callIn_32 : decode cX3_callIn 32 = .ok (.istore 4, 2) := by decide +kernel
theorem dX3_callIn_34 : decode cX3_callIn 34 = .ok (.iload 4, 2) := by decide +kernel
theorem dX3_callIn_36 : decode cX3_callIn 36 = .ok (.iload_n 3, 1) := by decide +kernel
theorem dX3_callIn_37 : decode cX3_callIn 37 = .ok (.if_icmp .ge 58, 3) := by decide +kernel
theorem dX3_callIn_40 : decode cX3_callIn 40 = .ok (.iload_n 2, 1) := by decide +kernel
theorem dX3_callIn_41 : decode cX3_callIn 41 = .ok (.iload_n 3, 1) := by decide +kernel
theorem dX3_callIn_42 : decode cX3_callIn 42 = .ok (.idiv, 1) := by decide +kernel
theorem dX3_callIn_43 : decode cX3_callIn 43 = .ok (.iload 4, 2) := by decide +kernel
theorem dX3_callIn_45 : decode cX3_callIn 45 = .ok (.iload_n 2, 1) := by decide +kernel
theorem dX3_callIn_46 : decode cX3_callIn 46 = .ok (.iload_n 3, 1) := by decide +kernel
theorem dX3_callIn_47 : decode cX3_callIn 47 = .ok (.irem, 1) := by decide +kernel
theorem dX3_callIn_48 : decode cX3_callIn 48 = .ok (.if_icmp .ge 7, 3) := by decide +kernel
theorem dX3_callIn_51 : decode cX3_callIn 51 = .ok (.iconst 1, 1) := by decide +kernel
theorem dX3_callIn_52 : decode cX3_callIn 52 = .ok (.goto 4, 3) := by decide +kernel
theorem dX3_callIn_55 : decode cX3_callIn 55 = .ok (.iconst 0, 1) := by decide +kernel
theorem dX3_callIn_56 : decode cX3_callIn 56 = .ok (.iadd, 1) := by decide +kernel
theorem dX3_callIn_57 : decode cX3_callIn 57 = .ok (.istore 5, 2) := by decide +kernel
theorem dX3_callIn_59 : decode cX3_callIn 59 = .ok (.iload 5, 2) := by decide +kernel
theorem dX3_callIn_61 : decode cX3_callIn 61 = .ok (.ifCond .le 28, 3) := by decide +kernel
theorem dX3_callIn_64 : decode cX3_callIn 64 = .ok (.aload_n 0, 1) := by decide +kernel
theorem dX3_callIn_65 : decode cX3_callIn 65 = .ok (.getfield 18, 3) := by decide +kernel
theorem dX3_callIn_68 : decode cX3_callIn 68 = .ok (.new 68, 3) := by decide +kernel
theorem dX3_callIn_71 : decode cX3_callIn 71 = .ok (.dup, 1) := by decide +kernel
theorem dX3_callIn_72 : decode cX3_callIn 72 = .ok (.aload_n 1, 1) := by decide +kernel
theorem dX3_callIn_73 : decode cX3_callIn 73 = .ok (.getfield 107, 3) := by decide +kernel
theorem dX3_callIn_76 : decode cX3_callIn 76 = .ok (.iload 4, 2) := by decide +kernel
theorem dX3_callIn_78 : decode cX3_callIn 78 = .ok (.iaload, 1) := by decide +kernel
theorem dX3_callIn_79 : decode cX3_callIn 79 = .ok (.aload_n 1, 1) := by decide +kernel
theorem dX3_callIn_80 : decode cX3_callIn 80 = .ok (.iload 5, 2) := by decide +kernel
theorem dX3_callIn_82 : decode cX3_callIn 82 = .ok (.invokespecial 111, 3) := by decide +kernel
theorem dX3_callIn_85 : decode cX3_callIn 85 = .ok (.invokevirtual 29, 3) := by decide +kernel
theorem dX3_callIn_88 : decode cX3_callIn 88 = .ok (.pop, 1) := by decide +kernel
theorem dX3_callIn_89 : decode cX3_callIn 89 = .ok (.iinc 4 1, 3) := by decide +kernel
theorem dX3_callIn_92 : decode cX3_callIn 92 = .ok (.goto (-58), 3) := by decide +kernel
theorem dX3_callIn_95 : decode cX3_callIn 95 = .ok (.return_, 1) := by decide +kernel
theorem dX3_takePayment_0 : decode cX3_takePayment 0 = .ok (.iload_n 2, 1) := by decide +kernel
theorem dX3_takePayment_1 : decode cX3_takePayment 1 = .ok (.istore 4, 2) := by decide +kernel
theorem dX3_takePayment_3 : decode cX3_takePayment 3 = .ok (.iconst 0, 1) := by decide +kernel
theorem dX3_takePayment_4 : decode cX3_takePayment 4 = .ok (.istore 5, 2) := by decide +kernel
theorem dX3_takePayment_6 : decode cX3_takePayment 6 = .ok (.iload 5, 2) := by decide +kernel
theorem dX3_takePayment_8 : decode cX3_takePayment 8 = .ok (.aload_n 0, 1) := by decide +kernel
theorem dX3_takePayment_9 : decode cX3_takePayment 9 = .ok (.getfield 18, 3) := by decide +kernel
theorem dX3_takePayment_12 : decode cX3_takePayment 12 = .ok (.invokevirtual 25, 3) := by decide +kernel
theorem dX3_takePayment_15 : decode cX3_takePayment 15 = .ok (.if_icmp .ge 51, 3) := by decide +kernel
theorem dX3_takePayment_18 : decode cX3_takePayment 18 = .ok (.aload_n 0, 1) := by decide +kernel
theorem dX3_takePayment_19 : decode cX3_takePayment 19 = .ok (.getfield 18, 3) := by decide +kernel
theorem dX3_takePayment_22 : decode cX3_takePayment 22 = .ok (.iload 5, 2) := by decide +kernel
theorem dX3_takePayment_24 : decode cX3_takePayment 24 = .ok (.invokevirtual 33, 3) := by decide +kernel
theorem dX3_takePayment_27 : decode cX3_takePayment 27 = .ok (.checkcast 68, 3) := by decide +kernel
theorem dX3_takePayment_30 : decode cX3_takePayment 30 = .ok (.getfield 70, 3) := by decide +kernel
theorem dX3_takePayment_33 : decode cX3_takePayment 33 = .ok (.iload_n 1, 1) := by decide +kernel
theorem dX3_takePayment_34 : decode cX3_takePayment 34 = .ok (.if_icmp .ne 26, 3) := by decide +kernel
theorem dX3_takePayment_37 : decode cX3_takePayment 37 = .ok (.iload 4, 2) := by decide +kernel
theorem dX3_takePayment_39 : decode cX3_takePayment 39 = .ok (.aload_n 0, 1) := by decide +kernel
theorem dX3_takePayment_40 : decode cX3_takePayment 40 = .ok (.getfield 18, 3) := by decide +kernel
theorem dX3_takePayment_43 : decode cX3_takePayment 43 = .ok (.iload 5, 2) := by decide +kernel
theorem dX3_takePayment_45 : decode cX3_takePayment 45 = .ok (.invokevirtual 33, 3) := by decide +kernel
theorem dX3_takePayment_48 : decode cX3_takePayment 48 = .ok (.checkcast 68, 3) := by decide +kernel
theorem dX3_takePayment_51 : decode cX3_takePayment 51 = .ok (.iload 4, 2) := by decide +kernel
theorem dX3_takePayment_53 : decode cX3_takePayment 53 = .ok (.aload_n 3, 1) := by decide +kernel
theorem dX3_takePayment_54 : decode cX3_takePayment 54 = .ok (.invokestatic 114, 3) := by decide +kernel
theorem dX3_takePayment_57 : decode cX3_takePayment 57 = .ok (.isub, 1) := by decide +kernel
theorem dX3_takePayment_58 : decode cX3_takePayment 58 = .ok (.istore 4, 2) := by decide +kernel
theorem dX3_takePayment_60 : decode cX3_takePayment 60 = .ok (.iinc 5 1, 3) := by decide +kernel
theorem dX3_takePayment_63 : decode cX3_takePayment 63 = .ok (.goto (-57), 3) := by decide +kernel
theorem dX3_takePayment_66 : decode cX3_takePayment 66 = .ok (.aload_n 0, 1) := by decide +kernel
theorem dX3_takePayment_67 : decode cX3_takePayment 67 = .ok (.iload_n 1, 1) := by decide +kernel
theorem dX3_takePayment_68 : decode cX3_takePayment 68 = .ok (.invokevirtual 76, 3) := by decide +kernel
theorem dX3_takePayment_71 : decode cX3_takePayment 71 = .ok (.astore 5, 2) := by decide +kernel
theorem dX3_takePayment_73 : decode cX3_takePayment 73 = .ok (.aload 5, 2) := by decide +kernel
theorem dX3_takePayment_75 : decode cX3_takePayment 75 = .ok (.ifnull 11, 3) := by decide +kernel
theorem dX3_takePayment_78 : decode cX3_takePayment 78 = .ok (.aload 5, 2) := by decide +kernel
theorem dX3_takePayment_80 : decode cX3_takePayment 80 = .ok (.iload 4, 2) := by decide +kernel
theorem dX3_takePayment_82 : decode cX3_takePayment 82 = .ok (.aload_n 3, 1) := by decide +kernel
theorem dX3_takePayment_83 : decode cX3_takePayment 83 = .ok (.invokestatic 118, 3) := by decide +kernel
theorem dX3_takePayment_86 : decode cX3_takePayment 86 = .ok (.return_, 1) := by decide +kernel
theorem dX3_payCall_0 : decode cX3_payCall 0 = .ok (.iload_n 1, 1) := by decide +kernel
theorem dX3_payCall_1 : decode cX3_payCall 1 = .ok (.aload_n 0, 1) := by decide +kernel
theorem dX3_payCall_2 : decode cX3_payCall 2 = .ok (.invokevirtual 73, 3) := by decide +kernel
theorem dX3_payCall_5 : decode cX3_payCall 5 = .ok (.invokestatic 56, 3) := by decide +kernel
theorem dX3_payCall_8 : decode cX3_payCall 8 = .ok (.istore_n 3, 1) := by decide +kernel
theorem dX3_payCall_9 : decode cX3_payCall 9 = .ok (.iload_n 3, 1) := by decide +kernel
theorem dX3_payCall_10 : decode cX3_payCall 10 = .ok (.aload_n 0, 1) := by decide +kernel
theorem dX3_payCall_11 : decode cX3_payCall 11 = .ok (.getfield 122, 3) := by decide +kernel
theorem dX3_payCall_14 : decode cX3_payCall 14 = .ok (.getfield 126, 3) := by decide +kernel
theorem dX3_payCall_17 : decode cX3_payCall 17 = .ok (.aload_n 0, 1) := by decide +kernel
theorem dX3_payCall_18 : decode cX3_payCall 18 = .ok (.getfield 122, 3) := by decide +kernel
theorem dX3_payCall_21 : decode cX3_payCall 21 = .ok (.getfield 129, 3) := by decide +kernel
theorem dX3_payCall_24 : decode cX3_payCall 24 = .ok (.isub, 1) := by decide +kernel
theorem dX3_payCall_25 : decode cX3_payCall 25 = .ok (.invokestatic 56, 3) := by decide +kernel
theorem dX3_payCall_28 : decode cX3_payCall 28 = .ok (.istore 4, 2) := by decide +kernel
theorem dX3_payCall_30 : decode cX3_payCall 30 = .ok (.aload_n 0, 1) := by decide +kernel
theorem dX3_payCall_31 : decode cX3_payCall 31 = .ok (.iload_n 3, 1) := by decide +kernel
theorem dX3_payCall_32 : decode cX3_payCall 32 = .ok (.invokevirtual 132, 3) := by decide +kernel
theorem dX3_payCall_35 : decode cX3_payCall 35 = .ok (.aload_n 2, 1) := by decide +kernel
theorem dX3_payCall_36 : decode cX3_payCall 36 = .ok (.aload_n 0, 1) := by decide +kernel
theorem dX3_payCall_37 : decode cX3_payCall 37 = .ok (.getfield 122, 3) := by decide +kernel
theorem dX3_payCall_40 : decode cX3_payCall 40 = .ok (.iload 4, 2) := by decide +kernel
theorem dX3_payCall_42 : decode cX3_payCall 42 = .ok (.invokevirtual 136, 3) := by decide +kernel
theorem dX3_payCall_45 : decode cX3_payCall 45 = .ok (.aload_n 2, 1) := by decide +kernel
theorem dX3_payCall_46 : decode cX3_payCall 46 = .ok (.iload_n 3, 1) := by decide +kernel
theorem dX3_payCall_47 : decode cX3_payCall 47 = .ok (.iload 4, 2) := by decide +kernel
theorem dX3_payCall_49 : decode cX3_payCall 49 = .ok (.isub, 1) := by decide +kernel
theorem dX3_payCall_50 : decode cX3_payCall 50 = .ok (.invokevirtual 142, 3) := by decide +kernel
theorem dX3_payCall_53 : decode cX3_payCall 53 = .ok (.iload_n 3, 1) := by decide +kernel
theorem dX3_payCall_54 : decode cX3_payCall 54 = .ok (.ireturn, 1) := by decide +kernel
theorem dX3_payLoan_0 : decode cX3_payLoan 0 = .ok (.iload_n 1, 1) := by decide +kernel
theorem dX3_payLoan_1 : decode cX3_payLoan 1 = .ok (.aload_n 0, 1) := by decide +kernel
theorem dX3_payLoan_2 : decode cX3_payLoan 2 = .ok (.getfield 145, 3) := by decide +kernel
theorem dX3_payLoan_5 : decode cX3_payLoan 5 = .ok (.aload_n 0, 1) := by decide +kernel
theorem dX3_payLoan_6 : decode cX3_payLoan 6 = .ok (.getfield 148, 3) := by decide +kernel
theorem dX3_payLoan_9 : decode cX3_payLoan 9 = .ok (.isub, 1) := by decide +kernel
theorem dX3_payLoan_10 : decode cX3_payLoan 10 = .ok (.invokestatic 56, 3) := by decide +kernel
theorem dX3_payLoan_13 : decode cX3_payLoan 13 = .ok (.istore_n 3, 1) := by decide +kernel
theorem dX3_payLoan_14 : decode cX3_payLoan 14 = .ok (.iload_n 1, 1) := by decide +kernel
theorem dX3_payLoan_15 : decode cX3_payLoan 15 = .ok (.iload_n 3, 1) := by decide +kernel
theorem dX3_payLoan_16 : decode cX3_payLoan 16 = .ok (.isub, 1) := by decide +kernel
theorem dX3_payLoan_17 : decode cX3_payLoan 17 = .ok (.aload_n 0, 1) := by decide +kernel
theorem dX3_payLoan_18 : decode cX3_payLoan 18 = .ok (.getfield 126, 3) := by decide +kernel
theorem dX3_payLoan_21 : decode cX3_payLoan 21 = .ok (.aload_n 0, 1) := by decide +kernel
theorem dX3_payLoan_22 : decode cX3_payLoan 22 = .ok (.getfield 151, 3) := by decide +kernel
theorem dX3_payLoan_25 : decode cX3_payLoan 25 = .ok (.isub, 1) := by decide +kernel
theorem dX3_payLoan_26 : decode cX3_payLoan 26 = .ok (.invokestatic 56, 3) := by decide +kernel
theorem dX3_payLoan_29 : decode cX3_payLoan 29 = .ok (.istore 4, 2) := by decide +kernel
theorem dX3_payLoan_31 : decode cX3_payLoan 31 = .ok (.aload_n 0, 1) := by decide +kernel
theorem dX3_payLoan_32 : decode cX3_payLoan 32 = .ok (.dup, 1) := by decide +kernel
theorem dX3_payLoan_33 : decode cX3_payLoan 33 = .ok (.getfield 148, 3) := by decide +kernel
theorem dX3_payLoan_36 : decode cX3_payLoan 36 = .ok (.iload_n 3, 1) := by decide +kernel
theorem dX3_payLoan_37 : decode cX3_payLoan 37 = .ok (.iadd, 1) := by decide +kernel
theorem dX3_payLoan_38 : decode cX3_payLoan 38 = .ok (.putfield 148, 3) := by decide +kernel
theorem dX3_payLoan_41 : decode cX3_payLoan 41 = .ok (.aload_n 2, 1) := by decide +kernel
theorem dX3_payLoan_42 : decode cX3_payLoan 42 = .ok (.iload_n 3, 1) := by decide +kernel
theorem dX3_payLoan_43 : decode cX3_payLoan 43 = .ok (.invokevirtual 142, 3) := by decide +kernel
theorem dX3_payLoan_46 : decode cX3_payLoan 46 = .ok (.aload_n 0, 1) := by decide +kernel
theorem dX3_payLoan_47 : decode cX3_payLoan 47 = .ok (.dup, 1) := by decide +kernel
theorem dX3_payLoan_48 : decode cX3_payLoan 48 = .ok (.getfield 151, 3) := by decide +kernel
theorem dX3_payLoan_51 : decode cX3_payLoan 51 = .ok (.iload 4, 2) := by decide +kernel
theorem dX3_payLoan_53 : decode cX3_payLoan 53 = .ok (.iadd, 1) := by decide +kernel
theorem dX3_payLoan_54 : decode cX3_payLoan 54 = .ok (.putfield 151, 3) := by decide +kernel
theorem dX3_payLoan_57 : decode cX3_payLoan 57 = .ok (.aload_n 2, 1) := by decide +kernel
theorem dX3_payLoan_58 : decode cX3_payLoan 58 = .ok (.aload_n 0, 1) := by decide +kernel
theorem dX3_payLoan_59 : decode cX3_payLoan 59 = .ok (.iload 4, 2) := by decide +kernel
theorem dX3_payLoan_61 : decode cX3_payLoan 61 = .ok (.invokevirtual 136, 3) := by decide +kernel
theorem dX3_payLoan_64 : decode cX3_payLoan 64 = .ok (.aload_n 0, 1) := by decide +kernel
theorem dX3_payLoan_65 : decode cX3_payLoan 65 = .ok (.invokevirtual 84, 3) := by decide +kernel
theorem dX3_payLoan_68 : decode cX3_payLoan 68 = .ok (.ifCond .ne 8, 3) := by decide +kernel
theorem dX3_payLoan_71 : decode cX3_payLoan 71 = .ok (.aload_n 0, 1) := by decide +kernel
theorem dX3_payLoan_72 : decode cX3_payLoan 72 = .ok (.iconst 1, 1) := by decide +kernel
theorem dX3_payLoan_73 : decode cX3_payLoan 73 = .ok (.putfield 39, 3) := by decide +kernel
theorem dX3_payLoan_76 : decode cX3_payLoan 76 = .ok (.return_, 1) := by decide +kernel
theorem dX4_init_0 : decode cX4_init 0 = .ok (.aload_n 0, 1) := by decide +kernel
theorem dX4_init_1 : decode cX4_init 1 = .ok (.invokespecial 3, 3) := by decide +kernel
theorem dX4_init_4 : decode cX4_init 4 = .ok (.aload_n 0, 1) := by decide +kernel
theorem dX4_init_5 : decode cX4_init 5 = .ok (.bipush 6, 2) := by decide +kernel
theorem dX4_init_7 : decode cX4_init 7 = .ok (.newarray .int, 2) := by decide +kernel
theorem dX4_init_9 : decode cX4_init 9 = .ok (.putfield 9, 3) := by decide +kernel
theorem dX4_init_12 : decode cX4_init 12 = .ok (.aload_n 0, 1) := by decide +kernel
theorem dX4_init_13 : decode cX4_init 13 = .ok (.bipush 6, 2) := by decide +kernel
theorem dX4_init_15 : decode cX4_init 15 = .ok (.newarray .int, 2) := by decide +kernel
theorem dX4_init_17 : decode cX4_init 17 = .ok (.putfield 15, 3) := by decide +kernel
theorem dX4_init_20 : decode cX4_init 20 = .ok (.aload_n 0, 1) := by decide +kernel
theorem dX4_init_21 : decode cX4_init 21 = .ok (.iconst 0, 1) := by decide +kernel
theorem dX4_init_22 : decode cX4_init 22 = .ok (.putfield 18, 3) := by decide +kernel
theorem dX4_init_25 : decode cX4_init 25 = .ok (.aload_n 0, 1) := by decide +kernel
theorem dX4_init_26 : decode cX4_init 26 = .ok (.iconst 0, 1) := by decide +kernel
theorem dX4_init_27 : decode cX4_init 27 = .ok (.putfield 22, 3) := by decide +kernel
theorem dX4_init_30 : decode cX4_init 30 = .ok (.aload_n 0, 1) := by decide +kernel
theorem dX4_init_31 : decode cX4_init 31 = .ok (.iconst 0, 1) := by decide +kernel
theorem dX4_init_32 : decode cX4_init 32 = .ok (.putfield 25, 3) := by decide +kernel
theorem dX4_init_35 : decode cX4_init 35 = .ok (.aload_n 0, 1) := by decide +kernel
theorem dX4_init_36 : decode cX4_init 36 = .ok (.iconst 0, 1) := by decide +kernel
theorem dX4_init_37 : decode cX4_init 37 = .ok (.putfield 28, 3) := by decide +kernel
theorem dX4_init_40 : decode cX4_init 40 = .ok (.aload_n 0, 1) := by decide +kernel
theorem dX4_init_41 : decode cX4_init 41 = .ok (.iconst 0, 1) := by decide +kernel
theorem dX4_init_42 : decode cX4_init 42 = .ok (.putfield 31, 3) := by decide +kernel
theorem dX4_init_45 : decode cX4_init 45 = .ok (.aload_n 0, 1) := by decide +kernel
theorem dX4_init_46 : decode cX4_init 46 = .ok (.iconst 0, 1) := by decide +kernel
theorem dX4_init_47 : decode cX4_init 47 = .ok (.putfield 34, 3) := by decide +kernel
theorem dX4_init_50 : decode cX4_init 50 = .ok (.aload_n 0, 1) := by decide +kernel
theorem dX4_init_51 : decode cX4_init 51 = .ok (.iconst 0, 1) := by decide +kernel
theorem dX4_init_52 : decode cX4_init 52 = .ok (.putfield 37, 3) := by decide +kernel
theorem dX4_init_55 : decode cX4_init 55 = .ok (.aload_n 0, 1) := by decide +kernel
theorem dX4_init_56 : decode cX4_init 56 = .ok (.iload_n 1, 1) := by decide +kernel
theorem dX4_init_57 : decode cX4_init 57 = .ok (.putfield 40, 3) := by decide +kernel
theorem dX4_init_60 : decode cX4_init 60 = .ok (.aload_n 0, 1) := by decide +kernel
theorem dX4_init_61 : decode cX4_init 61 = .ok (.iload_n 2, 1) := by decide +kernel
theorem dX4_init_62 : decode cX4_init 62 = .ok (.putfield 43, 3) := by decide +kernel
theorem dX4_init_65 : decode cX4_init 65 = .ok (.aload_n 0, 1) := by decide +kernel
theorem dX4_init_66 : decode cX4_init 66 = .ok (.iload_n 3, 1) := by decide +kernel
theorem dX4_init_67 : decode cX4_init 67 = .ok (.putfield 46, 3) := by decide +kernel
theorem dX4_init_70 : decode cX4_init 70 = .ok (.aload_n 0, 1) := by decide +kernel
theorem dX4_init_71 : decode cX4_init 71 = .ok (.iload 4, 2) := by decide +kernel
theorem dX4_init_73 : decode cX4_init 73 = .ok (.putfield 49, 3) := by decide +kernel
theorem dX4_init_76 : decode cX4_init 76 = .ok (.aload_n 0, 1) := by decide +kernel
theorem dX4_init_77 : decode cX4_init 77 = .ok (.aload 5, 2) := by decide +kernel
theorem dX4_init_79 : decode cX4_init 79 = .ok (.putfield 52, 3) := by decide +kernel
theorem dX4_init_82 : decode cX4_init 82 = .ok (.aload_n 0, 1) := by decide +kernel
theorem dX4_init_83 : decode cX4_init 83 = .ok (.lload 6, 2) := by decide +kernel
theorem dX4_init_85 : decode cX4_init 85 = .ok (.putfield 55, 3) := by decide +kernel
theorem dX4_init_88 : decode cX4_init 88 = .ok (.aload_n 0, 1) := by decide +kernel
theorem dX4_init_89 : decode cX4_init 89 = .ok (.aload 8, 2) := by decide +kernel
theorem dX4_init_91 : decode cX4_init 91 = .ok (.getstatic 59, 3) := by decide +kernel
theorem dX4_init_94 : decode cX4_init 94 = .ok (.invokevirtual 65, 3) := by decide +kernel
theorem dX4_init_97 : decode cX4_init 97 = .ok (.putfield 71, 3) := by decide +kernel
theorem dX4_init_100 : decode cX4_init 100 = .ok (.aload_n 0, 1) := by decide +kernel
theorem dX4_init_101 : decode cX4_init 101 = .ok (.aload 8, 2) := by decide +kernel
theorem dX4_init_103 : decode cX4_init 103 = .ok (.getstatic 74, 3) := by decide +kernel
theorem dX4_init_106 : decode cX4_init 106 = .ok (.invokevirtual 65, 3) := by decide +kernel
theorem dX4_init_109 : decode cX4_init 109 = .ok (.putfield 77, 3) := by decide +kernel
theorem dX4_init_112 : decode cX4_init 112 = .ok (.aload_n 0, 1) := by decide +kernel
theorem dX4_init_113 : decode cX4_init 113 = .ok (.aload 8, 2) := by decide +kernel
theorem dX4_init_115 : decode cX4_init 115 = .ok (.getstatic 80, 3) := by decide +kernel
theorem dX4_init_118 : decode cX4_init 118 = .ok (.invokevirtual 65, 3) := by decide +kernel
theorem dX4_init_121 : decode cX4_init 121 = .ok (.putfield 83, 3) := by decide +kernel
theorem dX4_init_124 : decode cX4_init 124 = .ok (.return_, 1) := by decide +kernel
theorem dX4_isOpenOf_0 : decode cX4_isOpenOf 0 = .ok (.aload_n 0, 1) := by decide +kernel
theorem dX4_isOpenOf_1 : decode cX4_isOpenOf 1 = .ok (.getfield 34, 3) := by decide +kernel
theorem dX4_isOpenOf_4 : decode cX4_isOpenOf 4 = .ok (.ifCond .ne 15, 3) := by decide +kernel
theorem dX4_isOpenOf_7 : decode cX4_isOpenOf 7 = .ok (.aload_n 0, 1) := by decide +kernel
theorem dX4_isOpenOf_8 : decode cX4_isOpenOf 8 = .ok (.getfield 43, 3) := by decide +kernel
theorem dX4_isOpenOf_11 : decode cX4_isOpenOf 11 = .ok (.iload_n 1, 1) := by decide +kernel
theorem dX4_isOpenOf_12 : decode cX4_isOpenOf 12 = .ok (.if_icmp .ne 7, 3) := by decide +kernel
theorem dX4_isOpenOf_15 : decode cX4_isOpenOf 15 = .ok (.iconst 1, 1) := by decide +kernel
theorem dX4_isOpenOf_16 : decode cX4_isOpenOf 16 = .ok (.goto 4, 3) := by decide +kernel
theorem dX4_isOpenOf_19 : decode cX4_isOpenOf 19 = .ok (.iconst 0, 1) := by decide +kernel
theorem dX4_isOpenOf_20 : decode cX4_isOpenOf 20 = .ok (.ireturn, 1) := by decide +kernel
theorem dX4_isOpenWithSurety_0 : decode cX4_isOpenWithSurety 0 = .ok (.aload_n 0, 1) := by decide +kernel
theorem dX4_isOpenWithSurety_1 : decode cX4_isOpenWithSurety 1 = .ok (.getfield 34, 3) := by decide +kernel
theorem dX4_isOpenWithSurety_4 : decode cX4_isOpenWithSurety 4 = .ok (.ifCond .ne 21, 3) := by decide +kernel
theorem dX4_isOpenWithSurety_7 : decode cX4_isOpenWithSurety 7 = .ok (.aload_n 0, 1) := by decide +kernel
theorem dX4_isOpenWithSurety_8 : decode cX4_isOpenWithSurety 8 = .ok (.getfield 55, 3) := by decide +kernel
theorem dX4_isOpenWithSurety_11 : decode cX4_isOpenWithSurety 11 = .ok (.iload_n 1, 1) := by decide +kernel
theorem dX4_isOpenWithSurety_12 : decode cX4_isOpenWithSurety 12 = .ok (.invokestatic 86, 3) := by decide +kernel
theorem dX4_isOpenWithSurety_15 : decode cX4_isOpenWithSurety 15 = .ok (.land, 1) := by decide +kernel
theorem dX4_isOpenWithSurety_16 : decode cX4_isOpenWithSurety 16 = .ok (.lconst 0, 1) := by decide +kernel
theorem dX4_isOpenWithSurety_17 : decode cX4_isOpenWithSurety 17 = .ok (.lcmp, 1) := by decide +kernel
theorem dX4_isOpenWithSurety_18 : decode cX4_isOpenWithSurety 18 = .ok (.ifCond .eq 7, 3) := by decide +kernel
theorem dX4_isOpenWithSurety_21 : decode cX4_isOpenWithSurety 21 = .ok (.iconst 1, 1) := by decide +kernel
theorem dX4_isOpenWithSurety_22 : decode cX4_isOpenWithSurety 22 = .ok (.goto 4, 3) := by decide +kernel
theorem dX4_isOpenWithSurety_25 : decode cX4_isOpenWithSurety 25 = .ok (.iconst 0, 1) := by decide +kernel
theorem dX4_isOpenWithSurety_26 : decode cX4_isOpenWithSurety 26 = .ok (.ireturn, 1) := by decide +kernel
theorem dX4_rest_0 : decode cX4_rest 0 = .ok (.aload_n 0, 1) := by decide +kernel
theorem dX4_rest_1 : decode cX4_rest 1 = .ok (.getfield 46, 3) := by decide +kernel
theorem dX4_rest_4 : decode cX4_rest 4 = .ok (.aload_n 0, 1) := by decide +kernel
theorem dX4_rest_5 : decode cX4_rest 5 = .ok (.getfield 18, 3) := by decide +kernel
theorem dX4_rest_8 : decode cX4_rest 8 = .ok (.isub, 1) := by decide +kernel
theorem dX4_rest_9 : decode cX4_rest 9 = .ok (.aload_n 0, 1) := by decide +kernel
theorem dX4_rest_10 : decode cX4_rest 10 = .ok (.getfield 22, 3) := by decide +kernel
theorem dX4_rest_13 : decode cX4_rest 13 = .ok (.iadd, 1) := by decide +kernel
theorem dX4_rest_14 : decode cX4_rest 14 = .ok (.aload_n 0, 1) := by decide +kernel
theorem dX4_rest_15 : decode cX4_rest 15 = .ok (.getfield 25, 3) := by decide +kernel
theorem dX4_rest_18 : decode cX4_rest 18 = .ok (.isub, 1) := by decide +kernel
theorem dX4_rest_19 : decode cX4_rest 19 = .ok (.ireturn, 1) := by decide +kernel
theorem dX4_dueAtEnd_0 : decode cX4_dueAtEnd 0 = .ok (.iload_n 1, 1) := by decide +kernel
theorem dX4_dueAtEnd_1 : decode cX4_dueAtEnd 1 = .ok (.aload_n 0, 1) := by decide +kernel
theorem dX4_dueAtEnd_2 : decode cX4_dueAtEnd 2 = .ok (.getfield 49, 3) := by decide +kernel
theorem dX4_dueAtEnd_5 : decode cX4_dueAtEnd 5 = .ok (.isub, 1) := by decide +kernel
theorem dX4_dueAtEnd_6 : decode cX4_dueAtEnd 6 = .ok (.aload_n 0, 1) := by decide +kernel
theorem dX4_dueAtEnd_7 : decode cX4_dueAtEnd 7 = .ok (.getfield 71, 3) := by decide +kernel
theorem dX4_dueAtEnd_10 : decode cX4_dueAtEnd 10 = .ok (.invokestatic 90, 3) := by decide +kernel
theorem dX4_dueAtEnd_13 : decode cX4_dueAtEnd 13 = .ok (.istore_n 2, 1) := by decide +kernel
theorem dX4_dueAtEnd_14 : decode cX4_dueAtEnd 14 = .ok (.aload_n 0, 1) := by decide +kernel
theorem dX4_dueAtEnd_15 : decode cX4_dueAtEnd 15 = .ok (.getfield 71, 3) := by decide +kernel
theorem dX4_dueAtEnd_18 : decode cX4_dueAtEnd 18 = .ok (.iconst 1, 1) := by decide +kernel
theorem dX4_dueAtEnd_19 : decode cX4_dueAtEnd 19 = .ok (.if_icmp .ge 10, 3) := by decide +kernel
theorem dX4_dueAtEnd_22 : decode cX4_dueAtEnd 22 = .ok (.aload_n 0, 1) := by decide +kernel
theorem dX4_dueAtEnd_23 : decode cX4_dueAtEnd 23 = .ok (.getfield 46, 3) := by decide +kernel
theorem dX4_dueAtEnd_26 : decode cX4_dueAtEnd 26 = .ok (.goto 21, 3) := by decide +kernel
theorem dX4_dueAtEnd_29 : decode cX4_dueAtEnd 29 = .ok (.aload_n 0, 1) := by decide +kernel
theorem dX4_dueAtEnd_30 : decode cX4_dueAtEnd 30 = .ok (.getfield 46, 3) := by decide +kernel
theorem dX4_dueAtEnd_33 : decode cX4_dueAtEnd 33 = .ok (.iload_n 2, 1) := by decide +kernel
theorem dX4_dueAtEnd_34 : decode cX4_dueAtEnd 34 = .ok (.imul, 1) := by decide +kernel
theorem dX4_dueAtEnd_35 : decode cX4_dueAtEnd 35 = .ok (.aload_n 0, 1) := by decide +kernel
theorem dX4_dueAtEnd_36 : decode cX4_dueAtEnd 36 = .ok (.getfield 71, 3) := by decide +kernel
theorem dX4_dueAtEnd_39 : decode cX4_dueAtEnd 39 = .ok (.iadd, 1) := by decide +kernel
theorem dX4_dueAtEnd_40 : decode cX4_dueAtEnd 40 = .ok (.iconst 1, 1) := by decide +kernel
theorem dX4_dueAtEnd_41 : decode cX4_dueAtEnd 41 = .ok (.isub, 1) := by decide +kernel
theorem dX4_dueAtEnd_42 : decode cX4_dueAtEnd 42 = .ok (.aload_n 0, 1) := by decide +kernel
theorem dX4_dueAtEnd_43 : decode cX4_dueAtEnd 43 = .ok (.getfield 71, 3) := by decide +kernel
theorem dX4_dueAtEnd_46 : decode cX4_dueAtEnd 46 = .ok (.idiv, 1) := by decide +kernel
theorem dX4_dueAtEnd_47 : decode cX4_dueAtEnd 47 = .ok (.ireturn, 1) := by decide +kernel
theorem dX4_isToBeCalledAtEnd_0 : decode cX4_isToBeCalledAtEnd 0 = .ok (.aload_n 0, 1) := by decide +kernel
theorem dX4_isToBeCalledAtEnd_1 : decode cX4_isToBeCalledAtEnd 1 = .ok (.getfield 18, 3) := by decide +kernel
theorem dX4_isToBeCalledAtEnd_4 : decode cX4_isToBeCalledAtEnd 4 = .ok (.aload_n 0, 1) := by decide +kernel
theorem dX4_isToBeCalledAtEnd_5 : decode cX4_isToBeCalledAtEnd 5 = .ok (.iload_n 1, 1) := by decide +kernel
theorem dX4_isToBeCalledAtEnd_6 : decode cX4_isToBeCalledAtEnd 6 = .ok (.invokevirtual 96, 3) := by decide +kernel
theorem dX4_isToBeCalledAtEnd_9 : decode cX4_isToBeCalledAtEnd 9 = .ok (.if_icmp .lt 10, 3) := by decide +kernel
theorem dX4_isToBeCalledAtEnd_12 : decode cX4_isToBeCalledAtEnd 12 = .ok (.aload_n 0, 1) := by decide +kernel
theorem dX4_isToBeCalledAtEnd_13 : decode cX4_isToBeCalledAtEnd 13 = .ok (.iconst 0, 1) := by decide +kernel
theorem dX4_isToBeCalledAtEnd_14 : decode cX4_isToBeCalledAtEnd 14 = .ok (.putfield 31, 3) := by decide +kernel
theorem dX4_isToBeCalledAtEnd_17 : decode cX4_isToBeCalledAtEnd 17 = .ok (.iconst 0, 1) := by decide +kernel
theorem dX4_isToBeCalledAtEnd_18 : decode cX4_isToBeCalledAtEnd 18 = .ok (.ireturn, 1) := by decide +kernel
theorem dX4_isToBeCalledAtEnd_19 : decode cX4_isToBeCalledAtEnd 19 = .ok (.aload_n 0, 1) := by decide +kernel
theorem dX4_isToBeCalledAtEnd_20 : decode cX4_isToBeCalledAtEnd 20 = .ok (.dup, 1) := by decide +kernel
theorem dX4_isToBeCalledAtEnd_21 : decode cX4_isToBeCalledAtEnd 21 = .ok (.getfield 28, 3) := by decide +kernel
theorem dX4_isToBeCalledAtEnd_24 : decode cX4_isToBeCalledAtEnd 24 = .ok (.iconst 1, 1) := by decide +kernel
theorem dX4_isToBeCalledAtEnd_25 : decode cX4_isToBeCalledAtEnd 25 = .ok (.iadd, 1) := by decide +kernel
theorem dX4_isToBeCalledAtEnd_26 : decode cX4_isToBeCalledAtEnd 26 = .ok (.putfield 28, 3) := by decide +kernel
theorem dX4_isToBeCalledAtEnd_29 : decode cX4_isToBeCalledAtEnd 29 = .ok (.aload_n 0, 1) := by decide +kernel
theorem dX4_isToBeCalledAtEnd_30 : decode cX4_isToBeCalledAtEnd 30 = .ok (.dup, 1) := by decide +kernel
theorem dX4_isToBeCalledAtEnd_31 : decode cX4_isToBeCalledAtEnd 31 = .ok (.getfield 31, 3) := by decide +kernel
theorem dX4_isToBeCalledAtEnd_34 : decode cX4_isToBeCalledAtEnd 34 = .ok (.iconst 1, 1) := by decide +kernel
theorem dX4_isToBeCalledAtEnd_35 : decode cX4_isToBeCalledAtEnd 35 = .ok (.iadd, 1) := by decide +kernel
theorem dX4_isToBeCalledAtEnd_36 : decode cX4_isToBeCalledAtEnd 36 = .ok (.putfield 31, 3) := by decide +kernel
theorem dX4_isToBeCalledAtEnd_39 : decode cX4_isToBeCalledAtEnd 39 = .ok (.aload_n 0, 1) := by decide +kernel
theorem dX4_isToBeCalledAtEnd_40 : decode cX4_isToBeCalledAtEnd 40 = .ok (.dup, 1) := by decide +kernel
theorem dX4_isToBeCalledAtEnd_41 : decode cX4_isToBeCalledAtEnd 41 = .ok (.getfield 22, 3) := by decide +kernel
theorem dX4_isToBeCalledAtEnd_44 : decode cX4_isToBeCalledAtEnd 44 = .ok (.aload_n 0, 1) := by decide +kernel
theorem dX4_isToBeCalledAtEnd_45 : decode cX4_isToBeCalledAtEnd 45 = .ok (.getfield 77, 3) := by decide +kernel
theorem dX4_isToBeCalledAtEnd_48 : decode cX4_isToBeCalledAtEnd 48 = .ok (.iadd, 1) := by decide +kernel
theorem dX4_isToBeCalledAtEnd_49 : decode cX4_isToBeCalledAtEnd 49 = .ok (.putfield 22, 3) := by decide +kernel
theorem dX4_isToBeCalledAtEnd_52 : decode cX4_isToBeCalledAtEnd 52 = .ok (.aload_n 0, 1) := by decide +kernel
theorem dX4_isToBeCalledAtEnd_53 : decode cX4_isToBeCalledAtEnd 53 = .ok (.getfield 31, 3) := by decide +kernel
theorem dX4_isToBeCalledAtEnd_56 : decode cX4_isToBeCalledAtEnd 56 = .ok (.aload_n 0, 1) := by decide +kernel
theorem dX4_isToBeCalledAtEnd_57 : decode cX4_isToBeCalledAtEnd 57 = .ok (.getfield 83, 3) := by decide +kernel
theorem dX4_isToBeCalledAtEnd_60 : decode cX4_isToBeCalledAtEnd 60 = .ok (.if_icmp .lt 7, 3) := by decide +kernel
theorem dX4_isToBeCalledAtEnd_63 : decode cX4_isToBeCalledAtEnd 63 = .ok (.iconst 1, 1) := by decide +kernel
theorem dX4_isToBeCalledAtEnd_64 : decode cX4_isToBeCalledAtEnd 64 = .ok (.goto 4, 3) := by decide +kernel
theorem dX4_isToBeCalledAtEnd_67 : decode cX4_isToBeCalledAtEnd 67 = .ok (.iconst 0, 1) := by decide +kernel
theorem dX4_isToBeCalledAtEnd_68 : decode cX4_isToBeCalledAtEnd 68 = .ok (.ireturn, 1) := by decide +kernel
theorem dX5_init_0 : decode cX5_init 0 = .ok (.aload_n 0, 1) := by decide +kernel
theorem dX5_init_1 : decode cX5_init 1 = .ok (.invokespecial 1, 3) := by decide +kernel
theorem dX5_init_4 : decode cX5_init 4 = .ok (.aload_n 0, 1) := by decide +kernel
theorem dX5_init_5 : decode cX5_init 5 = .ok (.getstatic 7, 3) := by decide +kernel
theorem dX5_init_8 : decode cX5_init 8 = .ok (.arraylength, 1) := by decide +kernel
theorem dX5_init_9 : decode cX5_init 9 = .ok (.newarray .int, 2) := by decide +kernel
theorem dX5_init_11 : decode cX5_init 11 = .ok (.putfield 13, 3) := by decide +kernel
theorem dX5_init_14 : decode cX5_init 14 = .ok (.aload_n 0, 1) := by decide +kernel
theorem dX5_init_15 : decode cX5_init 15 = .ok (.getstatic 7, 3) := by decide +kernel
theorem dX5_init_18 : decode cX5_init 18 = .ok (.arraylength, 1) := by decide +kernel
theorem dX5_init_19 : decode cX5_init 19 = .ok (.newarray .boolean, 2) := by decide +kernel
theorem dX5_init_21 : decode cX5_init 21 = .ok (.putfield 19, 3) := by decide +kernel
theorem dX5_init_24 : decode cX5_init 24 = .ok (.aload_n 0, 1) := by decide +kernel
theorem dX5_init_25 : decode cX5_init 25 = .ok (.iconst 0, 1) := by decide +kernel
theorem dX5_init_26 : decode cX5_init 26 = .ok (.putfield 23, 3) := by decide +kernel
theorem dX5_init_29 : decode cX5_init 29 = .ok (.aload_n 0, 1) := by decide +kernel
theorem dX5_init_30 : decode cX5_init 30 = .ok (.iconst 0, 1) := by decide +kernel
theorem dX5_init_31 : decode cX5_init 31 = .ok (.putfield 27, 3) := by decide +kernel
theorem dX5_init_34 : decode cX5_init 34 = .ok (.aload_n 0, 1) := by decide +kernel
theorem dX5_init_35 : decode cX5_init 35 = .ok (.iconst 0, 1) := by decide +kernel
theorem dX5_init_36 : decode cX5_init 36 = .ok (.putfield 30, 3) := by decide +kernel
theorem dX5_init_39 : decode cX5_init 39 = .ok (.aload_n 0, 1) := by decide +kernel
theorem dX5_init_40 : decode cX5_init 40 = .ok (.iconst 0, 1) := by decide +kernel
theorem dX5_init_41 : decode cX5_init 41 = .ok (.putfield 33, 3) := by decide +kernel
theorem dX5_init_44 : decode cX5_init 44 = .ok (.return_, 1) := by decide +kernel
theorem dX5_faultKind_0 : decode cX5_faultKind 0 = .ok (.aload_n 0, 1) := by decide +kernel
theorem dX5_faultKind_1 : decode cX5_faultKind 1 = .ok (.getfield 33, 3) := by decide +kernel
theorem dX5_faultKind_4 : decode cX5_faultKind 4 = .ok (.ireturn, 1) := by decide +kernel
theorem dX5_valueRead_0 : decode cX5_valueRead 0 = .ok (.aload_n 0, 1) := by decide +kernel
theorem dX5_valueRead_1 : decode cX5_valueRead 1 = .ok (.getfield 13, 3) := by decide +kernel
theorem dX5_valueRead_4 : decode cX5_valueRead 4 = .ok (.aload_n 1, 1) := by decide +kernel
theorem dX5_valueRead_5 : decode cX5_valueRead 5 = .ok (.getfield 36, 3) := by decide +kernel
theorem dX5_valueRead_8 : decode cX5_valueRead 8 = .ok (.iaload, 1) := by decide +kernel
theorem dX5_valueRead_9 : decode cX5_valueRead 9 = .ok (.ireturn, 1) := by decide +kernel
theorem dX5_readAll_0 : decode cX5_readAll 0 = .ok (.aload_n 0, 1) := by decide +kernel
theorem dX5_readAll_1 : decode cX5_readAll 1 = .ok (.invokevirtual 41, 3) := by decide +kernel
theorem dX5_readAll_4 : decode cX5_readAll 4 = .ok (.iconst 0, 1) := by decide +kernel
theorem dX5_readAll_5 : decode cX5_readAll 5 = .ok (.istore_n 2, 1) := by decide +kernel
theorem dX5_readAll_6 : decode cX5_readAll 6 = .ok (.iload_n 2, 1) := by decide +kernel
theorem dX5_readAll_7 : decode cX5_readAll 7 = .ok (.getstatic 7, 3) := by decide +kernel
theorem dX5_readAll_10 : decode cX5_readAll 10 = .ok (.arraylength, 1) := by decide +kernel
theorem dX5_readAll_11 : decode cX5_readAll 11 = .ok (.if_icmp .gt 47, 3) := by decide +kernel
theorem dX5_readAll_14 : decode cX5_readAll 14 = .ok (.aload_n 0, 1) := by decide +kernel
theorem dX5_readAll_15 : decode cX5_readAll 15 = .ok (.aload_n 1, 1) := by decide +kernel
theorem dX5_readAll_16 : decode cX5_readAll 16 = .ok (.invokevirtual 44, 3) := by decide +kernel
theorem dX5_readAll_19 : decode cX5_readAll 19 = .ok (.aload_n 0, 1) := by decide +kernel
theorem dX5_readAll_20 : decode cX5_readAll 20 = .ok (.getfield 23, 3) := by decide +kernel
theorem dX5_readAll_23 : decode cX5_readAll 23 = .ok (.iconst 4, 1) := by decide +kernel
theorem dX5_readAll_24 : decode cX5_readAll 24 = .ok (.if_icmp .ne 5, 3) := by decide +kernel
theorem dX5_readAll_27 : decode cX5_readAll 27 = .ok (.iload_n 2, 1) := by decide +kernel
theorem dX5_readAll_28 : decode cX5_readAll 28 = .ok (.ireturn, 1) := by decide +kernel
theorem dX5_readAll_29 : decode cX5_readAll 29 = .ok (.aload_n 0, 1) := by decide +kernel
theorem dX5_readAll_30 : decode cX5_readAll 30 = .ok (.aload_n 0, 1) := by decide +kernel
theorem dX5_readAll_31 : decode cX5_readAll 31 = .ok (.aload_n 1, 1) := by decide +kernel
theorem dX5_readAll_32 : decode cX5_readAll 32 = .ok (.invokevirtual 48, 3) := by decide +kernel
theorem dX5_readAll_35 : decode cX5_readAll 35 = .ok (.putfield 33, 3) := by decide +kernel
theorem dX5_readAll_38 : decode cX5_readAll 38 = .ok (.aload_n 0, 1) := by decide +kernel
theorem dX5_readAll_39 : decode cX5_readAll 39 = .ok (.getfield 33, 3) := by decide +kernel
theorem dX5_readAll_42 : decode cX5_readAll 42 = .ok (.ifCond .eq 10, 3) := by decide +kernel
theorem dX5_readAll_45 : decode cX5_readAll 45 = .ok (.iconst (-1), 1) := by decide +kernel
theorem dX5_readAll_46 : decode cX5_readAll 46 = .ok (.aload_n 0, 1) := by decide +kernel
theorem dX5_readAll_47 : decode cX5_readAll 47 = .ok (.getfield 27, 3) := by decide +kernel
theorem dX5_readAll_50 : decode cX5_readAll 50 = .ok (.isub, 1) := by decide +kernel
theorem dX5_readAll_51 : decode cX5_readAll 51 = .ok (.ireturn, 1) := by decide +kernel
theorem dX5_readAll_52 : decode cX5_readAll 52 = .ok (.iinc 2 1, 3) := by decide +kernel
theorem dX5_readAll_55 : decode cX5_readAll 55 = .ok (.goto (-49), 3) := by decide +kernel
theorem dX5_readAll_58 : decode cX5_readAll 58 = .ok (.iconst (-1), 1) := by decide +kernel
theorem dX5_readAll_59 : decode cX5_readAll 59 = .ok (.aload_n 0, 1) := by decide +kernel
theorem dX5_readAll_60 : decode cX5_readAll 60 = .ok (.getfield 27, 3) := by decide +kernel
theorem dX5_readAll_63 : decode cX5_readAll 63 = .ok (.isub, 1) := by decide +kernel
theorem dX5_readAll_64 : decode cX5_readAll 64 = .ok (.ireturn, 1) := by decide +kernel
theorem dX5_startAgain_0 : decode cX5_startAgain 0 = .ok (.iconst 0, 1) := by decide +kernel
theorem dX5_startAgain_1 : decode cX5_startAgain 1 = .ok (.istore_n 1, 1) := by decide +kernel
theorem dX5_startAgain_2 : decode cX5_startAgain 2 = .ok (.iload_n 1, 1) := by decide +kernel
theorem dX5_startAgain_3 : decode cX5_startAgain 3 = .ok (.getstatic 7, 3) := by decide +kernel
theorem dX5_startAgain_6 : decode cX5_startAgain 6 = .ok (.arraylength, 1) := by decide +kernel
theorem dX5_startAgain_7 : decode cX5_startAgain 7 = .ok (.if_icmp .ge 30, 3) := by decide +kernel
theorem dX5_startAgain_10 : decode cX5_startAgain 10 = .ok (.aload_n 0, 1) := by decide +kernel
theorem dX5_startAgain_11 : decode cX5_startAgain 11 = .ok (.getfield 13, 3) := by decide +kernel
theorem dX5_startAgain_14 : decode cX5_startAgain 14 = .ok (.iload_n 1, 1) := by decide +kernel
theorem dX5_startAgain_15 : decode cX5_startAgain 15 = .ok (.getstatic 7, 3) := by decide +kernel
theorem dX5_startAgain_18 : decode cX5_startAgain 18 = .ok (.iload_n 1, 1) := by decide +kernel
theorem dX5_startAgain_19 : decode cX5_startAgain 19 = .ok (.aaload, 1) := by decide +kernel
theorem dX5_startAgain_20 : decode cX5_startAgain 20 = .ok (.getfield 52, 3) := by decide +kernel
theorem dX5_startAgain_23 : decode cX5_startAgain 23 = .ok (.iastore, 1) := by decide +kernel
theorem dX5_startAgain_24 : decode cX5_startAgain 24 = .ok (.aload_n 0, 1) := by decide +kernel
theorem dX5_startAgain_25 : decode cX5_startAgain 25 = .ok (.getfield 19, 3) := by decide +kernel
theorem dX5_startAgain_28 : decode cX5_startAgain 28 = .ok (.iload_n 1, 1) := by decide +kernel
theorem dX5_startAgain_29 : decode cX5_startAgain 29 = .ok (.iconst 0, 1) := by decide +kernel
theorem dX5_startAgain_30 : decode cX5_startAgain 30 = .ok (.bastore, 1) := by decide +kernel
theorem dX5_startAgain_31 : decode cX5_startAgain 31 = .ok (.iinc 1 1, 3) := by decide +kernel
theorem dX5_startAgain_34 : decode cX5_startAgain 34 = .ok (.goto (-32), 3) := by decide +kernel
theorem dX5_startAgain_37 : decode cX5_startAgain 37 = .ok (.aload_n 0, 1) := by decide +kernel
theorem dX5_startAgain_38 : decode cX5_startAgain 38 = .ok (.iconst 0, 1) := by decide +kernel
theorem dX5_startAgain_39 : decode cX5_startAgain 39 = .ok (.putfield 30, 3) := by decide +kernel
theorem dX5_startAgain_42 : decode cX5_startAgain 42 = .ok (.aload_n 0, 1) := by decide +kernel
theorem dX5_startAgain_43 : decode cX5_startAgain 43 = .ok (.iconst 0, 1) := by decide +kernel
theorem dX5_startAgain_44 : decode cX5_startAgain 44 = .ok (.putfield 33, 3) := by decide +kernel
theorem dX5_startAgain_47 : decode cX5_startAgain 47 = .ok (.return_, 1) := by decide +kernel
theorem dX5_faultOfRule_0 : decode cX5_faultOfRule 0 = .ok (.aload_n 0, 1) := by decide +kernel
theorem dX5_faultOfRule_1 : decode cX5_faultOfRule 1 = .ok (.getfield 23, 3) := by decide +kernel
theorem dX5_faultOfRule_4 : decode cX5_faultOfRule 4 = .ok (.iconst 1, 1) := by decide +kernel
theorem dX5_faultOfRule_5 : decode cX5_faultOfRule 5 = .ok (.if_icmp .ne 11, 3) := by decide +kernel
theorem dX5_faultOfRule_8 : decode cX5_faultOfRule 8 = .ok (.aload_n 0, 1) := by decide +kernel
theorem dX5_faultOfRule_9 : decode cX5_faultOfRule 9 = .ok (.aload_n 1, 1) := by decide +kernel
theorem dX5_faultOfRule_10 : decode cX5_faultOfRule 10 = .ok (.invokevirtual 55, 3) := by decide +kernel
theorem dX5_faultOfRule_13 : decode cX5_faultOfRule 13 = .ok (.goto 4, 3) := by decide +kernel
theorem dX5_faultOfRule_16 : decode cX5_faultOfRule 16 = .ok (.aconst_null, 1) := by decide +kernel
theorem dX5_faultOfRule_17 : decode cX5_faultOfRule 17 = .ok (.astore_n 2, 1) := by decide +kernel
theorem dX5_faultOfRule_18 : decode cX5_faultOfRule 18 = .ok (.aload_n 2, 1) := by decide +kernel
theorem dX5_faultOfRule_19 : decode cX5_faultOfRule 19 = .ok (.ifnonnull 5, 3) := by decide +kernel
theorem dX5_faultOfRule_22 : decode cX5_faultOfRule 22 = .ok (.iconst 1, 1) := by decide +kernel
theorem dX5_faultOfRule_23 : decode cX5_faultOfRule 23 = .ok (.ireturn, 1) := by decide +kernel
theorem dX5_faultOfRule_24 : decode cX5_faultOfRule 24 = .ok (.aload_n 0, 1) := by decide +kernel
theorem dX5_faultOfRule_25 : decode cX5_faultOfRule 25 = .ok (.getfield 19, 3) := by decide +kernel
theorem dX5_faultOfRule_28 : decode cX5_faultOfRule 28 = .ok (.aload_n 2, 1) := by decide +kernel
theorem dX5_faultOfRule_29 : decode cX5_faultOfRule 29 = .ok (.getfield 36, 3) := by decide +kernel
theorem dX5_faultOfRule_32 : decode cX5_faultOfRule 32 = .ok (.baload, 1) := by decide +kernel
theorem dX5_faultOfRule_33 : decode cX5_faultOfRule 33 = .ok (.ifCond .eq 5, 3) := by decide +kernel
theorem dX5_faultOfRule_36 : decode cX5_faultOfRule 36 = .ok (.iconst 3, 1) := by decide +kernel
theorem dX5_faultOfRule_37 : decode cX5_faultOfRule 37 = .ok (.ireturn, 1) := by decide +kernel
theorem dX5_faultOfRule_38 : decode cX5_faultOfRule 38 = .ok (.aload_n 0, 1) := by decide +kernel
theorem dX5_faultOfRule_39 : decode cX5_faultOfRule 39 = .ok (.getfield 19, 3) := by decide +kernel
theorem dX5_faultOfRule_42 : decode cX5_faultOfRule 42 = .ok (.aload_n 2, 1) := by decide +kernel
theorem dX5_faultOfRule_43 : decode cX5_faultOfRule 43 = .ok (.getfield 36, 3) := by decide +kernel
theorem dX5_faultOfRule_46 : decode cX5_faultOfRule 46 = .ok (.iconst 1, 1) := by decide +kernel
theorem dX5_faultOfRule_47 : decode cX5_faultOfRule 47 = .ok (.bastore, 1) := by decide +kernel
theorem dX5_faultOfRule_48 : decode cX5_faultOfRule 48 = .ok (.aload_n 0, 1) := by decide +kernel
theorem dX5_faultOfRule_49 : decode cX5_faultOfRule 49 = .ok (.aload_n 1, 1) := by decide +kernel
theorem dX5_faultOfRule_50 : decode cX5_faultOfRule 50 = .ok (.invokevirtual 44, 3) := by decide +kernel
theorem dX5_faultOfRule_53 : decode cX5_faultOfRule 53 = .ok (.aload_n 0, 1) := by decide +kernel
theorem dX5_faultOfRule_54 : decode cX5_faultOfRule 54 = .ok (.getfield 23, 3) := by decide +kernel
theorem dX5_faultOfRule_57 : decode cX5_faultOfRule 57 = .ok (.iconst 2, 1) := by decide +kernel
theorem dX5_faultOfRule_58 : decode cX5_faultOfRule 58 = .ok (.if_icmp .eq 5, 3) := by decide +kernel
theorem dX5_faultOfRule_61 : decode cX5_faultOfRule 61 = .ok (.iconst 1, 1) := by decide +kernel
theorem dX5_faultOfRule_62 : decode cX5_faultOfRule 62 = .ok (.ireturn, 1) := by decide +kernel
theorem dX5_faultOfRule_63 : decode cX5_faultOfRule 63 = .ok (.aload_n 0, 1) := by decide +kernel
theorem dX5_faultOfRule_64 : decode cX5_faultOfRule 64 = .ok (.aload_n 1, 1) := by decide +kernel
theorem dX5_faultOfRule_65 : decode cX5_faultOfRule 65 = .ok (.invokevirtual 59, 3) := by decide +kernel
theorem dX5_faultOfRule_68 : decode cX5_faultOfRule 68 = .ok (.istore_n 3, 1) := by decide +kernel
theorem dX5_faultOfRule_69 : decode cX5_faultOfRule 69 = .ok (.iload_n 3, 1) := by decide +kernel
theorem dX5_faultOfRule_70 : decode cX5_faultOfRule 70 = .ok (.aload_n 2, 1) := by decide +kernel
theorem dX5_faultOfRule_71 : decode cX5_faultOfRule 71 = .ok (.getfield 62, 3) := by decide +kernel
theorem dX5_faultOfRule_74 : decode cX5_faultOfRule 74 = .ok (.if_icmp .lt 11, 3) := by decide +kernel
theorem dX5_faultOfRule_77 : decode cX5_faultOfRule 77 = .ok (.iload_n 3, 1) := by decide +kernel
theorem dX5_faultOfRule_78 : decode cX5_faultOfRule 78 = .ok (.aload_n 2, 1) := by decide +kernel
theorem dX5_faultOfRule_79 : decode cX5_faultOfRule 79 = .ok (.getfield 65, 3) := by decide +kernel
theorem dX5_faultOfRule_82 : decode cX5_faultOfRule 82 = .ok (.if_icmp .le 5, 3) := by decide +kernel
theorem dX5_faultOfRule_85 : decode cX5_faultOfRule 85 = .ok (.iconst 2, 1) := by decide +kernel
theorem dX5_faultOfRule_86 : decode cX5_faultOfRule 86 = .ok (.ireturn, 1) := by decide +kernel
theorem dX5_faultOfRule_87 : decode cX5_faultOfRule 87 = .ok (.aload_n 0, 1) := by decide +kernel
theorem dX5_faultOfRule_88 : decode cX5_faultOfRule 88 = .ok (.getfield 13, 3) := by decide +kernel
theorem dX5_faultOfRule_91 : decode cX5_faultOfRule 91 = .ok (.aload_n 2, 1) := by decide +kernel
theorem dX5_faultOfRule_92 : decode cX5_faultOfRule 92 = .ok (.getfield 36, 3) := by decide +kernel
theorem dX5_faultOfRule_95 : decode cX5_faultOfRule 95 = .ok (.iload_n 3, 1) := by decide +kernel
theorem dX5_faultOfRule_96 : decode cX5_faultOfRule 96 = .ok (.iastore, 1) := by decide +kernel
theorem dX5_faultOfRule_97 : decode cX5_faultOfRule 97 = .ok (.aload_n 0, 1) := by decide +kernel
theorem dX5_faultOfRule_98 : decode cX5_faultOfRule 98 = .ok (.aload_n 1, 1) := by decide +kernel
theorem dX5_faultOfRule_99 : decode cX5_faultOfRule 99 = .ok (.invokevirtual 44, 3) := by decide +kernel
theorem dX5_faultOfRule_102 : decode cX5_faultOfRule 102 = .ok (.aload_n 0, 1) := by decide +kernel
theorem dX5_faultOfRule_103 : decode cX5_faultOfRule 103 = .ok (.getfield 23, 3) := by decide +kernel
theorem dX5_faultOfRule_106 : decode cX5_faultOfRule 106 = .ok (.iconst 3, 1) := by decide +kernel
theorem dX5_faultOfRule_107 : decode cX5_faultOfRule 107 = .ok (.if_icmp .ne 7, 3) := by decide +kernel
theorem dX5_faultOfRule_110 : decode cX5_faultOfRule 110 = .ok (.iconst 0, 1) := by decide +kernel
theorem dX5_faultOfRule_111 : decode cX5_faultOfRule 111 = .ok (.goto 4, 3) := by decide +kernel
theorem dX5_faultOfRule_114 : decode cX5_faultOfRule 114 = .ok (.iconst 1, 1) := by decide +kernel
theorem dX5_faultOfRule_115 : decode cX5_faultOfRule 115 = .ok (.ireturn, 1) := by decide +kernel
theorem dX5_step_0 : decode cX5_step 0 = .ok (.aload_n 1, 1) := by decide +kernel
theorem dX5_step_1 : decode cX5_step 1 = .ok (.invokevirtual 68, 3) := by decide +kernel
theorem dX5_step_4 : decode cX5_step 4 = .ok (.sipush 300, 3) := by decide +kernel
theorem dX5_step_7 : decode cX5_step 7 = .ok (.invokestatic 74, 3) := by decide +kernel
theorem dX5_step_10 : decode cX5_step 10 = .ok (.istore_n 2, 1) := by decide +kernel
theorem dX5_step_11 : decode cX5_step 11 = .ok (.aload_n 0, 1) := by decide +kernel
theorem dX5_step_12 : decode cX5_step 12 = .ok (.aload_n 0, 1) := by decide +kernel
theorem dX5_step_13 : decode cX5_step 13 = .ok (.getfield 30, 3) := by decide +kernel
theorem dX5_step_16 : decode cX5_step 16 = .ok (.iload_n 2, 1) := by decide +kernel
theorem dX5_step_17 : decode cX5_step 17 = .ok (.invokestatic 74, 3) := by decide +kernel
theorem dX5_step_20 : decode cX5_step 20 = .ok (.putfield 27, 3) := by decide +kernel
theorem dX5_step_23 : decode cX5_step 23 = .ok (.aload_n 0, 1) := by decide +kernel
theorem dX5_step_24 : decode cX5_step 24 = .ok (.getfield 27, 3) := by decide +kernel
theorem dX5_step_27 : decode cX5_step 27 = .ok (.iload_n 2, 1) := by decide +kernel
theorem dX5_step_28 : decode cX5_step 28 = .ok (.if_icmp .ge 30, 3) := by decide +kernel
theorem dX5_step_31 : decode cX5_step 31 = .ok (.aload_n 1, 1) := by decide +kernel
theorem dX5_step_32 : decode cX5_step 32 = .ok (.aload_n 0, 1) := by decide +kernel
theorem dX5_step_33 : decode cX5_step 33 = .ok (.getfield 27, 3) := by decide +kernel
theorem dX5_step_36 : decode cX5_step 36 = .ok (.invokevirtual 80, 3) := by decide +kernel
theorem dX5_step_39 : decode cX5_step 39 = .ok (.invokestatic 84, 3) := by decide +kernel
theorem dX5_step_42 : decode cX5_step 42 = .ok (.ifCond .eq 16, 3) := by decide +kernel
theorem dX5_step_45 : decode cX5_step 45 = .ok (.aload_n 0, 1) := by decide +kernel
theorem dX5_step_46 : decode cX5_step 46 = .ok (.dup, 1) := by decide +kernel
theorem dX5_step_47 : decode cX5_step 47 = .ok (.getfield 27, 3) := by decide +kernel
theorem dX5_step_50 : decode cX5_step 50 = .ok (.iconst 1, 1) := by decide +kernel
theorem dX5_step_51 : decode cX5_step 51 = .ok (.iadd, 1) := by decide +kernel
theorem dX5_step_52 : decode cX5_step 52 = .ok (.putfield 27, 3) := by decide +kernel
theorem dX5_step_55 : decode cX5_step 55 = .ok (.goto (-32), 3) := by decide +kernel
theorem dX5_step_58 : decode cX5_step 58 = .ok (.aload_n 0, 1) := by decide +kernel
theorem dX5_step_59 : decode cX5_step 59 = .ok (.getfield 27, 3) := by decide +kernel
theorem dX5_step_62 : decode cX5_step 62 = .ok (.iload_n 2, 1) := by decide +kernel
theorem dX5_step_63 : decode cX5_step 63 = .ok (.if_icmp .ge 11, 3) := by decide +kernel
theorem dX5_step_66 : decode cX5_step 66 = .ok (.aload_n 0, 1) := by decide +kernel
theorem dX5_step_67 : decode cX5_step 67 = .ok (.aload_n 1, 1) := by decide +kernel
theorem dX5_step_68 : decode cX5_step 68 = .ok (.invokevirtual 88, 3) := by decide +kernel
theorem dX5_step_71 : decode cX5_step 71 = .ok (.goto 22, 3) := by decide +kernel
theorem dX5_step_74 : decode cX5_step 74 = .ok (.aload_n 0, 1) := by decide +kernel
theorem dX5_step_75 : decode cX5_step 75 = .ok (.aload_n 1, 1) := by decide +kernel
theorem dX5_step_76 : decode cX5_step 76 = .ok (.invokevirtual 68, 3) := by decide +kernel
theorem dX5_step_79 : decode cX5_step 79 = .ok (.sipush 300, 3) := by decide +kernel
theorem dX5_step_82 : decode cX5_step 82 = .ok (.if_icmp .le 7, 3) := by decide +kernel
theorem dX5_step_85 : decode cX5_step 85 = .ok (.iconst 0, 1) := by decide +kernel
theorem dX5_step_86 : decode cX5_step 86 = .ok (.goto 4, 3) := by decide +kernel
theorem dX5_step_89 : decode cX5_step 89 = .ok (.iconst 4, 1) := by decide +kernel
theorem dX5_step_90 : decode cX5_step 90 = .ok (.putfield 23, 3) := by decide +kernel
theorem dX5_step_93 : decode cX5_step 93 = .ok (.return_, 1) := by decide +kernel
theorem dX5_readToken_0 : decode cX5_readToken 0 = .ok (.aload_n 0, 1) := by decide +kernel
theorem dX5_readToken_1 : decode cX5_readToken 1 = .ok (.aload_n 0, 1) := by decide +kernel
theorem dX5_readToken_2 : decode cX5_readToken 2 = .ok (.getfield 27, 3) := by decide +kernel
theorem dX5_readToken_5 : decode cX5_readToken 5 = .ok (.putfield 30, 3) := by decide +kernel
theorem dX5_readToken_8 : decode cX5_readToken 8 = .ok (.iconst 0, 1) := by decide +kernel
theorem dX5_readToken_9 : decode cX5_readToken 9 = .ok (.istore_n 2, 1) := by decide +kernel
theorem dX5_readToken_10 : decode cX5_readToken 10 = .ok (.iconst 0, 1) := by decide +kernel
theorem dX5_readToken_11 : decode cX5_readToken 11 = .ok (.istore_n 3, 1) := by decide +kernel
theorem dX5_readToken_12 : decode cX5_readToken 12 = .ok (.aload_n 0, 1) := by decide +kernel
theorem dX5_readToken_13 : decode cX5_readToken 13 = .ok (.getfield 30, 3) := by decide +kernel
theorem dX5_readToken_16 : decode cX5_readToken 16 = .ok (.aload_n 1, 1) := by decide +kernel
theorem dX5_readToken_17 : decode cX5_readToken 17 = .ok (.invokevirtual 68, 3) := by decide +kernel
theorem dX5_readToken_20 : decode cX5_readToken 20 = .ok (.if_icmp .ge 53, 3) := by decide +kernel
theorem dX5_readToken_23 : decode cX5_readToken 23 = .ok (.aload_n 1, 1) := by decide +kernel
theorem dX5_readToken_24 : decode cX5_readToken 24 = .ok (.aload_n 0, 1) := by decide +kernel
theorem dX5_readToken_25 : decode cX5_readToken 25 = .ok (.getfield 30, 3) := by decide +kernel
theorem dX5_readToken_28 : decode cX5_readToken 28 = .ok (.invokevirtual 80, 3) := by decide +kernel
theorem dX5_readToken_31 : decode cX5_readToken 31 = .ok (.invokestatic 91, 3) := by decide +kernel
theorem dX5_readToken_34 : decode cX5_readToken 34 = .ok (.ifCond .eq 39, 3) := by decide +kernel
theorem dX5_readToken_37 : decode cX5_readToken 37 = .ok (.aload_n 1, 1) := by decide +kernel
theorem dX5_readToken_38 : decode cX5_readToken 38 = .ok (.aload_n 0, 1) := by decide +kernel
theorem dX5_readToken_39 : decode cX5_readToken 39 = .ok (.getfield 30, 3) := by decide +kernel
theorem dX5_readToken_42 : decode cX5_readToken 42 = .ok (.invokevirtual 80, 3) := by decide +kernel
theorem dX5_readToken_45 : decode cX5_readToken 45 = .ok (.invokestatic 94, 3) := by decide +kernel
theorem dX5_readToken_48 : decode cX5_readToken 48 = .ok (.ifCond .eq 9, 3) := by decide +kernel
theorem dX5_readToken_51 : decode cX5_readToken 51 = .ok (.iinc 3 1, 3) := by decide +kernel
theorem dX5_readToken_54 : decode cX5_readToken 54 = .ok (.goto 6, 3) := by decide +kernel
theorem dX5_readToken_57 : decode cX5_readToken 57 = .ok (.iinc 2 1, 3) := by decide +kernel
theorem dX5_readToken_60 : decode cX5_readToken 60 = .ok (.aload_n 0, 1) := by decide +kernel
theorem dX5_readToken_61 : decode cX5_readToken 61 = .ok (.dup, 1) := by decide +kernel
theorem dX5_readToken_62 : decode cX5_readToken 62 = .ok (.getfield 30, 3) := by decide +kernel
theorem dX5_readToken_65 : decode cX5_readToken 65 = .ok (.iconst 1, 1) := by decide +kernel
theorem dX5_readToken_66 : decode cX5_readToken 66 = .ok (.iadd, 1) := by decide +kernel
theorem dX5_readToken_67 : decode cX5_readToken 67 = .ok (.putfield 30, 3) := by decide +kernel
theorem dX5_readToken_70 : decode cX5_readToken 70 = .ok (.goto (-58), 3) := by decide +kernel
theorem dX5_readToken_73 : decode cX5_readToken 73 = .ok (.iload_n 2, 1) := by decide +kernel
theorem dX5_readToken_74 : decode cX5_readToken 74 = .ok (.ifCond .le 19, 3) := by decide +kernel
theorem dX5_readToken_77 : decode cX5_readToken 77 = .ok (.aload_n 0, 1) := by decide +kernel
theorem dX5_readToken_78 : decode cX5_readToken 78 = .ok (.iload_n 3, 1) := by decide +kernel
theorem dX5_readToken_79 : decode cX5_readToken 79 = .ok (.ifCond .ne 7, 3) := by decide +kernel
theorem dX5_readToken_82 : decode cX5_readToken 82 = .ok (.iconst 1, 1) := by decide +kernel
theorem dX5_readToken_83 : decode cX5_readToken 83 = .ok (.goto 4, 3) := by decide +kernel
theorem dX5_readToken_86 : decode cX5_readToken 86 = .ok (.iconst 0, 1) := by decide +kernel
theorem dX5_readToken_87 : decode cX5_readToken 87 = .ok (.putfield 23, 3) := by decide +kernel
theorem dX5_readToken_90 : decode cX5_readToken 90 = .ok (.goto 56, 3) := by decide +kernel
theorem dX5_readToken_93 : decode cX5_readToken 93 = .ok (.iload_n 3, 1) := by decide +kernel
theorem dX5_readToken_94 : decode cX5_readToken 94 = .ok (.ifCond .le 20, 3) := by decide +kernel
theorem dX5_readToken_97 : decode cX5_readToken 97 = .ok (.aload_n 0, 1) := by decide +kernel
theorem dX5_readToken_98 : decode cX5_readToken 98 = .ok (.iload_n 3, 1) := by decide +kernel
theorem dX5_readToken_99 : decode cX5_readToken 99 = .ok (.iconst 5, 1) := by decide +kernel
theorem dX5_readToken_100 : decode cX5_readToken 100 = .ok (.if_icmp .gt 7, 3) := by decide +kernel
theorem dX5_readToken_103 : decode cX5_readToken 103 = .ok (.iconst 2, 1) := by decide +kernel
theorem dX5_readToken_104 : decode cX5_readToken 104 = .ok (.goto 4, 3) := by decide +kernel
theorem dX5_readToken_107 : decode cX5_readToken 107 = .ok (.iconst 0, 1) := by decide +kernel
theorem dX5_readToken_108 : decode cX5_readToken 108 = .ok (.putfield 23, 3) := by decide +kernel
theorem dX5_readToken_111 : decode cX5_readToken 111 = .ok (.goto 35, 3) := by decide +kernel
theorem dX5_readToken_114 : decode cX5_readToken 114 = .ok (.aload_n 0, 1) := by decide +kernel
theorem dX5_readToken_115 : decode cX5_readToken 115 = .ok (.aload_n 1, 1) := by decide +kernel
theorem dX5_readToken_116 : decode cX5_readToken 116 = .ok (.aload_n 0, 1) := by decide +kernel
theorem dX5_readToken_117 : decode cX5_readToken 117 = .ok (.getfield 27, 3) := by decide +kernel
theorem dX5_readToken_120 : decode cX5_readToken 120 = .ok (.invokevirtual 80, 3) := by decide +kernel
theorem dX5_readToken_123 : decode cX5_readToken 123 = .ok (.bipush 59, 2) := by decide +kernel
theorem dX5_readToken_125 : decode cX5_readToken 125 = .ok (.if_icmp .ne 7, 3) := by decide +kernel
theorem dX5_readToken_128 : decode cX5_readToken 128 = .ok (.iconst 3, 1) := by decide +kernel
theorem dX5_readToken_129 : decode cX5_readToken 129 = .ok (.goto 4, 3) := by decide +kernel
theorem dX5_readToken_132 : decode cX5_readToken 132 = .ok (.iconst 0, 1) := by decide +kernel
theorem dX5_readToken_133 : decode cX5_readToken 133 = .ok (.putfield 23, 3) := by decide +kernel
theorem dX5_readToken_136 : decode cX5_readToken 136 = .ok (.aload_n 0, 1) := by decide +kernel
theorem dX5_readToken_137 : decode cX5_readToken 137 = .ok (.aload_n 0, 1) := by decide +kernel
theorem dX5_readToken_138 : decode cX5_readToken 138 = .ok (.getfield 27, 3) := by decide +kernel
theorem dX5_readToken_141 : decode cX5_readToken 141 = .ok (.iconst 1, 1) := by decide +kernel
theorem dX5_readToken_142 : decode cX5_readToken 142 = .ok (.iadd, 1) := by decide +kernel
theorem dX5_readToken_143 : decode cX5_readToken 143 = .ok (.putfield 30, 3) := by decide +kernel
theorem dX5_readToken_146 : decode cX5_readToken 146 = .ok (.return_, 1) := by decide +kernel
theorem dX5_kindOfWord_0 : decode cX5_kindOfWord 0 = .ok (.iconst 0, 1) := by decide +kernel
theorem dX5_kindOfWord_1 : decode cX5_kindOfWord 1 = .ok (.istore_n 2, 1) := by decide +kernel
theorem dX5_kindOfWord_2 : decode cX5_kindOfWord 2 = .ok (.iload_n 2, 1) := by decide +kernel
theorem dX5_kindOfWord_3 : decode cX5_kindOfWord 3 = .ok (.getstatic 7, 3) := by decide +kernel
theorem dX5_kindOfWord_6 : decode cX5_kindOfWord 6 = .ok (.arraylength, 1) := by decide +kernel
theorem dX5_kindOfWord_7 : decode cX5_kindOfWord 7 = .ok (.if_icmp .ge 31, 3) := by decide +kernel
theorem dX5_kindOfWord_10 : decode cX5_kindOfWord 10 = .ok (.aload_n 0, 1) := by decide +kernel
theorem dX5_kindOfWord_11 : decode cX5_kindOfWord 11 = .ok (.getstatic 7, 3) := by decide +kernel
theorem dX5_kindOfWord_14 : decode cX5_kindOfWord 14 = .ok (.iload_n 2, 1) := by decide +kernel
theorem dX5_kindOfWord_15 : decode cX5_kindOfWord 15 = .ok (.aaload, 1) := by decide +kernel
theorem dX5_kindOfWord_16 : decode cX5_kindOfWord 16 = .ok (.getfield 97, 3) := by decide +kernel
theorem dX5_kindOfWord_19 : decode cX5_kindOfWord 19 = .ok (.aload_n 1, 1) := by decide +kernel
theorem dX5_kindOfWord_20 : decode cX5_kindOfWord 20 = .ok (.invokevirtual 101, 3) := by decide +kernel
theorem dX5_kindOfWord_23 : decode cX5_kindOfWord 23 = .ok (.ifCond .eq 9, 3) := by decide +kernel
theorem dX5_kindOfWord_26 : decode cX5_kindOfWord 26 = .ok (.getstatic 7, 3) := by decide +kernel
theorem dX5_kindOfWord_29 : decode cX5_kindOfWord 29 = .ok (.iload_n 2, 1) := by decide +kernel
theorem dX5_kindOfWord_30 : decode cX5_kindOfWord 30 = .ok (.aaload, 1) := by decide +kernel
theorem dX5_kindOfWord_31 : decode cX5_kindOfWord 31 = .ok (.areturn, 1) := by decide +kernel
theorem dX5_kindOfWord_32 : decode cX5_kindOfWord 32 = .ok (.iinc 2 1, 3) := by decide +kernel
theorem dX5_kindOfWord_35 : decode cX5_kindOfWord 35 = .ok (.goto (-33), 3) := by decide +kernel
theorem dX5_kindOfWord_38 : decode cX5_kindOfWord 38 = .ok (.aconst_null, 1) := by decide +kernel
theorem dX5_kindOfWord_39 : decode cX5_kindOfWord 39 = .ok (.areturn, 1) := by decide +kernel
theorem dX5_isWordRead_0 : decode cX5_isWordRead 0 = .ok (.aload_n 1, 1) := by decide +kernel
theorem dX5_isWordRead_1 : decode cX5_isWordRead 1 = .ok (.invokevirtual 105, 3) := by decide +kernel
theorem dX5_isWordRead_4 : decode cX5_isWordRead 4 = .ok (.aload_n 0, 1) := by decide +kernel
theorem dX5_isWordRead_5 : decode cX5_isWordRead 5 = .ok (.getfield 30, 3) := by decide +kernel
theorem dX5_isWordRead_8 : decode cX5_isWordRead 8 = .ok (.aload_n 0, 1) := by decide +kernel
theorem dX5_isWordRead_9 : decode cX5_isWordRead 9 = .ok (.getfield 27, 3) := by decide +kernel
theorem dX5_isWordRead_12 : decode cX5_isWordRead 12 = .ok (.isub, 1) := by decide +kernel
theorem dX5_isWordRead_13 : decode cX5_isWordRead 13 = .ok (.if_icmp .eq 5, 3) := by decide +kernel
theorem dX5_isWordRead_16 : decode cX5_isWordRead 16 = .ok (.iconst 0, 1) := by decide +kernel
theorem dX5_isWordRead_17 : decode cX5_isWordRead 17 = .ok (.ireturn, 1) := by decide +kernel
theorem dX5_isWordRead_18 : decode cX5_isWordRead 18 = .ok (.iconst 0, 1) := by decide +kernel
theorem dX5_isWordRead_19 : decode cX5_isWordRead 19 = .ok (.istore_n 3, 1) := by decide +kernel
theorem dX5_isWordRead_20 : decode cX5_isWordRead 20 = .ok (.iload_n 3, 1) := by decide +kernel
theorem dX5_isWordRead_21 : decode cX5_isWordRead 21 = .ok (.aload_n 1, 1) := by decide +kernel
theorem dX5_isWordRead_22 : decode cX5_isWordRead 22 = .ok (.invokevirtual 105, 3) := by decide +kernel
theorem dX5_isWordRead_25 : decode cX5_isWordRead 25 = .ok (.if_icmp .ge 29, 3) := by decide +kernel
theorem dX5_isWordRead_28 : decode cX5_isWordRead 28 = .ok (.aload_n 1, 1) := by decide +kernel
theorem dX5_isWordRead_29 : decode cX5_isWordRead 29 = .ok (.iload_n 3, 1) := by decide +kernel
theorem dX5_isWordRead_30 : decode cX5_isWordRead 30 = .ok (.invokevirtual 108, 3) := by decide +kernel
theorem dX5_isWordRead_33 : decode cX5_isWordRead 33 = .ok (.aload_n 2, 1) := by decide +kernel
theorem dX5_isWordRead_34 : decode cX5_isWordRead 34 = .ok (.aload_n 0, 1) := by decide +kernel
theorem dX5_isWordRead_35 : decode cX5_isWordRead 35 = .ok (.getfield 27, 3) := by decide +kernel
theorem dX5_isWordRead_38 : decode cX5_isWordRead 38 = .ok (.iload_n 3, 1) := by decide +kernel
theorem dX5_isWordRead_39 : decode cX5_isWordRead 39 = .ok (.iadd, 1) := by decide +kernel
theorem dX5_isWordRead_40 : decode cX5_isWordRead 40 = .ok (.invokevirtual 80, 3) := by decide +kernel
theorem dX5_isWordRead_43 : decode cX5_isWordRead 43 = .ok (.if_icmp .eq 5, 3) := by decide +kernel
theorem dX5_isWordRead_46 : decode cX5_isWordRead 46 = .ok (.iconst 0, 1) := by decide +kernel
theorem dX5_isWordRead_47 : decode cX5_isWordRead 47 = .ok (.ireturn, 1) := by decide +kernel
theorem dX5_isWordRead_48 : decode cX5_isWordRead 48 = .ok (.iinc 3 1, 3) := by decide +kernel
theorem dX5_isWordRead_51 : decode cX5_isWordRead 51 = .ok (.goto (-31), 3) := by decide +kernel
theorem dX5_isWordRead_54 : decode cX5_isWordRead 54 = .ok (.iconst 1, 1) := by decide +kernel
theorem dX5_isWordRead_55 : decode cX5_isWordRead 55 = .ok (.ireturn, 1) := by decide +kernel
theorem dX5_numberRead_0 : decode cX5_numberRead 0 = .ok (.iconst 0, 1) := by decide +kernel
theorem dX5_numberRead_1 : decode cX5_numberRead 1 = .ok (.istore_n 2, 1) := by decide +kernel
theorem dX5_numberRead_2 : decode cX5_numberRead 2 = .ok (.aload_n 0, 1) := by decide +kernel
theorem dX5_numberRead_3 : decode cX5_numberRead 3 = .ok (.getfield 27, 3) := by decide +kernel
theorem dX5_numberRead_6 : decode cX5_numberRead 6 = .ok (.istore_n 3, 1) := by decide +kernel
theorem dX5_numberRead_7 : decode cX5_numberRead 7 = .ok (.iload_n 3, 1) := by decide +kernel
theorem dX5_numberRead_8 : decode cX5_numberRead 8 = .ok (.aload_n 0, 1) := by decide +kernel
theorem dX5_numberRead_9 : decode cX5_numberRead 9 = .ok (.getfield 30, 3) := by decide +kernel
theorem dX5_numberRead_12 : decode cX5_numberRead 12 = .ok (.if_icmp .ge 23, 3) := by decide +kernel
theorem dX5_numberRead_15 : decode cX5_numberRead 15 = .ok (.iload_n 2, 1) := by decide +kernel
theorem dX5_numberRead_16 : decode cX5_numberRead 16 = .ok (.bipush 10, 2) := by decide +kernel
theorem dX5_numberRead_18 : decode cX5_numberRead 18 = .ok (.imul, 1) := by decide +kernel
theorem dX5_numberRead_19 : decode cX5_numberRead 19 = .ok (.aload_n 1, 1) := by decide +kernel
theorem dX5_numberRead_20 : decode cX5_numberRead 20 = .ok (.iload_n 3, 1) := by decide +kernel
theorem dX5_numberRead_21 : decode cX5_numberRead 21 = .ok (.invokevirtual 80, 3) := by decide +kernel
theorem dX5_numberRead_24 : decode cX5_numberRead 24 = .ok (.iadd, 1) := by decide +kernel
theorem dX5_numberRead_25 : decode cX5_numberRead 25 = .ok (.bipush 48, 2) := by decide +kernel
theorem dX5_numberRead_27 : decode cX5_numberRead 27 = .ok (.isub, 1) := by decide +kernel
theorem dX5_numberRead_28 : decode cX5_numberRead 28 = .ok (.istore_n 2, 1) := by decide +kernel
theorem dX5_numberRead_29 : decode cX5_numberRead 29 = .ok (.iinc 3 1, 3) := by decide +kernel
theorem dX5_numberRead_32 : decode cX5_numberRead 32 = .ok (.goto (-25), 3) := by decide +kernel
theorem dX5_numberRead_35 : decode cX5_numberRead 35 = .ok (.iload_n 2, 1) := by decide +kernel
theorem dX5_numberRead_36 : decode cX5_numberRead 36 = .ok (.ireturn, 1) := by decide +kernel
theorem dX5_isBlank_0 : decode cX5_isBlank 0 = .ok (.iload_n 0, 1) := by decide +kernel
theorem dX5_isBlank_1 : decode cX5_isBlank 1 = .ok (.bipush 32, 2) := by decide +kernel
theorem dX5_isBlank_3 : decode cX5_isBlank 3 = .ok (.if_icmp .eq 9, 3) := by decide +kernel
theorem dX5_isBlank_6 : decode cX5_isBlank 6 = .ok (.iload_n 0, 1) := by decide +kernel
theorem dX5_isBlank_7 : decode cX5_isBlank 7 = .ok (.bipush 10, 2) := by decide +kernel
theorem dX5_isBlank_9 : decode cX5_isBlank 9 = .ok (.if_icmp .ne 7, 3) := by decide +kernel
theorem dX5_isBlank_12 : decode cX5_isBlank 12 = .ok (.iconst 1, 1) := by decide +kernel
theorem dX5_isBlank_13 : decode cX5_isBlank 13 = .ok (.goto 4, 3) := by decide +kernel
theorem dX5_isBlank_16 : decode cX5_isBlank 16 = .ok (.iconst 0, 1) := by decide +kernel
theorem dX5_isBlank_17 : decode cX5_isBlank 17 = .ok (.ireturn, 1) := by decide +kernel
theorem dX5_isDigit_0 : decode cX5_isDigit 0 = .ok (.iload_n 0, 1) := by decide +kernel
theorem dX5_isDigit_1 : decode cX5_isDigit 1 = .ok (.bipush 48, 2) := by decide +kernel
theorem dX5_isDigit_3 : decode cX5_isDigit 3 = .ok (.if_icmp .lt 13, 3) := by decide +kernel
theorem dX5_isDigit_6 : decode cX5_isDigit 6 = .ok (.iload_n 0, 1) := by decide +kernel
theorem dX5_isDigit_7 : decode cX5_isDigit 7 = .ok (.bipush 57, 2) := by decide +kernel
theorem dX5_isDigit_9 : decode cX5_isDigit 9 = .ok (.if_icmp .gt 7, 3) := by decide +kernel
theorem dX5_isDigit_12 : decode cX5_isDigit 12 = .ok (.iconst 1, 1) := by decide +kernel
theorem dX5_isDigit_13 : decode cX5_isDigit 13 = .ok (.goto 4, 3) := by decide +kernel
theorem dX5_isDigit_16 : decode cX5_isDigit 16 = .ok (.iconst 0, 1) := by decide +kernel
theorem dX5_isDigit_17 : decode cX5_isDigit 17 = .ok (.ireturn, 1) := by decide +kernel
theorem dX5_isLetterOrDigit_0 : decode cX5_isLetterOrDigit 0 = .ok (.iload_n 0, 1) := by decide +kernel
theorem dX5_isLetterOrDigit_1 : decode cX5_isLetterOrDigit 1 = .ok (.bipush 97, 2) := by decide +kernel
theorem dX5_isLetterOrDigit_3 : decode cX5_isLetterOrDigit 3 = .ok (.if_icmp .lt 9, 3) := by decide +kernel
theorem dX5_isLetterOrDigit_6 : decode cX5_isLetterOrDigit 6 = .ok (.iload_n 0, 1) := by decide +kernel
theorem dX5_isLetterOrDigit_7 : decode cX5_isLetterOrDigit 7 = .ok (.bipush 122, 2) := by decide +kernel
theorem dX5_isLetterOrDigit_9 : decode cX5_isLetterOrDigit 9 = .ok (.if_icmp .le 10, 3) := by decide +kernel
theorem dX5_isLetterOrDigit_12 : decode cX5_isLetterOrDigit 12 = .ok (.iload_n 0, 1) := by decide +kernel
theorem dX5_isLetterOrDigit_13 : decode cX5_isLetterOrDigit 13 = .ok (.invokestatic 94, 3) := by decide +kernel
theorem dX5_isLetterOrDigit_16 : decode cX5_isLetterOrDigit 16 = .ok (.ifCond .eq 7, 3) := by decide +kernel
theorem dX5_isLetterOrDigit_19 : decode cX5_isLetterOrDigit 19 = .ok (.iconst 1, 1) := by decide +kernel
theorem dX5_isLetterOrDigit_20 : decode cX5_isLetterOrDigit 20 = .ok (.goto 4, 3) := by decide +kernel
theorem dX5_isLetterOrDigit_23 : decode cX5_isLetterOrDigit 23 = .ok (.iconst 0, 1) := by decide +kernel
theorem dX5_isLetterOrDigit_24 : decode cX5_isLetterOrDigit 24 = .ok (.ireturn, 1) := by decide +kernel
theorem dX6_init_0 : decode cX6_init 0 = .ok (.aload_n 0, 1) := by decide +kernel
theorem dX6_init_1 : decode cX6_init 1 = .ok (.invokespecial 1, 3) := by decide +kernel
theorem dX6_init_4 : decode cX6_init 4 = .ok (.aload_n 0, 1) := by decide +kernel
theorem dX6_init_5 : decode cX6_init 5 = .ok (.getstatic 7, 3) := by decide +kernel
theorem dX6_init_8 : decode cX6_init 8 = .ok (.arraylength, 1) := by decide +kernel
theorem dX6_init_9 : decode cX6_init 9 = .ok (.newarray .int, 2) := by decide +kernel
theorem dX6_init_11 : decode cX6_init 11 = .ok (.putfield 13, 3) := by decide +kernel
theorem dX6_init_14 : decode cX6_init 14 = .ok (.iconst 0, 1) := by decide +kernel
theorem dX6_init_15 : decode cX6_init 15 = .ok (.istore_n 1, 1) := by decide +kernel
theorem dX6_init_16 : decode cX6_init 16 = .ok (.iload_n 1, 1) := by decide +kernel
theorem dX6_init_17 : decode cX6_init 17 = .ok (.getstatic 7, 3) := by decide +kernel
theorem dX6_init_20 : decode cX6_init 20 = .ok (.arraylength, 1) := by decide +kernel
theorem dX6_init_21 : decode cX6_init 21 = .ok (.if_icmp .ge 23, 3) := by decide +kernel
theorem dX6_init_24 : decode cX6_init 24 = .ok (.aload_n 0, 1) := by decide +kernel
theorem dX6_init_25 : decode cX6_init 25 = .ok (.getfield 13, 3) := by decide +kernel
theorem dX6_init_28 : decode cX6_init 28 = .ok (.iload_n 1, 1) := by decide +kernel
theorem dX6_init_29 : decode cX6_init 29 = .ok (.getstatic 7, 3) := by decide +kernel
theorem dX6_init_32 : decode cX6_init 32 = .ok (.iload_n 1, 1) := by decide +kernel
theorem dX6_init_33 : decode cX6_init 33 = .ok (.aaload, 1) := by decide +kernel
theorem dX6_init_34 : decode cX6_init 34 = .ok (.getfield 19, 3) := by decide +kernel
theorem dX6_init_37 : decode cX6_init 37 = .ok (.iastore, 1) := by decide +kernel
theorem dX6_init_38 : decode cX6_init 38 = .ok (.iinc 1 1, 3) := by decide +kernel
theorem dX6_init_41 : decode cX6_init 41 = .ok (.goto (-25), 3) := by decide +kernel
theorem dX6_init_44 : decode cX6_init 44 = .ok (.return_, 1) := by decide +kernel
theorem dX6_current_0 : decode cX6_current 0 = .ok (.aload_n 0, 1) := by decide +kernel
theorem dX6_current_1 : decode cX6_current 1 = .ok (.getfield 13, 3) := by decide +kernel
theorem dX6_current_4 : decode cX6_current 4 = .ok (.aload_n 1, 1) := by decide +kernel
theorem dX6_current_5 : decode cX6_current 5 = .ok (.getfield 25, 3) := by decide +kernel
theorem dX6_current_8 : decode cX6_current 8 = .ok (.iaload, 1) := by decide +kernel
theorem dX6_current_9 : decode cX6_current 9 = .ok (.ireturn, 1) := by decide +kernel
theorem dX6_takeOver_0 : decode cX6_takeOver 0 = .ok (.iconst 0, 1) := by decide +kernel
theorem dX6_takeOver_1 : decode cX6_takeOver 1 = .ok (.istore_n 2, 1) := by decide +kernel
theorem dX6_takeOver_2 : decode cX6_takeOver 2 = .ok (.iload_n 2, 1) := by decide +kernel
theorem dX6_takeOver_3 : decode cX6_takeOver 3 = .ok (.getstatic 7, 3) := by decide +kernel
theorem dX6_takeOver_6 : decode cX6_takeOver 6 = .ok (.arraylength, 1) := by decide +kernel
theorem dX6_takeOver_7 : decode cX6_takeOver 7 = .ok (.if_icmp .ge 24, 3) := by decide +kernel
theorem dX6_takeOver_10 : decode cX6_takeOver 10 = .ok (.aload_n 0, 1) := by decide +kernel
theorem dX6_takeOver_11 : decode cX6_takeOver 11 = .ok (.getfield 13, 3) := by decide +kernel
theorem dX6_takeOver_14 : decode cX6_takeOver 14 = .ok (.iload_n 2, 1) := by decide +kernel
theorem dX6_takeOver_15 : decode cX6_takeOver 15 = .ok (.aload_n 1, 1) := by decide +kernel
theorem dX6_takeOver_16 : decode cX6_takeOver 16 = .ok (.getstatic 7, 3) := by decide +kernel
theorem dX6_takeOver_19 : decode cX6_takeOver 19 = .ok (.iload_n 2, 1) := by decide +kernel
theorem dX6_takeOver_20 : decode cX6_takeOver 20 = .ok (.aaload, 1) := by decide +kernel
theorem dX6_takeOver_21 : decode cX6_takeOver 21 = .ok (.invokevirtual 28, 3) := by decide +kernel
theorem dX6_takeOver_24 : decode cX6_takeOver 24 = .ok (.iastore, 1) := by decide +kernel
theorem dX6_takeOver_25 : decode cX6_takeOver 25 = .ok (.iinc 2 1, 3) := by decide +kernel
theorem dX6_takeOver_28 : decode cX6_takeOver 28 = .ok (.goto (-26), 3) := by decide +kernel
theorem dX6_takeOver_31 : decode cX6_takeOver 31 = .ok (.return_, 1) := by decide +kernel
theorem dX7_init_0 : decode cX7_init 0 = .ok (.aload_n 0, 1) := by decide +kernel
theorem dX7_init_1 : decode cX7_init 1 = .ok (.invokespecial 3, 3) := by decide +kernel
theorem dX7_init_4 : decode cX7_init 4 = .ok (.aload_n 0, 1) := by decide +kernel
theorem dX7_init_5 : decode cX7_init 5 = .ok (.sipush 320, 3) := by decide +kernel
theorem dX7_init_8 : decode cX7_init 8 = .ok (.newarray .int, 2) := by decide +kernel
theorem dX7_init_10 : decode cX7_init 10 = .ok (.putfield 11, 3) := by decide +kernel
theorem dX7_init_13 : decode cX7_init 13 = .ok (.aload_n 0, 1) := by decide +kernel
theorem dX7_init_14 : decode cX7_init 14 = .ok (.iconst 0, 1) := by decide +kernel
theorem dX7_init_15 : decode cX7_init 15 = .ok (.putfield 15, 3) := by decide +kernel
theorem dX7_init_18 : decode cX7_init 18 = .ok (.return_, 1) := by decide +kernel
theorem dX7_length_0 : decode cX7_length 0 = .ok (.aload_n 0, 1) := by decide +kernel
theorem dX7_length_1 : decode cX7_length 1 = .ok (.getfield 15, 3) := by decide +kernel
theorem dX7_length_4 : decode cX7_length 4 = .ok (.ireturn, 1) := by decide +kernel
theorem dX7_hasRoomForFive_0 : decode cX7_hasRoomForFive 0 = .ok (.aload_n 0, 1) := by decide +kernel
theorem dX7_hasRoomForFive_1 : decode cX7_hasRoomForFive 1 = .ok (.getfield 15, 3) := by decide +kernel
theorem dX7_hasRoomForFive_4 : decode cX7_hasRoomForFive 4 = .ok (.bipush 20, 2) := by decide +kernel
theorem dX7_hasRoomForFive_6 : decode cX7_hasRoomForFive 6 = .ok (.iadd, 1) := by decide +kernel
theorem dX7_hasRoomForFive_7 : decode cX7_hasRoomForFive 7 = .ok (.sipush 320, 3) := by decide +kernel
theorem dX7_hasRoomForFive_10 : decode cX7_hasRoomForFive 10 = .ok (.if_icmp .gt 7, 3) := by decide +kernel
theorem dX7_hasRoomForFive_13 : decode cX7_hasRoomForFive 13 = .ok (.iconst 1, 1) := by decide +kernel
theorem dX7_hasRoomForFive_14 : decode cX7_hasRoomForFive 14 = .ok (.goto 4, 3) := by decide +kernel
theorem dX7_hasRoomForFive_17 : decode cX7_hasRoomForFive 17 = .ok (.iconst 0, 1) := by decide +kernel
theorem dX7_hasRoomForFive_18 : decode cX7_hasRoomForFive 18 = .ok (.ireturn, 1) := by decide +kernel
theorem dX7_append_0 : decode cX7_append 0 = .ok (.bipush 24, 2) := by decide +kernel
theorem dX7_append_2 : decode cX7_append 2 = .ok (.istore_n 2, 1) := by decide +kernel
theorem dX7_append_3 : decode cX7_append 3 = .ok (.iload_n 2, 1) := by decide +kernel
theorem dX7_append_4 : decode cX7_append 4 = .ok (.ifCond .lt 45, 3) := by decide +kernel
theorem dX7_append_7 : decode cX7_append 7 = .ok (.aload_n 0, 1) := by decide +kernel
theorem dX7_append_8 : decode cX7_append 8 = .ok (.getfield 15, 3) := by decide +kernel
theorem dX7_append_11 : decode cX7_append 11 = .ok (.sipush 320, 3) := by decide +kernel
theorem dX7_append_14 : decode cX7_append 14 = .ok (.if_icmp .ge 35, 3) := by decide +kernel
theorem dX7_append_17 : decode cX7_append 17 = .ok (.aload_n 0, 1) := by decide +kernel
theorem dX7_append_18 : decode cX7_append 18 = .ok (.getfield 11, 3) := by decide +kernel
theorem dX7_append_21 : decode cX7_append 21 = .ok (.aload_n 0, 1) := by decide +kernel
theorem dX7_append_22 : decode cX7_append 22 = .ok (.getfield 15, 3) := by decide +kernel
theorem dX7_append_25 : decode cX7_append 25 = .ok (.iload_n 1, 1) := by decide +kernel
theorem dX7_append_26 : decode cX7_append 26 = .ok (.iload_n 2, 1) := by decide +kernel
theorem dX7_append_27 : decode cX7_append 27 = .ok (.ishr, 1) := by decide +kernel
theorem dX7_append_28 : decode cX7_append 28 = .ok (.sipush 255, 3) := by decide +kernel
theorem dX7_append_31 : decode cX7_append 31 = .ok (.iand, 1) := by decide +kernel
theorem dX7_append_32 : decode cX7_append 32 = .ok (.iastore, 1) := by decide +kernel
theorem dX7_append_33 : decode cX7_append 33 = .ok (.aload_n 0, 1) := by decide +kernel
theorem dX7_append_34 : decode cX7_append 34 = .ok (.dup, 1) := by decide +kernel
theorem dX7_append_35 : decode cX7_append 35 = .ok (.getfield 15, 3) := by decide +kernel
theorem dX7_append_38 : decode cX7_append 38 = .ok (.iconst 1, 1) := by decide +kernel
theorem dX7_append_39 : decode cX7_append 39 = .ok (.iadd, 1) := by decide +kernel
theorem dX7_append_40 : decode cX7_append 40 = .ok (.putfield 15, 3) := by decide +kernel
theorem dX7_append_43 : decode cX7_append 43 = .ok (.iinc 2 (-8), 3) := by decide +kernel
theorem dX7_append_46 : decode cX7_append 46 = .ok (.goto (-43), 3) := by decide +kernel
theorem dX7_append_49 : decode cX7_append 49 = .ok (.return_, 1) := by decide +kernel
theorem dX7_cutTo_0 : decode cX7_cutTo 0 = .ok (.iload_n 1, 1) := by decide +kernel
theorem dX7_cutTo_1 : decode cX7_cutTo 1 = .ok (.ifCond .lt 11, 3) := by decide +kernel
theorem dX7_cutTo_4 : decode cX7_cutTo 4 = .ok (.iload_n 1, 1) := by decide +kernel
theorem dX7_cutTo_5 : decode cX7_cutTo 5 = .ok (.aload_n 0, 1) := by decide +kernel
theorem dX7_cutTo_6 : decode cX7_cutTo 6 = .ok (.getfield 15, 3) := by decide +kernel
theorem dX7_cutTo_9 : decode cX7_cutTo 9 = .ok (.if_icmp .le 5, 3) := by decide +kernel
theorem dX7_cutTo_12 : decode cX7_cutTo 12 = .ok (.iconst 0, 1) := by decide +kernel
theorem dX7_cutTo_13 : decode cX7_cutTo 13 = .ok (.ireturn, 1) := by decide +kernel
theorem dX7_cutTo_14 : decode cX7_cutTo 14 = .ok (.aload_n 0, 1) := by decide +kernel
theorem dX7_cutTo_15 : decode cX7_cutTo 15 = .ok (.iload_n 1, 1) := by decide +kernel
theorem dX7_cutTo_16 : decode cX7_cutTo 16 = .ok (.putfield 15, 3) := by decide +kernel
theorem dX7_cutTo_19 : decode cX7_cutTo 19 = .ok (.iconst 1, 1) := by decide +kernel
theorem dX7_cutTo_20 : decode cX7_cutTo 20 = .ok (.ireturn, 1) := by decide +kernel
theorem dX7_byteAt_0 : decode cX7_byteAt 0 = .ok (.iload_n 1, 1) := by decide +kernel
theorem dX7_byteAt_1 : decode cX7_byteAt 1 = .ok (.ifCond .lt 20, 3) := by decide +kernel
theorem dX7_byteAt_4 : decode cX7_byteAt 4 = .ok (.iload_n 1, 1) := by decide +kernel
theorem dX7_byteAt_5 : decode cX7_byteAt 5 = .ok (.aload_n 0, 1) := by decide +kernel
theorem dX7_byteAt_6 : decode cX7_byteAt 6 = .ok (.getfield 15, 3) := by decide +kernel
theorem dX7_byteAt_9 : decode cX7_byteAt 9 = .ok (.if_icmp .ge 12, 3) := by decide +kernel
theorem dX7_byteAt_12 : decode cX7_byteAt 12 = .ok (.aload_n 0, 1) := by decide +kernel
theorem dX7_byteAt_13 : decode cX7_byteAt 13 = .ok (.getfield 11, 3) := by decide +kernel
theorem dX7_byteAt_16 : decode cX7_byteAt 16 = .ok (.iload_n 1, 1) := by decide +kernel
theorem dX7_byteAt_17 : decode cX7_byteAt 17 = .ok (.iaload, 1) := by decide +kernel
theorem dX7_byteAt_18 : decode cX7_byteAt 18 = .ok (.goto 4, 3) := by decide +kernel
theorem dX7_byteAt_21 : decode cX7_byteAt 21 = .ok (.iconst (-1), 1) := by decide +kernel
theorem dX7_byteAt_22 : decode cX7_byteAt 22 = .ok (.ireturn, 1) := by decide +kernel
theorem dX7_copy_0 : decode cX7_copy 0 = .ok (.aload_n 0, 1) := by decide +kernel
theorem dX7_copy_1 : decode cX7_copy 1 = .ok (.getfield 15, 3) := by decide +kernel
theorem dX7_copy_4 : decode cX7_copy 4 = .ok (.newarray .int, 2) := by decide +kernel
theorem dX7_copy_6 : decode cX7_copy 6 = .ok (.astore_n 1, 1) := by decide +kernel
theorem dX7_copy_7 : decode cX7_copy 7 = .ok (.aload_n 0, 1) := by decide +kernel
theorem dX7_copy_8 : decode cX7_copy 8 = .ok (.getfield 11, 3) := by decide +kernel
theorem dX7_copy_11 : decode cX7_copy 11 = .ok (.iconst 0, 1) := by decide +kernel
theorem dX7_copy_12 : decode cX7_copy 12 = .ok (.aload_n 1, 1) := by decide +kernel
theorem dX7_copy_13 : decode cX7_copy 13 = .ok (.iconst 0, 1) := by decide +kernel
theorem dX7_copy_14 : decode cX7_copy 14 = .ok (.aload_n 0, 1) := by decide +kernel
theorem dX7_copy_15 : decode cX7_copy 15 = .ok (.getfield 15, 3) := by decide +kernel
theorem dX7_copy_18 : decode cX7_copy 18 = .ok (.invokestatic 19, 3) := by decide +kernel
theorem dX7_copy_21 : decode cX7_copy 21 = .ok (.aload_n 1, 1) := by decide +kernel
theorem dX7_copy_22 : decode cX7_copy 22 = .ok (.areturn, 1) := by decide +kernel
theorem dX8_init_0 : decode cX8_init 0 = .ok (.aload_n 0, 1) := by decide +kernel
theorem dX8_init_1 : decode cX8_init 1 = .ok (.invokespecial 1, 3) := by decide +kernel
theorem dX8_init_4 : decode cX8_init 4 = .ok (.aload_n 0, 1) := by decide +kernel
theorem dX8_init_5 : decode cX8_init 5 = .ok (.new 7, 3) := by decide +kernel
theorem dX8_init_8 : decode cX8_init 8 = .ok (.dup, 1) := by decide +kernel
theorem dX8_init_9 : decode cX8_init 9 = .ok (.invokespecial 9, 3) := by decide +kernel
theorem dX8_init_12 : decode cX8_init 12 = .ok (.putfield 10, 3) := by decide +kernel
theorem dX8_init_15 : decode cX8_init 15 = .ok (.aload_n 0, 1) := by decide +kernel
theorem dX8_init_16 : decode cX8_init 16 = .ok (.new 16, 3) := by decide +kernel
theorem dX8_init_19 : decode cX8_init 19 = .ok (.dup, 1) := by decide +kernel
theorem dX8_init_20 : decode cX8_init 20 = .ok (.invokespecial 18, 3) := by decide +kernel
theorem dX8_init_23 : decode cX8_init 23 = .ok (.putfield 19, 3) := by decide +kernel
theorem dX8_init_26 : decode cX8_init 26 = .ok (.aload_n 0, 1) := by decide +kernel
theorem dX8_init_27 : decode cX8_init 27 = .ok (.new 23, 3) := by decide +kernel
theorem dX8_init_30 : decode cX8_init 30 = .ok (.dup, 1) := by decide +kernel
theorem dX8_init_31 : decode cX8_init 31 = .ok (.invokespecial 25, 3) := by decide +kernel
theorem dX8_init_34 : decode cX8_init 34 = .ok (.putfield 26, 3) := by decide +kernel
theorem dX8_init_37 : decode cX8_init 37 = .ok (.aload_n 0, 1) := by decide +kernel
theorem dX8_init_38 : decode cX8_init 38 = .ok (.new 30, 3) := by decide +kernel
theorem dX8_init_41 : decode cX8_init 41 = .ok (.dup, 1) := by decide +kernel
theorem dX8_init_42 : decode cX8_init 42 = .ok (.invokespecial 32, 3) := by decide +kernel
theorem dX8_init_45 : decode cX8_init 45 = .ok (.putfield 33, 3) := by decide +kernel
theorem dX8_init_48 : decode cX8_init 48 = .ok (.aload_n 0, 1) := by decide +kernel
theorem dX8_init_49 : decode cX8_init 49 = .ok (.new 37, 3) := by decide +kernel
theorem dX8_init_52 : decode cX8_init 52 = .ok (.dup, 1) := by decide +kernel
theorem dX8_init_53 : decode cX8_init 53 = .ok (.invokespecial 39, 3) := by decide +kernel
theorem dX8_init_56 : decode cX8_init 56 = .ok (.putfield 40, 3) := by decide +kernel
theorem dX8_init_59 : decode cX8_init 59 = .ok (.aload_n 0, 1) := by decide +kernel
theorem dX8_init_60 : decode cX8_init 60 = .ok (.bipush 40, 2) := by decide +kernel
theorem dX8_init_62 : decode cX8_init 62 = .ok (.newarray .int, 2) := by decide +kernel
theorem dX8_init_64 : decode cX8_init 64 = .ok (.putfield 44, 3) := by decide +kernel
theorem dX8_init_67 : decode cX8_init 67 = .ok (.aload_n 0, 1) := by decide +kernel
theorem dX8_init_68 : decode cX8_init 68 = .ok (.iconst 0, 1) := by decide +kernel
theorem dX8_init_69 : decode cX8_init 69 = .ok (.putfield 48, 3) := by decide +kernel
theorem dX8_init_72 : decode cX8_init 72 = .ok (.aload_n 0, 1) := by decide +kernel
theorem dX8_init_73 : decode cX8_init 73 = .ok (.iconst 0, 1) := by decide +kernel
theorem dX8_init_74 : decode cX8_init 74 = .ok (.putfield 52, 3) := by decide +kernel
theorem dX8_init_77 : decode cX8_init 77 = .ok (.return_, 1) := by decide +kernel
theorem dX8_feed_0 : decode cX8_feed 0 = .ok (.aload_n 0, 1) := by decide +kernel
theorem dX8_feed_1 : decode cX8_feed 1 = .ok (.getfield 10, 3) := by decide +kernel
theorem dX8_feed_4 : decode cX8_feed 4 = .ok (.invokevirtual 55, 3) := by decide +kernel
theorem dX8_feed_7 : decode cX8_feed 7 = .ok (.ifCond .ne 5, 3) := by decide +kernel
theorem dX8_feed_10 : decode cX8_feed 10 = .ok (.iconst (-1), 1) := by decide +kernel
theorem dX8_feed_11 : decode cX8_feed 11 = .ok (.ireturn, 1) := by decide +kernel
theorem dX8_feed_12 : decode cX8_feed 12 = .ok (.aload_n 0, 1) := by decide +kernel
theorem dX8_feed_13 : decode cX8_feed 13 = .ok (.getfield 10, 3) := by decide +kernel
theorem dX8_feed_16 : decode cX8_feed 16 = .ok (.iload_n 1, 1) := by decide +kernel
theorem dX8_feed_17 : decode cX8_feed 17 = .ok (.invokevirtual 59, 3) := by decide +kernel
theorem dX8_feed_20 : decode cX8_feed 20 = .ok (.aload_n 0, 1) := by decide +kernel
theorem dX8_feed_21 : decode cX8_feed 21 = .ok (.getfield 10, 3) := by decide +kernel
theorem dX8_feed_24 : decode cX8_feed 24 = .ok (.iload_n 2, 1) := by decide +kernel
theorem dX8_feed_25 : decode cX8_feed 25 = .ok (.invokevirtual 59, 3) := by decide +kernel
theorem dX8_feed_28 : decode cX8_feed 28 = .ok (.aload_n 0, 1) := by decide +kernel
theorem dX8_feed_29 : decode cX8_feed 29 = .ok (.getfield 10, 3) := by decide +kernel
theorem dX8_feed_32 : decode cX8_feed 32 = .ok (.iload_n 3, 1) := by decide +kernel
theorem dX8_feed_33 : decode cX8_feed 33 = .ok (.invokevirtual 59, 3) := by decide +kernel
theorem dX8_feed_36 : decode cX8_feed 36 = .ok (.aload_n 0, 1) := by decide +kernel
theorem dX8_feed_37 : decode cX8_feed 37 = .ok (.getfield 10, 3) := by decide +kernel
theorem dX8_feed_40 : decode cX8_feed 40 = .ok (.iload 4, 2) := by decide +kernel
theorem dX8_feed_42 : decode cX8_feed 42 = .ok (.invokevirtual 59, 3) := by decide +kernel
theorem dX8_feed_45 : decode cX8_feed 45 = .ok (.aload_n 0, 1) := by decide +kernel
theorem dX8_feed_46 : decode cX8_feed 46 = .ok (.getfield 10, 3) := by decide +kernel
theorem dX8_feed_49 : decode cX8_feed 49 = .ok (.iload 5, 2) := by decide +kernel
theorem dX8_feed_51 : decode cX8_feed 51 = .ok (.invokevirtual 59, 3) := by decide +kernel
theorem dX8_feed_54 : decode cX8_feed 54 = .ok (.aload_n 0, 1) := by decide +kernel
theorem dX8_feed_55 : decode cX8_feed 55 = .ok (.getfield 10, 3) := by decide +kernel
theorem dX8_feed_58 : decode cX8_feed 58 = .ok (.invokevirtual 63, 3) := by decide +kernel
theorem dX8_feed_61 : decode cX8_feed 61 = .ok (.ireturn, 1) := by decide +kernel
theorem dX8_end_0 : decode cX8_end 0 = .ok (.aload_n 0, 1) := by decide +kernel
theorem dX8_end_1 : decode cX8_end 1 = .ok (.getfield 10, 3) := by decide +kernel
theorem dX8_end_4 : decode cX8_end 4 = .ok (.iload_n 1, 1) := by decide +kernel
theorem dX8_end_5 : decode cX8_end 5 = .ok (.invokevirtual 67, 3) := by decide +kernel
theorem dX8_end_8 : decode cX8_end 8 = .ok (.ireturn, 1) := by decide +kernel
theorem dX8_rules_0 : decode cX8_rules 0 = .ok (.aload_n 0, 1) := by decide +kernel
theorem dX8_rules_1 : decode cX8_rules 1 = .ok (.getfield 19, 3) := by decide +kernel
theorem dX8_rules_4 : decode cX8_rules 4 = .ok (.aload_n 0, 1) := by decide +kernel
theorem dX8_rules_5 : decode cX8_rules 5 = .ok (.getfield 10, 3) := by decide +kernel
theorem dX8_rules_8 : decode cX8_rules 8 = .ok (.invokevirtual 71, 3) := by decide +kernel
theorem dX8_rules_11 : decode cX8_rules 11 = .ok (.istore_n 1, 1) := by decide +kernel
theorem dX8_rules_12 : decode cX8_rules 12 = .ok (.iload_n 1, 1) := by decide +kernel
theorem dX8_rules_13 : decode cX8_rules 13 = .ok (.ifCond .lt 14, 3) := by decide +kernel
theorem dX8_rules_16 : decode cX8_rules 16 = .ok (.aload_n 0, 1) := by decide +kernel
theorem dX8_rules_17 : decode cX8_rules 17 = .ok (.getfield 26, 3) := by decide +kernel
theorem dX8_rules_20 : decode cX8_rules 20 = .ok (.aload_n 0, 1) := by decide +kernel
theorem dX8_rules_21 : decode cX8_rules 21 = .ok (.getfield 19, 3) := by decide +kernel
theorem dX8_rules_24 : decode cX8_rules 24 = .ok (.invokevirtual 75, 3) := by decide +kernel
theorem dX8_rules_27 : decode cX8_rules 27 = .ok (.aload_n 0, 1) := by decide +kernel
theorem dX8_rules_28 : decode cX8_rules 28 = .ok (.getfield 10, 3) := by decide +kernel
theorem dX8_rules_31 : decode cX8_rules 31 = .ok (.iconst 0, 1) := by decide +kernel
theorem dX8_rules_32 : decode cX8_rules 32 = .ok (.invokevirtual 67, 3) := by decide +kernel
theorem dX8_rules_35 : decode cX8_rules 35 = .ok (.pop, 1) := by decide +kernel
theorem dX8_rules_36 : decode cX8_rules 36 = .ok (.iload_n 1, 1) := by decide +kernel
theorem dX8_rules_37 : decode cX8_rules 37 = .ok (.ireturn, 1) := by decide +kernel
theorem dX8_fault_0 : decode cX8_fault 0 = .ok (.aload_n 0, 1) := by decide +kernel
theorem dX8_fault_1 : decode cX8_fault 1 = .ok (.getfield 19, 3) := by decide +kernel
theorem dX8_fault_4 : decode cX8_fault 4 = .ok (.invokevirtual 79, 3) := by decide +kernel
theorem dX8_fault_7 : decode cX8_fault 7 = .ok (.ireturn, 1) := by decide +kernel
theorem dX8_rule_0 : decode cX8_rule 0 = .ok (.iload_n 1, 1) := by decide +kernel
theorem dX8_rule_1 : decode cX8_rule 1 = .ok (.ifCond .lt 11, 3) := by decide +kernel
theorem dX8_rule_4 : decode cX8_rule 4 = .ok (.iload_n 1, 1) := by decide +kernel
theorem dX8_rule_5 : decode cX8_rule 5 = .ok (.getstatic 82, 3) := by decide +kernel
theorem dX8_rule_8 : decode cX8_rule 8 = .ok (.arraylength, 1) := by decide +kernel
theorem dX8_rule_9 : decode cX8_rule 9 = .ok (.if_icmp .lt 5, 3) := by decide +kernel
theorem dX8_rule_12 : decode cX8_rule 12 = .ok (.iconst (-1), 1) := by decide +kernel
theorem dX8_rule_13 : decode cX8_rule 13 = .ok (.ireturn, 1) := by decide +kernel
theorem dX8_rule_14 : decode cX8_rule 14 = .ok (.aload_n 0, 1) := by decide +kernel
theorem dX8_rule_15 : decode cX8_rule 15 = .ok (.getfield 26, 3) := by decide +kernel
theorem dX8_rule_18 : decode cX8_rule 18 = .ok (.getstatic 82, 3) := by decide +kernel
theorem dX8_rule_21 : decode cX8_rule 21 = .ok (.iload_n 1, 1) := by decide +kernel
theorem dX8_rule_22 : decode cX8_rule 22 = .ok (.aaload, 1) := by decide +kernel
theorem dX8_rule_23 : decode cX8_rule 23 = .ok (.invokevirtual 86, 3) := by decide +kernel
theorem dX8_rule_26 : decode cX8_rule 26 = .ok (.ireturn, 1) := by decide +kernel
theorem dX8_person_0 : decode cX8_person 0 = .ok (.aload_n 0, 1) := by decide +kernel
theorem dX8_person_1 : decode cX8_person 1 = .ok (.getfield 48, 3) := by decide +kernel
theorem dX8_person_4 : decode cX8_person 4 = .ok (.bipush 40, 2) := by decide +kernel
theorem dX8_person_6 : decode cX8_person 6 = .ok (.if_icmp .ge 14, 3) := by decide +kernel
theorem dX8_person_9 : decode cX8_person 9 = .ok (.iload_n 1, 1) := by decide +kernel
theorem dX8_person_10 : decode cX8_person 10 = .ok (.ifCond .lt 10, 3) := by decide +kernel
theorem dX8_person_13 : decode cX8_person 13 = .ok (.iload_n 1, 1) := by decide +kernel
theorem dX8_person_14 : decode cX8_person 14 = .ok (.sipush 255, 3) := by decide +kernel
theorem dX8_person_17 : decode cX8_person 17 = .ok (.if_icmp .le 5, 3) := by decide +kernel
theorem dX8_person_20 : decode cX8_person 20 = .ok (.iconst (-1), 1) := by decide +kernel
theorem dX8_person_21 : decode cX8_person 21 = .ok (.ireturn, 1) := by decide +kernel
theorem dX8_person_22 : decode cX8_person 22 = .ok (.aload_n 0, 1) := by decide +kernel
theorem dX8_person_23 : decode cX8_person 23 = .ok (.getfield 44, 3) := by decide +kernel
theorem dX8_person_26 : decode cX8_person 26 = .ok (.aload_n 0, 1) := by decide +kernel
theorem dX8_person_27 : decode cX8_person 27 = .ok (.getfield 48, 3) := by decide +kernel
theorem dX8_person_30 : decode cX8_person 30 = .ok (.iload_n 1, 1) := by decide +kernel
theorem dX8_person_31 : decode cX8_person 31 = .ok (.iastore, 1) := by decide +kernel
theorem dX8_person_32 : decode cX8_person 32 = .ok (.aload_n 0, 1) := by decide +kernel
theorem dX8_person_33 : decode cX8_person 33 = .ok (.dup, 1) := by decide +kernel
theorem dX8_person_34 : decode cX8_person 34 = .ok (.getfield 48, 3) := by decide +kernel
theorem dX8_person_37 : decode cX8_person 37 = .ok (.iconst 1, 1) := by decide +kernel
theorem dX8_person_38 : decode cX8_person 38 = .ok (.iadd, 1) := by decide +kernel
theorem dX8_person_39 : decode cX8_person 39 = .ok (.putfield 48, 3) := by decide +kernel
theorem dX8_person_42 : decode cX8_person 42 = .ok (.aload_n 0, 1) := by decide +kernel
theorem dX8_person_43 : decode cX8_person 43 = .ok (.getfield 48, 3) := by decide +kernel
theorem dX8_person_46 : decode cX8_person 46 = .ok (.iconst 1, 1) := by decide +kernel
theorem dX8_person_47 : decode cX8_person 47 = .ok (.isub, 1) := by decide +kernel
theorem dX8_person_48 : decode cX8_person 48 = .ok (.ireturn, 1) := by decide +kernel
theorem dX8_tag_0 : decode cX8_tag 0 = .ok (.aload_n 0, 1) := by decide +kernel
theorem dX8_tag_1 : decode cX8_tag 1 = .ok (.iload_n 1, 1) := by decide +kernel
theorem dX8_tag_2 : decode cX8_tag 2 = .ok (.invokevirtual 90, 3) := by decide +kernel
theorem dX8_tag_5 : decode cX8_tag 5 = .ok (.ifCond .eq 10, 3) := by decide +kernel
theorem dX8_tag_8 : decode cX8_tag 8 = .ok (.iload_n 2, 1) := by decide +kernel
theorem dX8_tag_9 : decode cX8_tag 9 = .ok (.invokestatic 93, 3) := by decide +kernel
theorem dX8_tag_12 : decode cX8_tag 12 = .ok (.ifCond .ne 5, 3) := by decide +kernel
theorem dX8_tag_15 : decode cX8_tag 15 = .ok (.iconst 0, 1) := by decide +kernel
theorem dX8_tag_16 : decode cX8_tag 16 = .ok (.ireturn, 1) := by decide +kernel
theorem dX8_tag_17 : decode cX8_tag 17 = .ok (.aload_n 0, 1) := by decide +kernel
theorem dX8_tag_18 : decode cX8_tag 18 = .ok (.getfield 44, 3) := by decide +kernel
theorem dX8_tag_21 : decode cX8_tag 21 = .ok (.iload_n 1, 1) := by decide +kernel
theorem dX8_tag_22 : decode cX8_tag 22 = .ok (.iaload, 1) := by decide +kernel
theorem dX8_tag_23 : decode cX8_tag 23 = .ok (.iload_n 2, 1) := by decide +kernel
theorem dX8_tag_24 : decode cX8_tag 24 = .ok (.ishr, 1) := by decide +kernel
theorem dX8_tag_25 : decode cX8_tag 25 = .ok (.iconst 1, 1) := by decide +kernel
theorem dX8_tag_26 : decode cX8_tag 26 = .ok (.iand, 1) := by decide +kernel
theorem dX8_tag_27 : decode cX8_tag 27 = .ok (.ifCond .eq 7, 3) := by decide +kernel
theorem dX8_tag_30 : decode cX8_tag 30 = .ok (.iconst 1, 1) := by decide +kernel
theorem dX8_tag_31 : decode cX8_tag 31 = .ok (.goto 4, 3) := by decide +kernel
theorem dX8_tag_34 : decode cX8_tag 34 = .ok (.iconst 0, 1) := by decide +kernel
theorem dX8_tag_35 : decode cX8_tag 35 = .ok (.istore 4, 2) := by decide +kernel
theorem dX8_tag_37 : decode cX8_tag 37 = .ok (.iload 4, 2) := by decide +kernel
theorem dX8_tag_39 : decode cX8_tag 39 = .ok (.iload_n 3, 1) := by decide +kernel
theorem dX8_tag_40 : decode cX8_tag 40 = .ok (.if_icmp .ne 5, 3) := by decide +kernel
theorem dX8_tag_43 : decode cX8_tag 43 = .ok (.iconst 0, 1) := by decide +kernel
theorem dX8_tag_44 : decode cX8_tag 44 = .ok (.ireturn, 1) := by decide +kernel
theorem dX8_tag_45 : decode cX8_tag 45 = .ok (.aload_n 0, 1) := by decide +kernel
theorem dX8_tag_46 : decode cX8_tag 46 = .ok (.getfield 44, 3) := by decide +kernel
theorem dX8_tag_49 : decode cX8_tag 49 = .ok (.iload_n 1, 1) := by decide +kernel
theorem dX8_tag_50 : decode cX8_tag 50 = .ok (.dup2, 1) := by decide +kernel
theorem dX8_tag_51 : decode cX8_tag 51 = .ok (.iaload, 1) := by decide +kernel
theorem dX8_tag_52 : decode cX8_tag 52 = .ok (.iconst 1, 1) := by decide +kernel
theorem dX8_tag_53 : decode cX8_tag 53 = .ok (.iload_n 2, 1) := by decide +kernel
theorem dX8_tag_54 : decode cX8_tag 54 = .ok (.ishl, 1) := by decide +kernel
theorem dX8_tag_55 : decode cX8_tag 55 = .ok (.ixor, 1) := by decide +kernel
theorem dX8_tag_56 : decode cX8_tag 56 = .ok (.iastore, 1) := by decide +kernel
theorem dX8_tag_57 : decode cX8_tag 57 = .ok (.iconst 1, 1) := by decide +kernel
theorem dX8_tag_58 : decode cX8_tag 58 = .ok (.ireturn, 1) := by decide +kernel
theorem dX8_fund_0 : decode cX8_fund 0 = .ok (.iload_n 1, 1) := by decide +kernel
theorem dX8_fund_1 : decode cX8_fund 1 = .ok (.invokestatic 93, 3) := by decide +kernel
theorem dX8_fund_4 : decode cX8_fund 4 = .ok (.ifCond .eq 13, 3) := by decide +kernel
theorem dX8_fund_7 : decode cX8_fund 7 = .ok (.iload_n 2, 1) := by decide +kernel
theorem dX8_fund_8 : decode cX8_fund 8 = .ok (.ifCond .lt 9, 3) := by decide +kernel
theorem dX8_fund_11 : decode cX8_fund 11 = .ok (.iload_n 2, 1) := by decide +kernel
theorem dX8_fund_12 : decode cX8_fund 12 = .ok (.ldc 96, 2) := by decide +kernel
theorem dX8_fund_14 : decode cX8_fund 14 = .ok (.if_icmp .le 5, 3) := by decide +kernel
theorem dX8_fund_17 : decode cX8_fund 17 = .ok (.iconst (-1), 1) := by decide +kernel
theorem dX8_fund_18 : decode cX8_fund 18 = .ok (.ireturn, 1) := by decide +kernel
theorem dX8_fund_19 : decode cX8_fund 19 = .ok (.aload_n 0, 1) := by decide +kernel
theorem dX8_fund_20 : decode cX8_fund 20 = .ok (.getfield 33, 3) := by decide +kernel
theorem dX8_fund_23 : decode cX8_fund 23 = .ok (.iload_n 1, 1) := by decide +kernel
theorem dX8_fund_24 : decode cX8_fund 24 = .ok (.iload_n 2, 1) := by decide +kernel
theorem dX8_fund_25 : decode cX8_fund 25 = .ok (.aload_n 0, 1) := by decide +kernel
theorem dX8_fund_26 : decode cX8_fund 26 = .ok (.getfield 52, 3) := by decide +kernel
theorem dX8_fund_29 : decode cX8_fund 29 = .ok (.invokevirtual 97, 3) := by decide +kernel
theorem dX8_fund_32 : decode cX8_fund 32 = .ok (.ireturn, 1) := by decide +kernel
theorem dX8_gift_0 : decode cX8_gift 0 = .ok (.aload_n 0, 1) := by decide +kernel
theorem dX8_gift_1 : decode cX8_gift 1 = .ok (.getfield 33, 3) := by decide +kernel
theorem dX8_gift_4 : decode cX8_gift 4 = .ok (.iload_n 1, 1) := by decide +kernel
theorem dX8_gift_5 : decode cX8_gift 5 = .ok (.invokevirtual 101, 3) := by decide +kernel
theorem dX8_gift_8 : decode cX8_gift 8 = .ok (.ifCond .eq 14, 3) := by decide +kernel
theorem dX8_gift_11 : decode cX8_gift 11 = .ok (.iload_n 2, 1) := by decide +kernel
theorem dX8_gift_12 : decode cX8_gift 12 = .ok (.iconst 1, 1) := by decide +kernel
theorem dX8_gift_13 : decode cX8_gift 13 = .ok (.if_icmp .lt 9, 3) := by decide +kernel
theorem dX8_gift_16 : decode cX8_gift 16 = .ok (.iload_n 2, 1) := by decide +kernel
theorem dX8_gift_17 : decode cX8_gift 17 = .ok (.ldc 96, 2) := by decide +kernel
theorem dX8_gift_19 : decode cX8_gift 19 = .ok (.if_icmp .le 5, 3) := by decide +kernel
theorem dX8_gift_22 : decode cX8_gift 22 = .ok (.iconst (-1), 1) := by decide +kernel
theorem dX8_gift_23 : decode cX8_gift 23 = .ok (.ireturn, 1) := by decide +kernel
theorem dX8_gift_24 : decode cX8_gift 24 = .ok (.aload_n 0, 1) := by decide +kernel
theorem dX8_gift_25 : decode cX8_gift 25 = .ok (.getfield 33, 3) := by decide +kernel
theorem dX8_gift_28 : decode cX8_gift 28 = .ok (.iload_n 1, 1) := by decide +kernel
theorem dX8_gift_29 : decode cX8_gift 29 = .ok (.iload_n 2, 1) := by decide +kernel
theorem dX8_gift_30 : decode cX8_gift 30 = .ok (.invokevirtual 104, 3) := by decide +kernel
theorem dX8_gift_33 : decode cX8_gift 33 = .ok (.ireturn, 1) := by decide +kernel
theorem dX8_ask_0 : decode cX8_ask 0 = .ok (.aload_n 0, 1) := by decide +kernel
theorem dX8_ask_1 : decode cX8_ask 1 = .ok (.iload_n 1, 1) := by decide +kernel
theorem dX8_ask_2 : decode cX8_ask 2 = .ok (.iload_n 2, 1) := by decide +kernel
theorem dX8_ask_3 : decode cX8_ask 3 = .ok (.invokevirtual 108, 3) := by decide +kernel
theorem dX8_ask_6 : decode cX8_ask 6 = .ok (.istore_n 3, 1) := by decide +kernel
theorem dX8_ask_7 : decode cX8_ask 7 = .ok (.iload_n 3, 1) := by decide +kernel
theorem dX8_ask_8 : decode cX8_ask 8 = .ok (.ifCond .le 9, 3) := by decide +kernel
theorem dX8_ask_11 : decode cX8_ask 11 = .ok (.iconst (-1), 1) := by decide +kernel
theorem dX8_ask_12 : decode cX8_ask 12 = .ok (.iload_n 3, 1) := by decide +kernel
theorem dX8_ask_13 : decode cX8_ask 13 = .ok (.isub, 1) := by decide +kernel
theorem dX8_ask_14 : decode cX8_ask 14 = .ok (.goto 9, 3) := by decide +kernel
theorem dX8_ask_17 : decode cX8_ask 17 = .ok (.aload_n 0, 1) := by decide +kernel
theorem dX8_ask_18 : decode cX8_ask 18 = .ok (.iload_n 1, 1) := by decide +kernel
theorem dX8_ask_19 : decode cX8_ask 19 = .ok (.iload_n 2, 1) := by decide +kernel
theorem dX8_ask_20 : decode cX8_ask 20 = .ok (.invokevirtual 111, 3) := by decide +kernel
theorem dX8_ask_23 : decode cX8_ask 23 = .ok (.istore 4, 2) := by decide +kernel
theorem dX8_ask_25 : decode cX8_ask 25 = .ok (.aload_n 0, 1) := by decide +kernel
theorem dX8_ask_26 : decode cX8_ask 26 = .ok (.getfield 10, 3) := by decide +kernel
theorem dX8_ask_29 : decode cX8_ask 29 = .ok (.iconst 0, 1) := by decide +kernel
theorem dX8_ask_30 : decode cX8_ask 30 = .ok (.invokevirtual 67, 3) := by decide +kernel
theorem dX8_ask_33 : decode cX8_ask 33 = .ok (.pop, 1) := by decide +kernel
theorem dX8_ask_34 : decode cX8_ask 34 = .ok (.iload 4, 2) := by decide +kernel
theorem dX8_ask_36 : decode cX8_ask 36 = .ok (.ireturn, 1) := by decide +kernel
theorem dX8_pay_0 : decode cX8_pay 0 = .ok (.aload_n 0, 1) := by decide +kernel
theorem dX8_pay_1 : decode cX8_pay 1 = .ok (.iload_n 1, 1) := by decide +kernel
theorem dX8_pay_2 : decode cX8_pay 2 = .ok (.invokevirtual 90, 3) := by decide +kernel
theorem dX8_pay_5 : decode cX8_pay 5 = .ok (.ifCond .eq 20, 3) := by decide +kernel
theorem dX8_pay_8 : decode cX8_pay 8 = .ok (.iload_n 2, 1) := by decide +kernel
theorem dX8_pay_9 : decode cX8_pay 9 = .ok (.iconst 1, 1) := by decide +kernel
theorem dX8_pay_10 : decode cX8_pay 10 = .ok (.if_icmp .lt 15, 3) := by decide +kernel
theorem dX8_pay_13 : decode cX8_pay 13 = .ok (.iload_n 2, 1) := by decide +kernel
theorem dX8_pay_14 : decode cX8_pay 14 = .ok (.aload_n 0, 1) := by decide +kernel
theorem dX8_pay_15 : decode cX8_pay 15 = .ok (.getfield 40, 3) := by decide +kernel
theorem dX8_pay_18 : decode cX8_pay 18 = .ok (.iload_n 1, 1) := by decide +kernel
theorem dX8_pay_19 : decode cX8_pay 19 = .ok (.invokevirtual 114, 3) := by decide +kernel
theorem dX8_pay_22 : decode cX8_pay 22 = .ok (.if_icmp .le 5, 3) := by decide +kernel
theorem dX8_pay_25 : decode cX8_pay 25 = .ok (.iconst 0, 1) := by decide +kernel
theorem dX8_pay_26 : decode cX8_pay 26 = .ok (.ireturn, 1) := by decide +kernel
theorem dX8_pay_27 : decode cX8_pay 27 = .ok (.aload_n 0, 1) := by decide +kernel
theorem dX8_pay_28 : decode cX8_pay 28 = .ok (.getfield 40, 3) := by decide +kernel
theorem dX8_pay_31 : decode cX8_pay 31 = .ok (.iload_n 1, 1) := by decide +kernel
theorem dX8_pay_32 : decode cX8_pay 32 = .ok (.iload_n 2, 1) := by decide +kernel
theorem dX8_pay_33 : decode cX8_pay 33 = .ok (.aload_n 0, 1) := by decide +kernel
theorem dX8_pay_34 : decode cX8_pay 34 = .ok (.getfield 33, 3) := by decide +kernel
theorem dX8_pay_37 : decode cX8_pay 37 = .ok (.invokevirtual 118, 3) := by decide +kernel
theorem dX8_pay_40 : decode cX8_pay 40 = .ok (.iconst 1, 1) := by decide +kernel
theorem dX8_pay_41 : decode cX8_pay 41 = .ok (.ireturn, 1) := by decide +kernel
theorem dX8_owes_0 : decode cX8_owes 0 = .ok (.aload_n 0, 1) := by decide +kernel
theorem dX8_owes_1 : decode cX8_owes 1 = .ok (.iload_n 1, 1) := by decide +kernel
theorem dX8_owes_2 : decode cX8_owes 2 = .ok (.invokevirtual 90, 3) := by decide +kernel
theorem dX8_owes_5 : decode cX8_owes 5 = .ok (.ifCond .eq 14, 3) := by decide +kernel
theorem dX8_owes_8 : decode cX8_owes 8 = .ok (.aload_n 0, 1) := by decide +kernel
theorem dX8_owes_9 : decode cX8_owes 9 = .ok (.getfield 40, 3) := by decide +kernel
theorem dX8_owes_12 : decode cX8_owes 12 = .ok (.iload_n 1, 1) := by decide +kernel
theorem dX8_owes_13 : decode cX8_owes 13 = .ok (.invokevirtual 114, 3) := by decide +kernel
theorem dX8_owes_16 : decode cX8_owes 16 = .ok (.goto 4, 3) := by decide +kernel
theorem dX8_owes_19 : decode cX8_owes 19 = .ok (.iconst (-1), 1) := by decide +kernel
theorem dX8_owes_20 : decode cX8_owes 20 = .ok (.ireturn, 1) := by decide +kernel
theorem dX8_next_0 : decode cX8_next 0 = .ok (.aload_n 0, 1) := by decide +kernel
theorem dX8_next_1 : decode cX8_next 1 = .ok (.getfield 52, 3) := by decide +kernel
theorem dX8_next_4 : decode cX8_next 4 = .ok (.sipush 400, 3) := by decide +kernel
theorem dX8_next_7 : decode cX8_next 7 = .ok (.if_icmp .lt 5, 3) := by decide +kernel
theorem dX8_next_10 : decode cX8_next 10 = .ok (.iconst (-1), 1) := by decide +kernel
theorem dX8_next_11 : decode cX8_next 11 = .ok (.ireturn, 1) := by decide +kernel
theorem dX8_next_12 : decode cX8_next 12 = .ok (.aload_n 0, 1) := by decide +kernel
theorem dX8_next_13 : decode cX8_next 13 = .ok (.getfield 33, 3) := by decide +kernel
theorem dX8_next_16 : decode cX8_next 16 = .ok (.aload_n 0, 1) := by decide +kernel
theorem dX8_next_17 : decode cX8_next 17 = .ok (.getfield 52, 3) := by decide +kernel
theorem dX8_next_20 : decode cX8_next 20 = .ok (.invokevirtual 122, 3) := by decide +kernel
theorem dX8_next_23 : decode cX8_next 23 = .ok (.aload_n 0, 1) := by decide +kernel
theorem dX8_next_24 : decode cX8_next 24 = .ok (.getfield 40, 3) := by decide +kernel
theorem dX8_next_27 : decode cX8_next 27 = .ok (.aload_n 0, 1) := by decide +kernel
theorem dX8_next_28 : decode cX8_next 28 = .ok (.getfield 52, 3) := by decide +kernel
theorem dX8_next_31 : decode cX8_next 31 = .ok (.invokevirtual 125, 3) := by decide +kernel
theorem dX8_next_34 : decode cX8_next 34 = .ok (.aload_n 0, 1) := by decide +kernel
theorem dX8_next_35 : decode cX8_next 35 = .ok (.dup, 1) := by decide +kernel
theorem dX8_next_36 : decode cX8_next 36 = .ok (.getfield 52, 3) := by decide +kernel
theorem dX8_next_39 : decode cX8_next 39 = .ok (.iconst 1, 1) := by decide +kernel
theorem dX8_next_40 : decode cX8_next 40 = .ok (.iadd, 1) := by decide +kernel
theorem dX8_next_41 : decode cX8_next 41 = .ok (.putfield 52, 3) := by decide +kernel
theorem dX8_next_44 : decode cX8_next 44 = .ok (.aload_n 0, 1) := by decide +kernel
theorem dX8_next_45 : decode cX8_next 45 = .ok (.getfield 52, 3) := by decide +kernel
theorem dX8_next_48 : decode cX8_next 48 = .ok (.ireturn, 1) := by decide +kernel
theorem dX8_chest_0 : decode cX8_chest 0 = .ok (.aload_n 0, 1) := by decide +kernel
theorem dX8_chest_1 : decode cX8_chest 1 = .ok (.getfield 33, 3) := by decide +kernel
theorem dX8_chest_4 : decode cX8_chest 4 = .ok (.iload_n 1, 1) := by decide +kernel
theorem dX8_chest_5 : decode cX8_chest 5 = .ok (.invokevirtual 101, 3) := by decide +kernel
theorem dX8_chest_8 : decode cX8_chest 8 = .ok (.ifCond .eq 15, 3) := by decide +kernel
theorem dX8_chest_11 : decode cX8_chest 11 = .ok (.iload_n 2, 1) := by decide +kernel
theorem dX8_chest_12 : decode cX8_chest 12 = .ok (.ifCond .lt 11, 3) := by decide +kernel
theorem dX8_chest_15 : decode cX8_chest 15 = .ok (.iload_n 2, 1) := by decide +kernel
theorem dX8_chest_16 : decode cX8_chest 16 = .ok (.aload_n 0, 1) := by decide +kernel
theorem dX8_chest_17 : decode cX8_chest 17 = .ok (.getfield 52, 3) := by decide +kernel
theorem dX8_chest_20 : decode cX8_chest 20 = .ok (.if_icmp .le 5, 3) := by decide +kernel
theorem dX8_chest_23 : decode cX8_chest 23 = .ok (.iconst (-1), 1) := by decide +kernel
theorem dX8_chest_24 : decode cX8_chest 24 = .ok (.ireturn, 1) := by decide +kernel
theorem dX8_chest_25 : decode cX8_chest 25 = .ok (.iload_n 2, 1) := by decide +kernel
theorem dX8_chest_26 : decode cX8_chest 26 = .ok (.aload_n 0, 1) := by decide +kernel
theorem dX8_chest_27 : decode cX8_chest 27 = .ok (.getfield 52, 3) := by decide +kernel
theorem dX8_chest_30 : decode cX8_chest 30 = .ok (.if_icmp .ne 14, 3) := by decide +kernel
theorem dX8_chest_33 : decode cX8_chest 33 = .ok (.aload_n 0, 1) := by decide +kernel
theorem dX8_chest_34 : decode cX8_chest 34 = .ok (.getfield 33, 3) := by decide +kernel
theorem dX8_chest_37 : decode cX8_chest 37 = .ok (.iload_n 1, 1) := by decide +kernel
theorem dX8_chest_38 : decode cX8_chest 38 = .ok (.invokevirtual 128, 3) := by decide +kernel
theorem dX8_chest_41 : decode cX8_chest 41 = .ok (.goto 12, 3) := by decide +kernel
theorem dX8_chest_44 : decode cX8_chest 44 = .ok (.aload_n 0, 1) := by decide +kernel
theorem dX8_chest_45 : decode cX8_chest 45 = .ok (.getfield 33, 3) := by decide +kernel
theorem dX8_chest_48 : decode cX8_chest 48 = .ok (.iload_n 1, 1) := by decide +kernel
theorem dX8_chest_49 : decode cX8_chest 49 = .ok (.iload_n 2, 1) := by decide +kernel
theorem dX8_chest_50 : decode cX8_chest 50 = .ok (.invokevirtual 131, 3) := by decide +kernel
theorem dX8_chest_53 : decode cX8_chest 53 = .ok (.ireturn, 1) := by decide +kernel
theorem dX8_loan_0 : decode cX8_loan 0 = .ok (.aload_n 0, 1) := by decide +kernel
theorem dX8_loan_1 : decode cX8_loan 1 = .ok (.getfield 40, 3) := by decide +kernel
theorem dX8_loan_4 : decode cX8_loan 4 = .ok (.iload_n 1, 1) := by decide +kernel
theorem dX8_loan_5 : decode cX8_loan 5 = .ok (.invokevirtual 134, 3) := by decide +kernel
theorem dX8_loan_8 : decode cX8_loan 8 = .ok (.astore_n 3, 1) := by decide +kernel
theorem dX8_loan_9 : decode cX8_loan 9 = .ok (.aload_n 3, 1) := by decide +kernel
theorem dX8_loan_10 : decode cX8_loan 10 = .ok (.ifnonnull 13, 3) := by decide +kernel
theorem dX8_loan_13 : decode cX8_loan 13 = .ok (.new 138, 3) := by decide +kernel
theorem dX8_loan_16 : decode cX8_loan 16 = .ok (.dup, 1) := by decide +kernel
theorem dX8_loan_17 : decode cX8_loan 17 = .ok (.ldc 140, 2) := by decide +kernel
theorem dX8_loan_19 : decode cX8_loan 19 = .ok (.invokespecial 142, 3) := by decide +kernel
theorem dX8_loan_22 : decode cX8_loan 22 = .ok (.athrow, 1) := by decide +kernel
theorem dX8_loan_23 : decode cX8_loan 23 = .ok (.iload_n 2, 1) := by decide +kernel
theorem dX8_loan_24 : decode cX8_loan 24 = .ok (.tableswitch 107 0 9 #[56, 61, 66, 71, 76, 81, 86, 91, 96, 102], 56) := by decide +kernel
theorem dX8_loan_80 : decode cX8_loan 80 = .ok (.aload_n 3, 1) := by decide +kernel
theorem dX8_loan_81 : decode cX8_loan 81 = .ok (.getfield 145, 3) := by decide +kernel
theorem dX8_loan_84 : decode cX8_loan 84 = .ok (.ireturn, 1) := by decide +kernel
theorem dX8_loan_85 : decode cX8_loan 85 = .ok (.aload_n 3, 1) := by decide +kernel
theorem dX8_loan_86 : decode cX8_loan 86 = .ok (.getfield 150, 3) := by decide +kernel
theorem dX8_loan_89 : decode cX8_loan 89 = .ok (.ireturn, 1) := by decide +kernel
theorem dX8_loan_90 : decode cX8_loan 90 = .ok (.aload_n 3, 1) := by decide +kernel
theorem dX8_loan_91 : decode cX8_loan 91 = .ok (.getfield 153, 3) := by decide +kernel
theorem dX8_loan_94 : decode cX8_loan 94 = .ok (.ireturn, 1) := by decide +kernel
theorem dX8_loan_95 : decode cX8_loan 95 = .ok (.aload_n 3, 1) := by decide +kernel
theorem dX8_loan_96 : decode cX8_loan 96 = .ok (.getfield 156, 3) := by decide +kernel
theorem dX8_loan_99 : decode cX8_loan 99 = .ok (.ireturn, 1) := by decide +kernel
theorem dX8_loan_100 : decode cX8_loan 100 = .ok (.aload_n 3, 1) := by decide +kernel
theorem dX8_loan_101 : decode cX8_loan 101 = .ok (.getfield 159, 3) := by decide +kernel
theorem dX8_loan_104 : decode cX8_loan 104 = .ok (.ireturn, 1) := by decide +kernel
theorem dX8_loan_105 : decode cX8_loan 105 = .ok (.aload_n 3, 1) := by decide +kernel
theorem dX8_loan_106 : decode cX8_loan 106 = .ok (.getfield 162, 3) := by decide +kernel
theorem dX8_loan_109 : decode cX8_loan 109 = .ok (.ireturn, 1) := by decide +kernel
theorem dX8_loan_110 : decode cX8_loan 110 = .ok (.aload_n 3, 1) := by decide +kernel
theorem dX8_loan_111 : decode cX8_loan 111 = .ok (.getfield 165, 3) := by decide +kernel
theorem dX8_loan_114 : decode cX8_loan 114 = .ok (.ireturn, 1) := by decide +kernel
theorem dX8_loan_115 : decode cX8_loan 115 = .ok (.aload_n 3, 1) := by decide +kernel
theorem dX8_loan_116 : decode cX8_loan 116 = .ok (.getfield 168, 3) := by decide +kernel
theorem dX8_loan_119 : decode cX8_loan 119 = .ok (.ireturn, 1) := by decide +kernel
theorem dX8_loan_120 : decode cX8_loan 120 = .ok (.aload_n 3, 1) := by decide +kernel
theorem dX8_loan_121 : decode cX8_loan 121 = .ok (.getfield 171, 3) := by decide +kernel
theorem dX8_loan_124 : decode cX8_loan 124 = .ok (.arraylength, 1) := by decide +kernel
theorem dX8_loan_125 : decode cX8_loan 125 = .ok (.ireturn, 1) := by decide +kernel
theorem dX8_loan_126 : decode cX8_loan 126 = .ok (.aload_n 3, 1) := by decide +kernel
theorem dX8_loan_127 : decode cX8_loan 127 = .ok (.getfield 174, 3) := by decide +kernel
theorem dX8_loan_130 : decode cX8_loan 130 = .ok (.ireturn, 1) := by decide +kernel
theorem dX8_loan_131 : decode cX8_loan 131 = .ok (.new 138, 3) := by decide +kernel
theorem dX8_loan_134 : decode cX8_loan 134 = .ok (.dup, 1) := by decide +kernel
theorem dX8_loan_135 : decode cX8_loan 135 = .ok (.ldc 177, 2) := by decide +kernel
theorem dX8_loan_137 : decode cX8_loan 137 = .ok (.invokespecial 142, 3) := by decide +kernel
theorem dX8_loan_140 : decode cX8_loan 140 = .ok (.athrow, 1) := by decide +kernel
theorem dX8_surety_0 : decode cX8_surety 0 = .ok (.aload_n 0, 1) := by decide +kernel
theorem dX8_surety_1 : decode cX8_surety 1 = .ok (.getfield 40, 3) := by decide +kernel
theorem dX8_surety_4 : decode cX8_surety 4 = .ok (.iload_n 1, 1) := by decide +kernel
theorem dX8_surety_5 : decode cX8_surety 5 = .ok (.invokevirtual 134, 3) := by decide +kernel
theorem dX8_surety_8 : decode cX8_surety 8 = .ok (.astore_n 3, 1) := by decide +kernel
theorem dX8_surety_9 : decode cX8_surety 9 = .ok (.aload_n 3, 1) := by decide +kernel
theorem dX8_surety_10 : decode cX8_surety 10 = .ok (.ifnull 16, 3) := by decide +kernel
theorem dX8_surety_13 : decode cX8_surety 13 = .ok (.iload_n 2, 1) := by decide +kernel
theorem dX8_surety_14 : decode cX8_surety 14 = .ok (.ifCond .lt 12, 3) := by decide +kernel
theorem dX8_surety_17 : decode cX8_surety 17 = .ok (.iload_n 2, 1) := by decide +kernel
theorem dX8_surety_18 : decode cX8_surety 18 = .ok (.aload_n 3, 1) := by decide +kernel
theorem dX8_surety_19 : decode cX8_surety 19 = .ok (.getfield 171, 3) := by decide +kernel
theorem dX8_surety_22 : decode cX8_surety 22 = .ok (.arraylength, 1) := by decide +kernel
theorem dX8_surety_23 : decode cX8_surety 23 = .ok (.if_icmp .lt 13, 3) := by decide +kernel
theorem dX8_surety_26 : decode cX8_surety 26 = .ok (.new 138, 3) := by decide +kernel
theorem dX8_surety_29 : decode cX8_surety 29 = .ok (.dup, 1) := by decide +kernel
theorem dX8_surety_30 : decode cX8_surety 30 = .ok (.ldc 179, 2) := by decide +kernel
theorem dX8_surety_32 : decode cX8_surety 32 = .ok (.invokespecial 142, 3) := by decide +kernel
theorem dX8_surety_35 : decode cX8_surety 35 = .ok (.athrow, 1) := by decide +kernel
theorem dX8_surety_36 : decode cX8_surety 36 = .ok (.aload_n 3, 1) := by decide +kernel
theorem dX8_surety_37 : decode cX8_surety 37 = .ok (.getfield 171, 3) := by decide +kernel
theorem dX8_surety_40 : decode cX8_surety 40 = .ok (.iload_n 2, 1) := by decide +kernel
theorem dX8_surety_41 : decode cX8_surety 41 = .ok (.iaload, 1) := by decide +kernel
theorem dX8_surety_42 : decode cX8_surety 42 = .ok (.ireturn, 1) := by decide +kernel
theorem dX8_taken_0 : decode cX8_taken 0 = .ok (.aload_n 0, 1) := by decide +kernel
theorem dX8_taken_1 : decode cX8_taken 1 = .ok (.getfield 40, 3) := by decide +kernel
theorem dX8_taken_4 : decode cX8_taken 4 = .ok (.iload_n 1, 1) := by decide +kernel
theorem dX8_taken_5 : decode cX8_taken 5 = .ok (.invokevirtual 134, 3) := by decide +kernel
theorem dX8_taken_8 : decode cX8_taken 8 = .ok (.astore_n 3, 1) := by decide +kernel
theorem dX8_taken_9 : decode cX8_taken 9 = .ok (.aload_n 3, 1) := by decide +kernel
theorem dX8_taken_10 : decode cX8_taken 10 = .ok (.ifnull 14, 3) := by decide +kernel
theorem dX8_taken_13 : decode cX8_taken 13 = .ok (.aload_n 0, 1) := by decide +kernel
theorem dX8_taken_14 : decode cX8_taken 14 = .ok (.getfield 33, 3) := by decide +kernel
theorem dX8_taken_17 : decode cX8_taken 17 = .ok (.iload_n 2, 1) := by decide +kernel
theorem dX8_taken_18 : decode cX8_taken 18 = .ok (.invokevirtual 101, 3) := by decide +kernel
theorem dX8_taken_21 : decode cX8_taken 21 = .ok (.ifCond .ne 13, 3) := by decide +kernel
theorem dX8_taken_24 : decode cX8_taken 24 = .ok (.new 138, 3) := by decide +kernel
theorem dX8_taken_27 : decode cX8_taken 27 = .ok (.dup, 1) := by decide +kernel
theorem dX8_taken_28 : decode cX8_taken 28 = .ok (.ldc 181, 2) := by decide +kernel
theorem dX8_taken_30 : decode cX8_taken 30 = .ok (.invokespecial 142, 3) := by decide +kernel
theorem dX8_taken_33 : decode cX8_taken 33 = .ok (.athrow, 1) := by decide +kernel
theorem dX8_taken_34 : decode cX8_taken 34 = .ok (.aload_n 3, 1) := by decide +kernel
theorem dX8_taken_35 : decode cX8_taken 35 = .ok (.getfield 183, 3) := by decide +kernel
theorem dX8_taken_38 : decode cX8_taken 38 = .ok (.iload_n 2, 1) := by decide +kernel
theorem dX8_taken_39 : decode cX8_taken 39 = .ok (.iaload, 1) := by decide +kernel
theorem dX8_taken_40 : decode cX8_taken 40 = .ok (.ireturn, 1) := by decide +kernel
theorem dX8_about_0 : decode cX8_about 0 = .ok (.aload_n 0, 1) := by decide +kernel
theorem dX8_about_1 : decode cX8_about 1 = .ok (.iload_n 1, 1) := by decide +kernel
theorem dX8_about_2 : decode cX8_about 2 = .ok (.invokevirtual 90, 3) := by decide +kernel
theorem dX8_about_5 : decode cX8_about 5 = .ok (.ifCond .ne 13, 3) := by decide +kernel
theorem dX8_about_8 : decode cX8_about 8 = .ok (.new 138, 3) := by decide +kernel
theorem dX8_about_11 : decode cX8_about 11 = .ok (.dup, 1) := by decide +kernel
theorem dX8_about_12 : decode cX8_about 12 = .ok (.ldc 186, 2) := by decide +kernel
theorem dX8_about_14 : decode cX8_about 14 = .ok (.invokespecial 142, 3) := by decide +kernel
theorem dX8_about_17 : decode cX8_about 17 = .ok (.athrow, 1) := by decide +kernel
theorem dX8_about_18 : decode cX8_about 18 = .ok (.iload_n 2, 1) := by decide +kernel
theorem dX8_about_19 : decode cX8_about 19 = .ok (.tableswitch 104 0 6 #[41, 48, 57, 71, 77, 86, 95], 41) := by decide +kernel
theorem dX8_about_60 : decode cX8_about 60 = .ok (.aload_n 0, 1) := by decide +kernel
theorem dX8_about_61 : decode cX8_about 61 = .ok (.getfield 44, 3) := by decide +kernel
theorem dX8_about_64 : decode cX8_about 64 = .ok (.iload_n 1, 1) := by decide +kernel
theorem dX8_about_65 : decode cX8_about 65 = .ok (.iaload, 1) := by decide +kernel
theorem dX8_about_66 : decode cX8_about 66 = .ok (.ireturn, 1) := by decide +kernel
theorem dX8_about_67 : decode cX8_about 67 = .ok (.aload_n 0, 1) := by decide +kernel
theorem dX8_about_68 : decode cX8_about 68 = .ok (.getfield 40, 3) := by decide +kernel
theorem dX8_about_71 : decode cX8_about 71 = .ok (.iload_n 1, 1) := by decide +kernel
theorem dX8_about_72 : decode cX8_about 72 = .ok (.invokevirtual 188, 3) := by decide +kernel
theorem dX8_about_75 : decode cX8_about 75 = .ok (.ireturn, 1) := by decide +kernel
theorem dX8_about_76 : decode cX8_about 76 = .ok (.aload_n 0, 1) := by decide +kernel
theorem dX8_about_77 : decode cX8_about 77 = .ok (.iload_n 1, 1) := by decide +kernel
theorem dX8_about_78 : decode cX8_about 78 = .ok (.invokevirtual 191, 3) := by decide +kernel
theorem dX8_about_81 : decode cX8_about 81 = .ok (.ifCond .eq 7, 3) := by decide +kernel
theorem dX8_about_84 : decode cX8_about 84 = .ok (.iconst 1, 1) := by decide +kernel
theorem dX8_about_85 : decode cX8_about 85 = .ok (.goto 4, 3) := by decide +kernel
theorem dX8_about_88 : decode cX8_about 88 = .ok (.iconst 0, 1) := by decide +kernel
theorem dX8_about_89 : decode cX8_about 89 = .ok (.ireturn, 1) := by decide +kernel
theorem dX8_about_90 : decode cX8_about 90 = .ok (.aload_n 0, 1) := by decide +kernel
theorem dX8_about_91 : decode cX8_about 91 = .ok (.iload_n 1, 1) := by decide +kernel
theorem dX8_about_92 : decode cX8_about 92 = .ok (.invokevirtual 194, 3) := by decide +kernel
theorem dX8_about_95 : decode cX8_about 95 = .ok (.ireturn, 1) := by decide +kernel
theorem dX8_about_96 : decode cX8_about 96 = .ok (.aload_n 0, 1) := by decide +kernel
theorem dX8_about_97 : decode cX8_about 97 = .ok (.getfield 40, 3) := by decide +kernel
theorem dX8_about_100 : decode cX8_about 100 = .ok (.iload_n 1, 1) := by decide +kernel
theorem dX8_about_101 : decode cX8_about 101 = .ok (.invokevirtual 197, 3) := by decide +kernel
theorem dX8_about_104 : decode cX8_about 104 = .ok (.ireturn, 1) := by decide +kernel
theorem dX8_about_105 : decode cX8_about 105 = .ok (.aload_n 0, 1) := by decide +kernel
theorem dX8_about_106 : decode cX8_about 106 = .ok (.getfield 40, 3) := by decide +kernel
theorem dX8_about_109 : decode cX8_about 109 = .ok (.iload_n 1, 1) := by decide +kernel
theorem dX8_about_110 : decode cX8_about 110 = .ok (.invokevirtual 200, 3) := by decide +kernel
theorem dX8_about_113 : decode cX8_about 113 = .ok (.ireturn, 1) := by decide +kernel
theorem dX8_about_114 : decode cX8_about 114 = .ok (.aload_n 0, 1) := by decide +kernel
theorem dX8_about_115 : decode cX8_about 115 = .ok (.getfield 40, 3) := by decide +kernel
theorem dX8_about_118 : decode cX8_about 118 = .ok (.iload_n 1, 1) := by decide +kernel
theorem dX8_about_119 : decode cX8_about 119 = .ok (.invokevirtual 203, 3) := by decide +kernel
theorem dX8_about_122 : decode cX8_about 122 = .ok (.ireturn, 1) := by decide +kernel
theorem dX8_about_123 : decode cX8_about 123 = .ok (.new 138, 3) := by decide +kernel
theorem dX8_about_126 : decode cX8_about 126 = .ok (.dup, 1) := by decide +kernel
theorem dX8_about_127 : decode cX8_about 127 = .ok (.ldc 206, 2) := by decide +kernel
theorem dX8_about_129 : decode cX8_about 129 = .ok (.invokespecial 142, 3) := by decide +kernel
theorem dX8_about_132 : decode cX8_about 132 = .ok (.athrow, 1) := by decide +kernel
theorem dX8_ring_0 : decode cX8_ring 0 = .ok (.aload_n 0, 1) := by decide +kernel
theorem dX8_ring_1 : decode cX8_ring 1 = .ok (.iload_n 1, 1) := by decide +kernel
theorem dX8_ring_2 : decode cX8_ring 2 = .ok (.invokevirtual 90, 3) := by decide +kernel
theorem dX8_ring_5 : decode cX8_ring 5 = .ok (.ifCond .eq 14, 3) := by decide +kernel
theorem dX8_ring_8 : decode cX8_ring 8 = .ok (.aload_n 0, 1) := by decide +kernel
theorem dX8_ring_9 : decode cX8_ring 9 = .ok (.getfield 40, 3) := by decide +kernel
theorem dX8_ring_12 : decode cX8_ring 12 = .ok (.iload_n 1, 1) := by decide +kernel
theorem dX8_ring_13 : decode cX8_ring 13 = .ok (.invokevirtual 208, 3) := by decide +kernel
theorem dX8_ring_16 : decode cX8_ring 16 = .ok (.goto 4, 3) := by decide +kernel
theorem dX8_ring_19 : decode cX8_ring 19 = .ok (.aconst_null, 1) := by decide +kernel
theorem dX8_ring_20 : decode cX8_ring 20 = .ok (.astore_n 2, 1) := by decide +kernel
theorem dX8_ring_21 : decode cX8_ring 21 = .ok (.aload_n 2, 1) := by decide +kernel
theorem dX8_ring_22 : decode cX8_ring 22 = .ok (.ifnonnull 7, 3) := by decide +kernel
theorem dX8_ring_25 : decode cX8_ring 25 = .ok (.iconst (-1), 1) := by decide +kernel
theorem dX8_ring_26 : decode cX8_ring 26 = .ok (.goto 15, 3) := by decide +kernel
theorem dX8_ring_29 : decode cX8_ring 29 = .ok (.aload_n 0, 1) := by decide +kernel
theorem dX8_ring_30 : decode cX8_ring 30 = .ok (.getfield 40, 3) := by decide +kernel
theorem dX8_ring_33 : decode cX8_ring 33 = .ok (.iload_n 1, 1) := by decide +kernel
theorem dX8_ring_34 : decode cX8_ring 34 = .ok (.aload_n 2, 1) := by decide +kernel
theorem dX8_ring_35 : decode cX8_ring 35 = .ok (.getfield 211, 3) := by decide +kernel
theorem dX8_ring_38 : decode cX8_ring 38 = .ok (.invokevirtual 215, 3) := by decide +kernel
theorem dX8_ring_41 : decode cX8_ring 41 = .ok (.ireturn, 1) := by decide +kernel
theorem dX8_count_0 : decode cX8_count 0 = .ok (.iload_n 1, 1) := by decide +kernel
theorem dX8_count_1 : decode cX8_count 1 = .ok (.tableswitch 105 0 7 #[47, 52, 57, 65, 73, 81, 89, 97], 47) := by decide +kernel
theorem dX8_count_48 : decode cX8_count 48 = .ok (.aload_n 0, 1) := by decide +kernel
theorem dX8_count_49 : decode cX8_count 49 = .ok (.getfield 52, 3) := by decide +kernel
theorem dX8_count_52 : decode cX8_count 52 = .ok (.ireturn, 1) := by decide +kernel
theorem dX8_count_53 : decode cX8_count 53 = .ok (.aload_n 0, 1) := by decide +kernel
theorem dX8_count_54 : decode cX8_count 54 = .ok (.getfield 48, 3) := by decide +kernel
theorem dX8_count_57 : decode cX8_count 57 = .ok (.ireturn, 1) := by decide +kernel
theorem dX8_count_58 : decode cX8_count 58 = .ok (.aload_n 0, 1) := by decide +kernel
theorem dX8_count_59 : decode cX8_count 59 = .ok (.getfield 33, 3) := by decide +kernel
theorem dX8_count_62 : decode cX8_count 62 = .ok (.invokevirtual 219, 3) := by decide +kernel
theorem dX8_count_65 : decode cX8_count 65 = .ok (.ireturn, 1) := by decide +kernel
theorem dX8_count_66 : decode cX8_count 66 = .ok (.aload_n 0, 1) := by decide +kernel
theorem dX8_count_67 : decode cX8_count 67 = .ok (.getfield 40, 3) := by decide +kernel
theorem dX8_count_70 : decode cX8_count 70 = .ok (.invokevirtual 222, 3) := by decide +kernel
theorem dX8_count_73 : decode cX8_count 73 = .ok (.ireturn, 1) := by decide +kernel
theorem dX8_count_74 : decode cX8_count 74 = .ok (.aload_n 0, 1) := by decide +kernel
theorem dX8_count_75 : decode cX8_count 75 = .ok (.getfield 40, 3) := by decide +kernel
theorem dX8_count_78 : decode cX8_count 78 = .ok (.invokevirtual 225, 3) := by decide +kernel
theorem dX8_count_81 : decode cX8_count 81 = .ok (.ireturn, 1) := by decide +kernel
theorem dX8_count_82 : decode cX8_count 82 = .ok (.aload_n 0, 1) := by decide +kernel
theorem dX8_count_83 : decode cX8_count 83 = .ok (.getfield 40, 3) := by decide +kernel
theorem dX8_count_86 : decode cX8_count 86 = .ok (.invokevirtual 228, 3) := by decide +kernel
theorem dX8_count_89 : decode cX8_count 89 = .ok (.ireturn, 1) := by decide +kernel
theorem dX8_count_90 : decode cX8_count 90 = .ok (.aload_n 0, 1) := by decide +kernel
theorem dX8_count_91 : decode cX8_count 91 = .ok (.getfield 33, 3) := by decide +kernel
theorem dX8_count_94 : decode cX8_count 94 = .ok (.invokevirtual 231, 3) := by decide +kernel
theorem dX8_count_97 : decode cX8_count 97 = .ok (.ireturn, 1) := by decide +kernel
theorem dX8_count_98 : decode cX8_count 98 = .ok (.aload_n 0, 1) := by decide +kernel
theorem dX8_count_99 : decode cX8_count 99 = .ok (.getfield 10, 3) := by decide +kernel
theorem dX8_count_102 : decode cX8_count 102 = .ok (.invokevirtual 63, 3) := by decide +kernel
theorem dX8_count_105 : decode cX8_count 105 = .ok (.ireturn, 1) := by decide +kernel
theorem dX8_count_106 : decode cX8_count 106 = .ok (.iconst (-1), 1) := by decide +kernel
theorem dX8_count_107 : decode cX8_count 107 = .ok (.ireturn, 1) := by decide +kernel
theorem dX8_isPerson_0 : decode cX8_isPerson 0 = .ok (.iload_n 1, 1) := by decide +kernel
theorem dX8_isPerson_1 : decode cX8_isPerson 1 = .ok (.ifCond .lt 15, 3) := by decide +kernel
theorem dX8_isPerson_4 : decode cX8_isPerson 4 = .ok (.iload_n 1, 1) := by decide +kernel
theorem dX8_isPerson_5 : decode cX8_isPerson 5 = .ok (.aload_n 0, 1) := by decide +kernel
theorem dX8_isPerson_6 : decode cX8_isPerson 6 = .ok (.getfield 48, 3) := by decide +kernel
theorem dX8_isPerson_9 : decode cX8_isPerson 9 = .ok (.if_icmp .ge 7, 3) := by decide +kernel
theorem dX8_isPerson_12 : decode cX8_isPerson 12 = .ok (.iconst 1, 1) := by decide +kernel
theorem dX8_isPerson_13 : decode cX8_isPerson 13 = .ok (.goto 4, 3) := by decide +kernel
theorem dX8_isPerson_16 : decode cX8_isPerson 16 = .ok (.iconst 0, 1) := by decide +kernel
theorem dX8_isPerson_17 : decode cX8_isPerson 17 = .ok (.ireturn, 1) := by decide +kernel
theorem dX8_isTag_0 : decode cX8_isTag 0 = .ok (.iload_n 0, 1) := by decide +kernel
theorem dX8_isTag_1 : decode cX8_isTag 1 = .ok (.ifCond .lt 13, 3) := by decide +kernel
theorem dX8_isTag_4 : decode cX8_isTag 4 = .ok (.iload_n 0, 1) := by decide +kernel
theorem dX8_isTag_5 : decode cX8_isTag 5 = .ok (.bipush 8, 2) := by decide +kernel
theorem dX8_isTag_7 : decode cX8_isTag 7 = .ok (.if_icmp .ge 7, 3) := by decide +kernel
theorem dX8_isTag_10 : decode cX8_isTag 10 = .ok (.iconst 1, 1) := by decide +kernel
theorem dX8_isTag_11 : decode cX8_isTag 11 = .ok (.goto 4, 3) := by decide +kernel
theorem dX8_isTag_14 : decode cX8_isTag 14 = .ok (.iconst 0, 1) := by decide +kernel
theorem dX8_isTag_15 : decode cX8_isTag 15 = .ok (.ireturn, 1) := by decide +kernel
theorem dX8_isBarred_0 : decode cX8_isBarred 0 = .ok (.aload_n 0, 1) := by decide +kernel
theorem dX8_isBarred_1 : decode cX8_isBarred 1 = .ok (.getfield 40, 3) := by decide +kernel
theorem dX8_isBarred_4 : decode cX8_isBarred 4 = .ok (.iload_n 1, 1) := by decide +kernel
theorem dX8_isBarred_5 : decode cX8_isBarred 5 = .ok (.invokevirtual 200, 3) := by decide +kernel
theorem dX8_isBarred_8 : decode cX8_isBarred 8 = .ok (.ifCond .gt 24, 3) := by decide +kernel
theorem dX8_isBarred_11 : decode cX8_isBarred 11 = .ok (.aload_n 0, 1) := by decide +kernel
theorem dX8_isBarred_12 : decode cX8_isBarred 12 = .ok (.getfield 40, 3) := by decide +kernel
theorem dX8_isBarred_15 : decode cX8_isBarred 15 = .ok (.iload_n 1, 1) := by decide +kernel
theorem dX8_isBarred_16 : decode cX8_isBarred 16 = .ok (.invokevirtual 234, 3) := by decide +kernel
theorem dX8_isBarred_19 : decode cX8_isBarred 19 = .ok (.aload_n 0, 1) := by decide +kernel
theorem dX8_isBarred_20 : decode cX8_isBarred 20 = .ok (.getfield 26, 3) := by decide +kernel
theorem dX8_isBarred_23 : decode cX8_isBarred 23 = .ok (.getstatic 237, 3) := by decide +kernel
theorem dX8_isBarred_26 : decode cX8_isBarred 26 = .ok (.invokevirtual 86, 3) := by decide +kernel
theorem dX8_isBarred_29 : decode cX8_isBarred 29 = .ok (.if_icmp .lt 7, 3) := by decide +kernel
theorem dX8_isBarred_32 : decode cX8_isBarred 32 = .ok (.iconst 1, 1) := by decide +kernel
theorem dX8_isBarred_33 : decode cX8_isBarred 33 = .ok (.goto 4, 3) := by decide +kernel
theorem dX8_isBarred_36 : decode cX8_isBarred 36 = .ok (.iconst 0, 1) := by decide +kernel
theorem dX8_isBarred_37 : decode cX8_isBarred 37 = .ok (.ireturn, 1) := by decide +kernel
theorem dX8_openLoanNumber_0 : decode cX8_openLoanNumber 0 = .ok (.aload_n 0, 1) := by decide +kernel
theorem dX8_openLoanNumber_1 : decode cX8_openLoanNumber 1 = .ok (.getfield 40, 3) := by decide +kernel
theorem dX8_openLoanNumber_4 : decode cX8_openLoanNumber 4 = .ok (.iload_n 1, 1) := by decide +kernel
theorem dX8_openLoanNumber_5 : decode cX8_openLoanNumber 5 = .ok (.invokevirtual 208, 3) := by decide +kernel
theorem dX8_openLoanNumber_8 : decode cX8_openLoanNumber 8 = .ok (.astore_n 2, 1) := by decide +kernel
theorem dX8_openLoanNumber_9 : decode cX8_openLoanNumber 9 = .ok (.aload_n 2, 1) := by decide +kernel
theorem dX8_openLoanNumber_10 : decode cX8_openLoanNumber 10 = .ok (.ifnonnull 7, 3) := by decide +kernel
theorem dX8_openLoanNumber_13 : decode cX8_openLoanNumber 13 = .ok (.iconst (-1), 1) := by decide +kernel
theorem dX8_openLoanNumber_14 : decode cX8_openLoanNumber 14 = .ok (.goto 7, 3) := by decide +kernel
theorem dX8_openLoanNumber_17 : decode cX8_openLoanNumber 17 = .ok (.aload_n 2, 1) := by decide +kernel
theorem dX8_openLoanNumber_18 : decode cX8_openLoanNumber 18 = .ok (.getfield 243, 3) := by decide +kernel
theorem dX8_openLoanNumber_21 : decode cX8_openLoanNumber 21 = .ok (.ireturn, 1) := by decide +kernel
theorem dX8_whyRefused_0 : decode cX8_whyRefused 0 = .ok (.aload_n 0, 1) := by decide +kernel
theorem dX8_whyRefused_1 : decode cX8_whyRefused 1 = .ok (.iload_n 1, 1) := by decide +kernel
theorem dX8_whyRefused_2 : decode cX8_whyRefused 2 = .ok (.iload_n 2, 1) := by decide +kernel
theorem dX8_whyRefused_3 : decode cX8_whyRefused 3 = .ok (.invokevirtual 246, 3) := by decide +kernel
theorem dX8_whyRefused_6 : decode cX8_whyRefused 6 = .ok (.istore_n 3, 1) := by decide +kernel
theorem dX8_whyRefused_7 : decode cX8_whyRefused 7 = .ok (.iload_n 3, 1) := by decide +kernel
theorem dX8_whyRefused_8 : decode cX8_whyRefused 8 = .ok (.ifCond .ne 9, 3) := by decide +kernel
theorem dX8_whyRefused_11 : decode cX8_whyRefused 11 = .ok (.aload_n 0, 1) := by decide +kernel
theorem dX8_whyRefused_12 : decode cX8_whyRefused 12 = .ok (.iload_n 1, 1) := by decide +kernel
theorem dX8_whyRefused_13 : decode cX8_whyRefused 13 = .ok (.invokevirtual 249, 3) := by decide +kernel
theorem dX8_whyRefused_16 : decode cX8_whyRefused 16 = .ok (.istore_n 3, 1) := by decide +kernel
theorem dX8_whyRefused_17 : decode cX8_whyRefused 17 = .ok (.iload_n 3, 1) := by decide +kernel
theorem dX8_whyRefused_18 : decode cX8_whyRefused 18 = .ok (.ifCond .eq 5, 3) := by decide +kernel
theorem dX8_whyRefused_21 : decode cX8_whyRefused 21 = .ok (.iload_n 3, 1) := by decide +kernel
theorem dX8_whyRefused_22 : decode cX8_whyRefused 22 = .ok (.ireturn, 1) := by decide +kernel
theorem dX8_whyRefused_23 : decode cX8_whyRefused 23 = .ok (.aload_n 0, 1) := by decide +kernel
theorem dX8_whyRefused_24 : decode cX8_whyRefused 24 = .ok (.getfield 40, 3) := by decide +kernel
theorem dX8_whyRefused_27 : decode cX8_whyRefused 27 = .ok (.iload_n 1, 1) := by decide +kernel
theorem dX8_whyRefused_28 : decode cX8_whyRefused 28 = .ok (.aload_n 0, 1) := by decide +kernel
theorem dX8_whyRefused_29 : decode cX8_whyRefused 29 = .ok (.invokevirtual 252, 3) := by decide +kernel
theorem dX8_whyRefused_32 : decode cX8_whyRefused 32 = .ok (.invokevirtual 215, 3) := by decide +kernel
theorem dX8_whyRefused_35 : decode cX8_whyRefused 35 = .ok (.istore 4, 2) := by decide +kernel
theorem dX8_whyRefused_37 : decode cX8_whyRefused 37 = .ok (.iload 4, 2) := by decide +kernel
theorem dX8_whyRefused_39 : decode cX8_whyRefused 39 = .ok (.iconst (-1), 1) := by decide +kernel
theorem dX8_whyRefused_40 : decode cX8_whyRefused 40 = .ok (.if_icmp .eq 21, 3) := by decide +kernel
theorem dX8_whyRefused_43 : decode cX8_whyRefused 43 = .ok (.iload 4, 2) := by decide +kernel
theorem dX8_whyRefused_45 : decode cX8_whyRefused 45 = .ok (.aload_n 0, 1) := by decide +kernel
theorem dX8_whyRefused_46 : decode cX8_whyRefused 46 = .ok (.getfield 26, 3) := by decide +kernel
theorem dX8_whyRefused_49 : decode cX8_whyRefused 49 = .ok (.getstatic 256, 3) := by decide +kernel
theorem dX8_whyRefused_52 : decode cX8_whyRefused 52 = .ok (.invokevirtual 86, 3) := by decide +kernel
theorem dX8_whyRefused_55 : decode cX8_whyRefused 55 = .ok (.if_icmp .gt 6, 3) := by decide +kernel
theorem dX8_whyRefused_58 : decode cX8_whyRefused 58 = .ok (.bipush 9, 2) := by decide +kernel
theorem dX8_whyRefused_60 : decode cX8_whyRefused 60 = .ok (.ireturn, 1) := by decide +kernel
theorem dX8_whyRefused_61 : decode cX8_whyRefused 61 = .ok (.aload_n 0, 1) := by decide +kernel
theorem dX8_whyRefused_62 : decode cX8_whyRefused 62 = .ok (.getfield 33, 3) := by decide +kernel
theorem dX8_whyRefused_65 : decode cX8_whyRefused 65 = .ok (.aload_n 0, 1) := by decide +kernel
theorem dX8_whyRefused_66 : decode cX8_whyRefused 66 = .ok (.getfield 44, 3) := by decide +kernel
theorem dX8_whyRefused_69 : decode cX8_whyRefused 69 = .ok (.iload_n 1, 1) := by decide +kernel
theorem dX8_whyRefused_70 : decode cX8_whyRefused 70 = .ok (.iaload, 1) := by decide +kernel
theorem dX8_whyRefused_71 : decode cX8_whyRefused 71 = .ok (.aload_n 0, 1) := by decide +kernel
theorem dX8_whyRefused_72 : decode cX8_whyRefused 72 = .ok (.getfield 26, 3) := by decide +kernel
theorem dX8_whyRefused_75 : decode cX8_whyRefused 75 = .ok (.getstatic 259, 3) := by decide +kernel
theorem dX8_whyRefused_78 : decode cX8_whyRefused 78 = .ok (.invokevirtual 86, 3) := by decide +kernel
theorem dX8_whyRefused_81 : decode cX8_whyRefused 81 = .ok (.invokevirtual 262, 3) := by decide +kernel
theorem dX8_whyRefused_84 : decode cX8_whyRefused 84 = .ok (.iload_n 2, 1) := by decide +kernel
theorem dX8_whyRefused_85 : decode cX8_whyRefused 85 = .ok (.if_icmp .ge 8, 3) := by decide +kernel
theorem dX8_whyRefused_88 : decode cX8_whyRefused 88 = .ok (.bipush 10, 2) := by decide +kernel
theorem dX8_whyRefused_90 : decode cX8_whyRefused 90 = .ok (.goto 4, 3) := by decide +kernel
theorem dX8_whyRefused_93 : decode cX8_whyRefused 93 = .ok (.iconst 0, 1) := by decide +kernel
theorem dX8_whyRefused_94 : decode cX8_whyRefused 94 = .ok (.ireturn, 1) := by decide +kernel
theorem dX8_whyRefusedForBorrower_0 : decode cX8_whyRefusedForBorrower 0 = .ok (.aload_n 0, 1) := by decide +kernel
theorem dX8_whyRefusedForBorrower_1 : decode cX8_whyRefusedForBorrower 1 = .ok (.iload_n 1, 1) := by decide +kernel
theorem dX8_whyRefusedForBorrower_2 : decode cX8_whyRefusedForBorrower 2 = .ok (.invokevirtual 90, 3) := by decide +kernel
theorem dX8_whyRefusedForBorrower_5 : decode cX8_whyRefusedForBorrower 5 = .ok (.ifCond .ne 5, 3) := by decide +kernel
theorem dX8_whyRefusedForBorrower_8 : decode cX8_whyRefusedForBorrower 8 = .ok (.iconst 1, 1) := by decide +kernel
theorem dX8_whyRefusedForBorrower_9 : decode cX8_whyRefusedForBorrower 9 = .ok (.ireturn, 1) := by decide +kernel
theorem dX8_whyRefusedForBorrower_10 : decode cX8_whyRefusedForBorrower 10 = .ok (.iload_n 2, 1) := by decide +kernel
theorem dX8_whyRefusedForBorrower_11 : decode cX8_whyRefusedForBorrower 11 = .ok (.iconst 1, 1) := by decide +kernel
theorem dX8_whyRefusedForBorrower_12 : decode cX8_whyRefusedForBorrower 12 = .ok (.if_icmp .lt 29, 3) := by decide +kernel
theorem dX8_whyRefusedForBorrower_15 : decode cX8_whyRefusedForBorrower 15 = .ok (.iload_n 2, 1) := by decide +kernel
theorem dX8_whyRefusedForBorrower_16 : decode cX8_whyRefusedForBorrower 16 = .ok (.aload_n 0, 1) := by decide +kernel
theorem dX8_whyRefusedForBorrower_17 : decode cX8_whyRefusedForBorrower 17 = .ok (.getfield 26, 3) := by decide +kernel
theorem dX8_whyRefusedForBorrower_20 : decode cX8_whyRefusedForBorrower 20 = .ok (.getstatic 265, 3) := by decide +kernel
theorem dX8_whyRefusedForBorrower_23 : decode cX8_whyRefusedForBorrower 23 = .ok (.invokevirtual 86, 3) := by decide +kernel
theorem dX8_whyRefusedForBorrower_26 : decode cX8_whyRefusedForBorrower 26 = .ok (.if_icmp .gt 15, 3) := by decide +kernel
theorem dX8_whyRefusedForBorrower_29 : decode cX8_whyRefusedForBorrower 29 = .ok (.aload_n 0, 1) := by decide +kernel
theorem dX8_whyRefusedForBorrower_30 : decode cX8_whyRefusedForBorrower 30 = .ok (.getfield 40, 3) := by decide +kernel
theorem dX8_whyRefusedForBorrower_33 : decode cX8_whyRefusedForBorrower 33 = .ok (.invokevirtual 222, 3) := by decide +kernel
theorem dX8_whyRefusedForBorrower_36 : decode cX8_whyRefusedForBorrower 36 = .ok (.bipush 100, 2) := by decide +kernel
theorem dX8_whyRefusedForBorrower_38 : decode cX8_whyRefusedForBorrower 38 = .ok (.if_icmp .lt 5, 3) := by decide +kernel
theorem dX8_whyRefusedForBorrower_41 : decode cX8_whyRefusedForBorrower 41 = .ok (.iconst 2, 1) := by decide +kernel
theorem dX8_whyRefusedForBorrower_42 : decode cX8_whyRefusedForBorrower 42 = .ok (.ireturn, 1) := by decide +kernel
theorem dX8_whyRefusedForBorrower_43 : decode cX8_whyRefusedForBorrower 43 = .ok (.aload_n 0, 1) := by decide +kernel
theorem dX8_whyRefusedForBorrower_44 : decode cX8_whyRefusedForBorrower 44 = .ok (.getfield 40, 3) := by decide +kernel
theorem dX8_whyRefusedForBorrower_47 : decode cX8_whyRefusedForBorrower 47 = .ok (.iload_n 1, 1) := by decide +kernel
theorem dX8_whyRefusedForBorrower_48 : decode cX8_whyRefusedForBorrower 48 = .ok (.invokevirtual 208, 3) := by decide +kernel
theorem dX8_whyRefusedForBorrower_51 : decode cX8_whyRefusedForBorrower 51 = .ok (.ifnull 5, 3) := by decide +kernel
theorem dX8_whyRefusedForBorrower_54 : decode cX8_whyRefusedForBorrower 54 = .ok (.iconst 3, 1) := by decide +kernel
theorem dX8_whyRefusedForBorrower_55 : decode cX8_whyRefusedForBorrower 55 = .ok (.ireturn, 1) := by decide +kernel
theorem dX8_whyRefusedForBorrower_56 : decode cX8_whyRefusedForBorrower 56 = .ok (.aload_n 0, 1) := by decide +kernel
theorem dX8_whyRefusedForBorrower_57 : decode cX8_whyRefusedForBorrower 57 = .ok (.iload_n 1, 1) := by decide +kernel
theorem dX8_whyRefusedForBorrower_58 : decode cX8_whyRefusedForBorrower 58 = .ok (.invokevirtual 191, 3) := by decide +kernel
theorem dX8_whyRefusedForBorrower_61 : decode cX8_whyRefusedForBorrower 61 = .ok (.ifCond .eq 7, 3) := by decide +kernel
theorem dX8_whyRefusedForBorrower_64 : decode cX8_whyRefusedForBorrower 64 = .ok (.iconst 4, 1) := by decide +kernel
theorem dX8_whyRefusedForBorrower_65 : decode cX8_whyRefusedForBorrower 65 = .ok (.goto 4, 3) := by decide +kernel
theorem dX8_whyRefusedForBorrower_68 : decode cX8_whyRefusedForBorrower 68 = .ok (.iconst 0, 1) := by decide +kernel
theorem dX8_whyRefusedForBorrower_69 : decode cX8_whyRefusedForBorrower 69 = .ok (.ireturn, 1) := by decide +kernel
theorem dX8_whyRefusedForSureties_0 : decode cX8_whyRefusedForSureties 0 = .ok (.aload_n 0, 1) := by decide +kernel
theorem dX8_whyRefusedForSureties_1 : decode cX8_whyRefusedForSureties 1 = .ok (.getfield 10, 3) := by decide +kernel
theorem dX8_whyRefusedForSureties_4 : decode cX8_whyRefusedForSureties 4 = .ok (.invokevirtual 63, 3) := by decide +kernel
theorem dX8_whyRefusedForSureties_7 : decode cX8_whyRefusedForSureties 7 = .ok (.aload_n 0, 1) := by decide +kernel
theorem dX8_whyRefusedForSureties_8 : decode cX8_whyRefusedForSureties 8 = .ok (.getfield 26, 3) := by decide +kernel
theorem dX8_whyRefusedForSureties_11 : decode cX8_whyRefusedForSureties 11 = .ok (.getstatic 268, 3) := by decide +kernel
theorem dX8_whyRefusedForSureties_14 : decode cX8_whyRefusedForSureties 14 = .ok (.invokevirtual 86, 3) := by decide +kernel
theorem dX8_whyRefusedForSureties_17 : decode cX8_whyRefusedForSureties 17 = .ok (.if_icmp .eq 5, 3) := by decide +kernel
theorem dX8_whyRefusedForSureties_20 : decode cX8_whyRefusedForSureties 20 = .ok (.iconst 5, 1) := by decide +kernel
theorem dX8_whyRefusedForSureties_21 : decode cX8_whyRefusedForSureties 21 = .ok (.ireturn, 1) := by decide +kernel
theorem dX8_whyRefusedForSureties_22 : decode cX8_whyRefusedForSureties 22 = .ok (.aload_n 0, 1) := by decide +kernel
theorem dX8_whyRefusedForSureties_23 : decode cX8_whyRefusedForSureties 23 = .ok (.iload_n 1, 1) := by decide +kernel
theorem dX8_whyRefusedForSureties_24 : decode cX8_whyRefusedForSureties 24 = .ok (.invokevirtual 271, 3) := by decide +kernel
theorem dX8_whyRefusedForSureties_27 : decode cX8_whyRefusedForSureties 27 = .ok (.ifCond .ne 6, 3) := by decide +kernel
theorem dX8_whyRefusedForSureties_30 : decode cX8_whyRefusedForSureties 30 = .ok (.bipush 6, 2) := by decide +kernel
theorem dX8_whyRefusedForSureties_32 : decode cX8_whyRefusedForSureties 32 = .ok (.ireturn, 1) := by decide +kernel
theorem dX8_whyRefusedForSureties_33 : decode cX8_whyRefusedForSureties 33 = .ok (.iconst 0, 1) := by decide +kernel
theorem dX8_whyRefusedForSureties_34 : decode cX8_whyRefusedForSureties 34 = .ok (.istore_n 2, 1) := by decide +kernel
theorem dX8_whyRefusedForSureties_35 : decode cX8_whyRefusedForSureties 35 = .ok (.iload_n 2, 1) := by decide +kernel
theorem dX8_whyRefusedForSureties_36 : decode cX8_whyRefusedForSureties 36 = .ok (.aload_n 0, 1) := by decide +kernel
theorem dX8_whyRefusedForSureties_37 : decode cX8_whyRefusedForSureties 37 = .ok (.getfield 10, 3) := by decide +kernel
theorem dX8_whyRefusedForSureties_40 : decode cX8_whyRefusedForSureties 40 = .ok (.invokevirtual 63, 3) := by decide +kernel
theorem dX8_whyRefusedForSureties_43 : decode cX8_whyRefusedForSureties 43 = .ok (.if_icmp .ge 27, 3) := by decide +kernel
theorem dX8_whyRefusedForSureties_46 : decode cX8_whyRefusedForSureties 46 = .ok (.aload_n 0, 1) := by decide +kernel
theorem dX8_whyRefusedForSureties_47 : decode cX8_whyRefusedForSureties 47 = .ok (.aload_n 0, 1) := by decide +kernel
theorem dX8_whyRefusedForSureties_48 : decode cX8_whyRefusedForSureties 48 = .ok (.getfield 10, 3) := by decide +kernel
theorem dX8_whyRefusedForSureties_51 : decode cX8_whyRefusedForSureties 51 = .ok (.iload_n 2, 1) := by decide +kernel
theorem dX8_whyRefusedForSureties_52 : decode cX8_whyRefusedForSureties 52 = .ok (.invokevirtual 274, 3) := by decide +kernel
theorem dX8_whyRefusedForSureties_55 : decode cX8_whyRefusedForSureties 55 = .ok (.invokevirtual 191, 3) := by decide +kernel
theorem dX8_whyRefusedForSureties_58 : decode cX8_whyRefusedForSureties 58 = .ok (.ifCond .eq 6, 3) := by decide +kernel
theorem dX8_whyRefusedForSureties_61 : decode cX8_whyRefusedForSureties 61 = .ok (.bipush 7, 2) := by decide +kernel
theorem dX8_whyRefusedForSureties_63 : decode cX8_whyRefusedForSureties 63 = .ok (.ireturn, 1) := by decide +kernel
theorem dX8_whyRefusedForSureties_64 : decode cX8_whyRefusedForSureties 64 = .ok (.iinc 2 1, 3) := by decide +kernel
theorem dX8_whyRefusedForSureties_67 : decode cX8_whyRefusedForSureties 67 = .ok (.goto (-32), 3) := by decide +kernel
theorem dX8_whyRefusedForSureties_70 : decode cX8_whyRefusedForSureties 70 = .ok (.iconst 0, 1) := by decide +kernel
theorem dX8_whyRefusedForSureties_71 : decode cX8_whyRefusedForSureties 71 = .ok (.istore_n 2, 1) := by decide +kernel
theorem dX8_whyRefusedForSureties_72 : decode cX8_whyRefusedForSureties 72 = .ok (.iload_n 2, 1) := by decide +kernel
theorem dX8_whyRefusedForSureties_73 : decode cX8_whyRefusedForSureties 73 = .ok (.aload_n 0, 1) := by decide +kernel
theorem dX8_whyRefusedForSureties_74 : decode cX8_whyRefusedForSureties 74 = .ok (.getfield 10, 3) := by decide +kernel
theorem dX8_whyRefusedForSureties_77 : decode cX8_whyRefusedForSureties 77 = .ok (.invokevirtual 63, 3) := by decide +kernel
theorem dX8_whyRefusedForSureties_80 : decode cX8_whyRefusedForSureties 80 = .ok (.if_icmp .ge 40, 3) := by decide +kernel
theorem dX8_whyRefusedForSureties_83 : decode cX8_whyRefusedForSureties 83 = .ok (.aload_n 0, 1) := by decide +kernel
theorem dX8_whyRefusedForSureties_84 : decode cX8_whyRefusedForSureties 84 = .ok (.getfield 40, 3) := by decide +kernel
theorem dX8_whyRefusedForSureties_87 : decode cX8_whyRefusedForSureties 87 = .ok (.aload_n 0, 1) := by decide +kernel
theorem dX8_whyRefusedForSureties_88 : decode cX8_whyRefusedForSureties 88 = .ok (.getfield 10, 3) := by decide +kernel
theorem dX8_whyRefusedForSureties_91 : decode cX8_whyRefusedForSureties 91 = .ok (.iload_n 2, 1) := by decide +kernel
theorem dX8_whyRefusedForSureties_92 : decode cX8_whyRefusedForSureties 92 = .ok (.invokevirtual 274, 3) := by decide +kernel
theorem dX8_whyRefusedForSureties_95 : decode cX8_whyRefusedForSureties 95 = .ok (.invokevirtual 197, 3) := by decide +kernel
theorem dX8_whyRefusedForSureties_98 : decode cX8_whyRefusedForSureties 98 = .ok (.aload_n 0, 1) := by decide +kernel
theorem dX8_whyRefusedForSureties_99 : decode cX8_whyRefusedForSureties 99 = .ok (.getfield 26, 3) := by decide +kernel
theorem dX8_whyRefusedForSureties_102 : decode cX8_whyRefusedForSureties 102 = .ok (.getstatic 277, 3) := by decide +kernel
theorem dX8_whyRefusedForSureties_105 : decode cX8_whyRefusedForSureties 105 = .ok (.invokevirtual 86, 3) := by decide +kernel
theorem dX8_whyRefusedForSureties_108 : decode cX8_whyRefusedForSureties 108 = .ok (.if_icmp .lt 6, 3) := by decide +kernel
theorem dX8_whyRefusedForSureties_111 : decode cX8_whyRefusedForSureties 111 = .ok (.bipush 8, 2) := by decide +kernel
theorem dX8_whyRefusedForSureties_113 : decode cX8_whyRefusedForSureties 113 = .ok (.ireturn, 1) := by decide +kernel
theorem dX8_whyRefusedForSureties_114 : decode cX8_whyRefusedForSureties 114 = .ok (.iinc 2 1, 3) := by decide +kernel
theorem dX8_whyRefusedForSureties_117 : decode cX8_whyRefusedForSureties 117 = .ok (.goto (-45), 3) := by decide +kernel
theorem dX8_whyRefusedForSureties_120 : decode cX8_whyRefusedForSureties 120 = .ok (.iconst 0, 1) := by decide +kernel
theorem dX8_whyRefusedForSureties_121 : decode cX8_whyRefusedForSureties 121 = .ok (.ireturn, 1) := by decide +kernel
theorem dX8_areOthersAllDifferent_0 : decode cX8_areOthersAllDifferent 0 = .ok (.iload_n 1, 1) := by decide +kernel
theorem dX8_areOthersAllDifferent_1 : decode cX8_areOthersAllDifferent 1 = .ok (.invokestatic 280, 3) := by decide +kernel
theorem dX8_areOthersAllDifferent_4 : decode cX8_areOthersAllDifferent 4 = .ok (.lstore_n 2, 1) := by decide +kernel
theorem dX8_areOthersAllDifferent_5 : decode cX8_areOthersAllDifferent 5 = .ok (.iconst 0, 1) := by decide +kernel
theorem dX8_areOthersAllDifferent_6 : decode cX8_areOthersAllDifferent 6 = .ok (.istore 4, 2) := by decide +kernel
theorem dX8_areOthersAllDifferent_8 : decode cX8_areOthersAllDifferent 8 = .ok (.iload 4, 2) := by decide +kernel
theorem dX8_areOthersAllDifferent_10 : decode cX8_areOthersAllDifferent 10 = .ok (.aload_n 0, 1) := by decide +kernel
theorem dX8_areOthersAllDifferent_11 : decode cX8_areOthersAllDifferent 11 = .ok (.getfield 10, 3) := by decide +kernel
theorem dX8_areOthersAllDifferent_14 : decode cX8_areOthersAllDifferent 14 = .ok (.invokevirtual 63, 3) := by decide +kernel
theorem dX8_areOthersAllDifferent_17 : decode cX8_areOthersAllDifferent 17 = .ok (.if_icmp .ge 51, 3) := by decide +kernel
theorem dX8_areOthersAllDifferent_20 : decode cX8_areOthersAllDifferent 20 = .ok (.aload_n 0, 1) := by decide +kernel
theorem dX8_areOthersAllDifferent_21 : decode cX8_areOthersAllDifferent 21 = .ok (.getfield 10, 3) := by decide +kernel
theorem dX8_areOthersAllDifferent_24 : decode cX8_areOthersAllDifferent 24 = .ok (.iload 4, 2) := by decide +kernel
theorem dX8_areOthersAllDifferent_26 : decode cX8_areOthersAllDifferent 26 = .ok (.invokevirtual 274, 3) := by decide +kernel
theorem dX8_areOthersAllDifferent_29 : decode cX8_areOthersAllDifferent 29 = .ok (.istore 5, 2) := by decide +kernel
theorem dX8_areOthersAllDifferent_31 : decode cX8_areOthersAllDifferent 31 = .ok (.aload_n 0, 1) := by decide +kernel
theorem dX8_areOthersAllDifferent_32 : decode cX8_areOthersAllDifferent 32 = .ok (.iload 5, 2) := by decide +kernel
theorem dX8_areOthersAllDifferent_34 : decode cX8_areOthersAllDifferent 34 = .ok (.invokevirtual 90, 3) := by decide +kernel
theorem dX8_areOthersAllDifferent_37 : decode cX8_areOthersAllDifferent 37 = .ok (.ifCond .eq 15, 3) := by decide +kernel
theorem dX8_areOthersAllDifferent_40 : decode cX8_areOthersAllDifferent 40 = .ok (.lload_n 2, 1) := by decide +kernel
theorem dX8_areOthersAllDifferent_41 : decode cX8_areOthersAllDifferent 41 = .ok (.iload 5, 2) := by decide +kernel
theorem dX8_areOthersAllDifferent_43 : decode cX8_areOthersAllDifferent 43 = .ok (.invokestatic 280, 3) := by decide +kernel
theorem dX8_areOthersAllDifferent_46 : decode cX8_areOthersAllDifferent 46 = .ok (.land, 1) := by decide +kernel
theorem dX8_areOthersAllDifferent_47 : decode cX8_areOthersAllDifferent 47 = .ok (.lconst 0, 1) := by decide +kernel
theorem dX8_areOthersAllDifferent_48 : decode cX8_areOthersAllDifferent 48 = .ok (.lcmp, 1) := by decide +kernel
theorem dX8_areOthersAllDifferent_49 : decode cX8_areOthersAllDifferent 49 = .ok (.ifCond .eq 5, 3) := by decide +kernel
theorem dX8_areOthersAllDifferent_52 : decode cX8_areOthersAllDifferent 52 = .ok (.iconst 0, 1) := by decide +kernel
theorem dX8_areOthersAllDifferent_53 : decode cX8_areOthersAllDifferent 53 = .ok (.ireturn, 1) := by decide +kernel
theorem dX8_areOthersAllDifferent_54 : decode cX8_areOthersAllDifferent 54 = .ok (.lload_n 2, 1) := by decide +kernel
theorem dX8_areOthersAllDifferent_55 : decode cX8_areOthersAllDifferent 55 = .ok (.iload 5, 2) := by decide +kernel
theorem dX8_areOthersAllDifferent_57 : decode cX8_areOthersAllDifferent 57 = .ok (.invokestatic 280, 3) := by decide +kernel
theorem dX8_areOthersAllDifferent_60 : decode cX8_areOthersAllDifferent 60 = .ok (.lor, 1) := by decide +kernel
theorem dX8_areOthersAllDifferent_61 : decode cX8_areOthersAllDifferent 61 = .ok (.lstore_n 2, 1) := by decide +kernel
theorem dX8_areOthersAllDifferent_62 : decode cX8_areOthersAllDifferent 62 = .ok (.iinc 4 1, 3) := by decide +kernel
theorem dX8_areOthersAllDifferent_65 : decode cX8_areOthersAllDifferent 65 = .ok (.goto (-57), 3) := by decide +kernel
theorem dX8_areOthersAllDifferent_68 : decode cX8_areOthersAllDifferent 68 = .ok (.iconst 1, 1) := by decide +kernel
theorem dX8_areOthersAllDifferent_69 : decode cX8_areOthersAllDifferent 69 = .ok (.ireturn, 1) := by decide +kernel
theorem dX8_bitsOnTape_0 : decode cX8_bitsOnTape 0 = .ok (.lconst 0, 1) := by decide +kernel
theorem dX8_bitsOnTape_1 : decode cX8_bitsOnTape 1 = .ok (.lstore_n 1, 1) := by decide +kernel
theorem dX8_bitsOnTape_2 : decode cX8_bitsOnTape 2 = .ok (.iconst 0, 1) := by decide +kernel
theorem dX8_bitsOnTape_3 : decode cX8_bitsOnTape 3 = .ok (.istore_n 3, 1) := by decide +kernel
theorem dX8_bitsOnTape_4 : decode cX8_bitsOnTape 4 = .ok (.iload_n 3, 1) := by decide +kernel
theorem dX8_bitsOnTape_5 : decode cX8_bitsOnTape 5 = .ok (.aload_n 0, 1) := by decide +kernel
theorem dX8_bitsOnTape_6 : decode cX8_bitsOnTape 6 = .ok (.getfield 10, 3) := by decide +kernel
theorem dX8_bitsOnTape_9 : decode cX8_bitsOnTape 9 = .ok (.invokevirtual 63, 3) := by decide +kernel
theorem dX8_bitsOnTape_12 : decode cX8_bitsOnTape 12 = .ok (.if_icmp .ge 23, 3) := by decide +kernel
theorem dX8_bitsOnTape_15 : decode cX8_bitsOnTape 15 = .ok (.lload_n 1, 1) := by decide +kernel
theorem dX8_bitsOnTape_16 : decode cX8_bitsOnTape 16 = .ok (.aload_n 0, 1) := by decide +kernel
theorem dX8_bitsOnTape_17 : decode cX8_bitsOnTape 17 = .ok (.getfield 10, 3) := by decide +kernel
theorem dX8_bitsOnTape_20 : decode cX8_bitsOnTape 20 = .ok (.iload_n 3, 1) := by decide +kernel
theorem dX8_bitsOnTape_21 : decode cX8_bitsOnTape 21 = .ok (.invokevirtual 274, 3) := by decide +kernel
theorem dX8_bitsOnTape_24 : decode cX8_bitsOnTape 24 = .ok (.invokestatic 280, 3) := by decide +kernel
theorem dX8_bitsOnTape_27 : decode cX8_bitsOnTape 27 = .ok (.lor, 1) := by decide +kernel
theorem dX8_bitsOnTape_28 : decode cX8_bitsOnTape 28 = .ok (.lstore_n 1, 1) := by decide +kernel
theorem dX8_bitsOnTape_29 : decode cX8_bitsOnTape 29 = .ok (.iinc 3 1, 3) := by decide +kernel
theorem dX8_bitsOnTape_32 : decode cX8_bitsOnTape 32 = .ok (.goto (-28), 3) := by decide +kernel
theorem dX8_bitsOnTape_35 : decode cX8_bitsOnTape 35 = .ok (.lload_n 1, 1) := by decide +kernel
theorem dX8_bitsOnTape_36 : decode cX8_bitsOnTape 36 = .ok (.lreturn, 1) := by decide +kernel
theorem dX8_lend_0 : decode cX8_lend 0 = .ok (.new 146, 3) := by decide +kernel
theorem dX8_lend_3 : decode cX8_lend 3 = .ok (.dup, 1) := by decide +kernel
theorem dX8_lend_4 : decode cX8_lend 4 = .ok (.aload_n 0, 1) := by decide +kernel
theorem dX8_lend_5 : decode cX8_lend 5 = .ok (.getfield 40, 3) := by decide +kernel
theorem dX8_lend_8 : decode cX8_lend 8 = .ok (.invokevirtual 222, 3) := by decide +kernel
theorem dX8_lend_11 : decode cX8_lend 11 = .ok (.iload_n 1, 1) := by decide +kernel
theorem dX8_lend_12 : decode cX8_lend 12 = .ok (.iload_n 2, 1) := by decide +kernel
theorem dX8_lend_13 : decode cX8_lend 13 = .ok (.aload_n 0, 1) := by decide +kernel
theorem dX8_lend_14 : decode cX8_lend 14 = .ok (.getfield 52, 3) := by decide +kernel
theorem dX8_lend_17 : decode cX8_lend 17 = .ok (.aload_n 0, 1) := by decide +kernel
theorem dX8_lend_18 : decode cX8_lend 18 = .ok (.getfield 10, 3) := by decide +kernel
theorem dX8_lend_21 : decode cX8_lend 21 = .ok (.invokevirtual 284, 3) := by decide +kernel
theorem dX8_lend_24 : decode cX8_lend 24 = .ok (.aload_n 0, 1) := by decide +kernel
theorem dX8_lend_25 : decode cX8_lend 25 = .ok (.invokevirtual 252, 3) := by decide +kernel
theorem dX8_lend_28 : decode cX8_lend 28 = .ok (.aload_n 0, 1) := by decide +kernel
theorem dX8_lend_29 : decode cX8_lend 29 = .ok (.getfield 26, 3) := by decide +kernel
theorem dX8_lend_32 : decode cX8_lend 32 = .ok (.invokespecial 288, 3) := by decide +kernel
theorem dX8_lend_35 : decode cX8_lend 35 = .ok (.astore_n 3, 1) := by decide +kernel
theorem dX8_lend_36 : decode cX8_lend 36 = .ok (.aload_n 0, 1) := by decide +kernel
theorem dX8_lend_37 : decode cX8_lend 37 = .ok (.getfield 33, 3) := by decide +kernel
theorem dX8_lend_40 : decode cX8_lend 40 = .ok (.aload_n 3, 1) := by decide +kernel
theorem dX8_lend_41 : decode cX8_lend 41 = .ok (.aload_n 0, 1) := by decide +kernel
theorem dX8_lend_42 : decode cX8_lend 42 = .ok (.getfield 44, 3) := by decide +kernel
theorem dX8_lend_45 : decode cX8_lend 45 = .ok (.iload_n 1, 1) := by decide +kernel
theorem dX8_lend_46 : decode cX8_lend 46 = .ok (.iaload, 1) := by decide +kernel
theorem dX8_lend_47 : decode cX8_lend 47 = .ok (.aload_n 0, 1) := by decide +kernel
theorem dX8_lend_48 : decode cX8_lend 48 = .ok (.getfield 26, 3) := by decide +kernel
theorem dX8_lend_51 : decode cX8_lend 51 = .ok (.getstatic 259, 3) := by decide +kernel
theorem dX8_lend_54 : decode cX8_lend 54 = .ok (.invokevirtual 86, 3) := by decide +kernel
theorem dX8_lend_57 : decode cX8_lend 57 = .ok (.invokevirtual 291, 3) := by decide +kernel
theorem dX8_lend_60 : decode cX8_lend 60 = .ok (.aload_n 0, 1) := by decide +kernel
theorem dX8_lend_61 : decode cX8_lend 61 = .ok (.getfield 40, 3) := by decide +kernel
theorem dX8_lend_64 : decode cX8_lend 64 = .ok (.aload_n 3, 1) := by decide +kernel
theorem dX8_lend_65 : decode cX8_lend 65 = .ok (.invokevirtual 295, 3) := by decide +kernel
theorem dX8_lend_68 : decode cX8_lend 68 = .ok (.aload_n 3, 1) := by decide +kernel
theorem dX8_lend_69 : decode cX8_lend 69 = .ok (.getfield 243, 3) := by decide +kernel
theorem dX8_lend_72 : decode cX8_lend 72 = .ok (.ireturn, 1) := by decide +kernel
theorem dX8_bitOf_0 : decode cX8_bitOf 0 = .ok (.lconst 1, 1) := by decide +kernel
theorem dX8_bitOf_1 : decode cX8_bitOf 1 = .ok (.iload_n 0, 1) := by decide +kernel
theorem dX8_bitOf_2 : decode cX8_bitOf 2 = .ok (.lshl, 1) := by decide +kernel
theorem dX8_bitOf_3 : decode cX8_bitOf 3 = .ok (.lreturn, 1) := by decide +kernel
theorem dJ9_max_7cf53_0 : decode cJ9_max_7cf53 0 = .ok (.iload_n 0, 1) := by decide +kernel
theorem dJ9_max_7cf53_1 : decode cJ9_max_7cf53 1 = .ok (.iload_n 1, 1) := by decide +kernel
theorem dJ9_max_7cf53_2 : decode cJ9_max_7cf53 2 = .ok (.if_icmp .lt 7, 3) := by decide +kernel
theorem dJ9_max_7cf53_5 : decode cJ9_max_7cf53 5 = .ok (.iload_n 0, 1) := by decide +kernel
theorem dJ9_max_7cf53_6 : decode cJ9_max_7cf53 6 = .ok (.goto 4, 3) := by decide +kernel
theorem dJ9_max_7cf53_9 : decode cJ9_max_7cf53 9 = .ok (.iload_n 1, 1) := by decide +kernel
theorem dJ9_max_7cf53_10 : decode cJ9_max_7cf53 10 = .ok (.ireturn, 1) := by decide +kernel
theorem dJ9_min_7cf53_0 : decode cJ9_min_7cf53 0 = .ok (.iload_n 0, 1) := by decide +kernel
theorem dJ9_min_7cf53_1 : decode cJ9_min_7cf53 1 = .ok (.iload_n 1, 1) := by decide +kernel
theorem dJ9_min_7cf53_2 : decode cJ9_min_7cf53 2 = .ok (.if_icmp .gt 7, 3) := by decide +kernel
theorem dJ9_min_7cf53_5 : decode cJ9_min_7cf53 5 = .ok (.iload_n 0, 1) := by decide +kernel
theorem dJ9_min_7cf53_6 : decode cJ9_min_7cf53 6 = .ok (.goto 4, 3) := by decide +kernel
theorem dJ9_min_7cf53_9 : decode cJ9_min_7cf53 9 = .ok (.iload_n 1, 1) := by decide +kernel
theorem dJ9_min_7cf53_10 : decode cJ9_min_7cf53 10 = .ok (.ireturn, 1) := by decide +kernel
theorem dJ0_length_8abf5_0 : decode cJ0_length_8abf5 0 = .ok (.aload_n 0, 1) := by decide +kernel
theorem dJ0_length_8abf5_1 : decode cJ0_length_8abf5 1 = .ok (.getfield 9, 3) := by decide +kernel
theorem dJ0_length_8abf5_4 : decode cJ0_length_8abf5 4 = .ok (.arraylength, 1) := by decide +kernel
theorem dJ0_length_8abf5_5 : decode cJ0_length_8abf5 5 = .ok (.aload_n 0, 1) := by decide +kernel
theorem dJ0_length_8abf5_6 : decode cJ0_length_8abf5 6 = .ok (.invokevirtual 335, 3) := by decide +kernel
theorem dJ0_length_8abf5_9 : decode cJ0_length_8abf5 9 = .ok (.ishr, 1) := by decide +kernel
theorem dJ0_length_8abf5_10 : decode cJ0_length_8abf5 10 = .ok (.ireturn, 1) := by decide +kernel
theorem dJ0_charAt_5068e_0 : decode cJ0_charAt_5068e 0 = .ok (.aload_n 0, 1) := by decide +kernel
theorem dJ0_charAt_5068e_1 : decode cJ0_charAt_5068e 1 = .ok (.invokevirtual 492, 3) := by decide +kernel
theorem dJ0_charAt_5068e_4 : decode cJ0_charAt_5068e 4 = .ok (.ifCond .eq 12, 3) := by decide +kernel
theorem dJ0_charAt_5068e_7 : decode cJ0_charAt_5068e 7 = .ok (.aload_n 0, 1) := by decide +kernel
theorem dJ0_charAt_5068e_8 : decode cJ0_charAt_5068e 8 = .ok (.getfield 9, 3) := by decide +kernel
theorem dJ0_charAt_5068e_11 : decode cJ0_charAt_5068e 11 = .ok (.iload_n 1, 1) := by decide +kernel
theorem dJ0_charAt_5068e_12 : decode cJ0_charAt_5068e 12 = .ok (.invokestatic 495, 3) := by decide +kernel
theorem dJ0_charAt_5068e_15 : decode cJ0_charAt_5068e 15 = .ok (.ireturn, 1) := by decide +kernel
theorem dJ0_charAt_5068e_16 : decode cJ0_charAt_5068e 16 = .ok (.aload_n 0, 1) := by decide +kernel
theorem dJ0_charAt_5068e_17 : decode cJ0_charAt_5068e 17 = .ok (.getfield 9, 3) := by decide +kernel
theorem dJ0_charAt_5068e_20 : decode cJ0_charAt_5068e 20 = .ok (.iload_n 1, 1) := by decide +kernel
theorem dJ0_charAt_5068e_21 : decode cJ0_charAt_5068e 21 = .ok (.invokestatic 498, 3) := by decide +kernel
theorem dJ0_charAt_5068e_24 : decode cJ0_charAt_5068e 24 = .ok (.ireturn, 1) := by decide +kernel
theorem dJ0_coder_7d493_0 : decode cJ0_coder_7d493 0 = .ok (.getstatic 38, 3) := by decide +kernel
theorem dJ0_coder_7d493_3 : decode cJ0_coder_7d493 3 = .ok (.ifCond .eq 10, 3) := by decide +kernel
theorem dJ0_coder_7d493_6 : decode cJ0_coder_7d493 6 = .ok (.aload_n 0, 1) := by decide +kernel
theorem dJ0_coder_7d493_7 : decode cJ0_coder_7d493 7 = .ok (.getfield 15, 3) := by decide +kernel
theorem dJ0_coder_7d493_10 : decode cJ0_coder_7d493 10 = .ok (.goto 4, 3) := by decide +kernel
theorem dJ0_coder_7d493_13 : decode cJ0_coder_7d493 13 = .ok (.iconst 1, 1) := by decide +kernel
theorem dJ0_coder_7d493_14 : decode cJ0_coder_7d493 14 = .ok (.ireturn, 1) := by decide +kernel
theorem dJ0_isLatin1_aae02_0 : decode cJ0_isLatin1_aae02 0 = .ok (.getstatic 38, 3) := by decide +kernel
theorem dJ0_isLatin1_aae02_3 : decode cJ0_isLatin1_aae02 3 = .ok (.ifCond .eq 14, 3) := by decide +kernel
theorem dJ0_isLatin1_aae02_6 : decode cJ0_isLatin1_aae02 6 = .ok (.aload_n 0, 1) := by decide +kernel
theorem dJ0_isLatin1_aae02_7 : decode cJ0_isLatin1_aae02 7 = .ok (.getfield 15, 3) := by decide +kernel
theorem dJ0_isLatin1_aae02_10 : decode cJ0_isLatin1_aae02 10 = .ok (.ifCond .ne 7, 3) := by decide +kernel
theorem dJ0_isLatin1_aae02_13 : decode cJ0_isLatin1_aae02 13 = .ok (.iconst 1, 1) := by decide +kernel
theorem dJ0_isLatin1_aae02_14 : decode cJ0_isLatin1_aae02 14 = .ok (.goto 4, 3) := by decide +kernel
theorem dJ0_isLatin1_aae02_17 : decode cJ0_isLatin1_aae02 17 = .ok (.iconst 0, 1) := by decide +kernel
theorem dJ0_isLatin1_aae02_18 : decode cJ0_isLatin1_aae02 18 = .ok (.ireturn, 1) := by decide +kernel
theorem dJ0_checkIndex_df160_0 : decode cJ0_checkIndex_df160 0 = .ok (.iload_n 0, 1) := by decide +kernel
theorem dJ0_checkIndex_df160_1 : decode cJ0_checkIndex_df160 1 = .ok (.iload_n 1, 1) := by decide +kernel
theorem dJ0_checkIndex_df160_2 : decode cJ0_checkIndex_df160 2 = .ok (.getstatic 1053, 3) := by decide +kernel
theorem dJ0_checkIndex_df160_5 : decode cJ0_checkIndex_df160 5 = .ok (.invokestatic 1059, 3) := by decide +kernel
theorem dJ0_checkIndex_df160_8 : decode cJ0_checkIndex_df160 8 = .ok (.pop, 1) := by decide +kernel
theorem dJ0_checkIndex_df160_9 : decode cJ0_checkIndex_df160 9 = .ok (.return_, 1) := by decide +kernel
theorem dJ1_charAt_3b067_0 : decode cJ1_charAt_3b067 0 = .ok (.iload_n 1, 1) := by decide +kernel
theorem dJ1_charAt_3b067_1 : decode cJ1_charAt_3b067 1 = .ok (.aload_n 0, 1) := by decide +kernel
theorem dJ1_charAt_3b067_2 : decode cJ1_charAt_3b067 2 = .ok (.arraylength, 1) := by decide +kernel
theorem dJ1_charAt_3b067_3 : decode cJ1_charAt_3b067 3 = .ok (.invokestatic 9, 3) := by decide +kernel
theorem dJ1_charAt_3b067_6 : decode cJ1_charAt_3b067 6 = .ok (.aload_n 0, 1) := by decide +kernel
theorem dJ1_charAt_3b067_7 : decode cJ1_charAt_3b067 7 = .ok (.iload_n 1, 1) := by decide +kernel
theorem dJ1_charAt_3b067_8 : decode cJ1_charAt_3b067 8 = .ok (.baload, 1) := by decide +kernel
theorem dJ1_charAt_3b067_9 : decode cJ1_charAt_3b067 9 = .ok (.sipush 255, 3) := by decide +kernel
theorem dJ1_charAt_3b067_12 : decode cJ1_charAt_3b067 12 = .ok (.iand, 1) := by decide +kernel
theorem dJ1_charAt_3b067_13 : decode cJ1_charAt_3b067 13 = .ok (.i2c, 1) := by decide +kernel
theorem dJ1_charAt_3b067_14 : decode cJ1_charAt_3b067 14 = .ok (.ireturn, 1) := by decide +kernel
theorem dJ2_getChar_3b067_0 : decode cJ2_getChar_3b067 0 = .ok (.getstatic 44, 3) := by decide +kernel
theorem dJ2_getChar_3b067_3 : decode cJ2_getChar_3b067 3 = .ok (.ifCond .ne 25, 3) := by decide +kernel
theorem dJ2_getChar_3b067_6 : decode cJ2_getChar_3b067 6 = .ok (.iload_n 1, 1) := by decide +kernel
theorem dJ2_getChar_3b067_7 : decode cJ2_getChar_3b067 7 = .ok (.ifCond .lt 11, 3) := by decide +kernel
theorem dJ2_getChar_3b067_10 : decode cJ2_getChar_3b067 10 = .ok (.iload_n 1, 1) := by decide +kernel
theorem dJ2_getChar_3b067_11 : decode cJ2_getChar_3b067 11 = .ok (.aload_n 0, 1) := by decide +kernel
theorem dJ2_getChar_3b067_12 : decode cJ2_getChar_3b067 12 = .ok (.invokestatic 48, 3) := by decide +kernel
theorem dJ2_getChar_3b067_15 : decode cJ2_getChar_3b067 15 = .ok (.if_icmp .lt 13, 3) := by decide +kernel
theorem dJ2_getChar_3b067_18 : decode cJ2_getChar_3b067 18 = .ok (.new 52, 3) := by decide +kernel
theorem dJ2_getChar_3b067_21 : decode cJ2_getChar_3b067 21 = .ok (.dup, 1) := by decide +kernel
theorem dJ2_getChar_3b067_22 : decode cJ2_getChar_3b067 22 = .ok (.ldc 54, 2) := by decide +kernel
theorem dJ2_getChar_3b067_24 : decode cJ2_getChar_3b067 24 = .ok (.invokespecial 56, 3) := by decide +kernel
theorem dJ2_getChar_3b067_27 : decode cJ2_getChar_3b067 27 = .ok (.athrow, 1) := by decide +kernel
theorem dJ2_getChar_3b067_28 : decode cJ2_getChar_3b067 28 = .ok (.iload_n 1, 1) := by decide +kernel
theorem dJ2_getChar_3b067_29 : decode cJ2_getChar_3b067 29 = .ok (.iconst 1, 1) := by decide +kernel
theorem dJ2_getChar_3b067_30 : decode cJ2_getChar_3b067 30 = .ok (.ishl, 1) := by decide +kernel
theorem dJ2_getChar_3b067_31 : decode cJ2_getChar_3b067 31 = .ok (.istore_n 1, 1) := by decide +kernel
theorem dJ2_getChar_3b067_32 : decode cJ2_getChar_3b067 32 = .ok (.aload_n 0, 1) := by decide +kernel
theorem dJ2_getChar_3b067_33 : decode cJ2_getChar_3b067 33 = .ok (.iload_n 1, 1) := by decide +kernel
theorem dJ2_getChar_3b067_34 : decode cJ2_getChar_3b067 34 = .ok (.iinc 1 1, 3) := by decide +kernel
theorem dJ2_getChar_3b067_37 : decode cJ2_getChar_3b067 37 = .ok (.baload, 1) := by decide +kernel
theorem dJ2_getChar_3b067_38 : decode cJ2_getChar_3b067 38 = .ok (.sipush 255, 3) := by decide +kernel
theorem dJ2_getChar_3b067_41 : decode cJ2_getChar_3b067 41 = .ok (.iand, 1) := by decide +kernel
theorem dJ2_getChar_3b067_42 : decode cJ2_getChar_3b067 42 = .ok (.getstatic 59, 3) := by decide +kernel
theorem dJ2_getChar_3b067_45 : decode cJ2_getChar_3b067 45 = .ok (.ishl, 1) := by decide +kernel
theorem dJ2_getChar_3b067_46 : decode cJ2_getChar_3b067 46 = .ok (.aload_n 0, 1) := by decide +kernel
theorem dJ2_getChar_3b067_47 : decode cJ2_getChar_3b067 47 = .ok (.iload_n 1, 1) := by decide +kernel
theorem dJ2_getChar_3b067_48 : decode cJ2_getChar_3b067 48 = .ok (.baload, 1) := by decide +kernel
theorem dJ2_getChar_3b067_49 : decode cJ2_getChar_3b067 49 = .ok (.sipush 255, 3) := by decide +kernel
theorem dJ2_getChar_3b067_52 : decode cJ2_getChar_3b067 52 = .ok (.iand, 1) := by decide +kernel
theorem dJ2_getChar_3b067_53 : decode cJ2_getChar_3b067 53 = .ok (.getstatic 63, 3) := by decide +kernel
theorem dJ2_getChar_3b067_56 : decode cJ2_getChar_3b067 56 = .ok (.ishl, 1) := by decide +kernel
theorem dJ2_getChar_3b067_57 : decode cJ2_getChar_3b067 57 = .ok (.ior, 1) := by decide +kernel
theorem dJ2_getChar_3b067_58 : decode cJ2_getChar_3b067 58 = .ok (.i2c, 1) := by decide +kernel
theorem dJ2_getChar_3b067_59 : decode cJ2_getChar_3b067 59 = .ok (.ireturn, 1) := by decide +kernel
theorem dJ2_length_9d52b_0 : decode cJ2_length_9d52b 0 = .ok (.aload_n 0, 1) := by decide +kernel
theorem dJ2_length_9d52b_1 : decode cJ2_length_9d52b 1 = .ok (.arraylength, 1) := by decide +kernel
theorem dJ2_length_9d52b_2 : decode cJ2_length_9d52b 2 = .ok (.iconst 1, 1) := by decide +kernel
theorem dJ2_length_9d52b_3 : decode cJ2_length_9d52b 3 = .ok (.ishr, 1) := by decide +kernel
theorem dJ2_length_9d52b_4 : decode cJ2_length_9d52b 4 = .ok (.ireturn, 1) := by decide +kernel
theorem dJ2_charAt_3b067_0 : decode cJ2_charAt_3b067 0 = .ok (.iload_n 1, 1) := by decide +kernel
theorem dJ2_charAt_3b067_1 : decode cJ2_charAt_3b067 1 = .ok (.aload_n 0, 1) := by decide +kernel
theorem dJ2_charAt_3b067_2 : decode cJ2_charAt_3b067 2 = .ok (.invokestatic 67, 3) := by decide +kernel
theorem dJ2_charAt_3b067_5 : decode cJ2_charAt_3b067 5 = .ok (.aload_n 0, 1) := by decide +kernel
theorem dJ2_charAt_3b067_6 : decode cJ2_charAt_3b067 6 = .ok (.iload_n 1, 1) := by decide +kernel
theorem dJ2_charAt_3b067_7 : decode cJ2_charAt_3b067 7 = .ok (.invokestatic 71, 3) := by decide +kernel
theorem dJ2_charAt_3b067_10 : decode cJ2_charAt_3b067 10 = .ok (.ireturn, 1) := by decide +kernel
theorem dJ2_checkIndex_2214a_0 : decode cJ2_checkIndex_2214a 0 = .ok (.iload_n 0, 1) := by decide +kernel
theorem dJ2_checkIndex_2214a_1 : decode cJ2_checkIndex_2214a 1 = .ok (.aload_n 1, 1) := by decide +kernel
theorem dJ2_checkIndex_2214a_2 : decode cJ2_checkIndex_2214a 2 = .ok (.invokestatic 48, 3) := by decide +kernel
theorem dJ2_checkIndex_2214a_5 : decode cJ2_checkIndex_2214a 5 = .ok (.invokestatic 414, 3) := by decide +kernel
theorem dJ2_checkIndex_2214a_8 : decode cJ2_checkIndex_2214a 8 = .ok (.return_, 1) := by decide +kernel
theorem dJxa1e45_init_da8c8_0 : decode cJxa1e45_init_da8c8 0 = .ok (.aload_n 0, 1) := by decide +kernel
theorem dJxa1e45_init_da8c8_1 : decode cJxa1e45_init_da8c8 1 = .ok (.invokespecial 1, 3) := by decide +kernel
theorem dJxa1e45_init_da8c8_4 : decode cJxa1e45_init_da8c8 4 = .ok (.return_, 1) := by decide +kernel
theorem dJxc12de_init_da8c8_0 : decode cJxc12de_init_da8c8 0 = .ok (.aload_n 0, 1) := by decide +kernel
theorem dJxc12de_init_da8c8_1 : decode cJxc12de_init_da8c8 1 = .ok (.invokespecial 1, 3) := by decide +kernel
theorem dJxc12de_init_da8c8_4 : decode cJxc12de_init_da8c8 4 = .ok (.aload_n 0, 1) := by decide +kernel
theorem dJxc12de_init_da8c8_5 : decode cJxc12de_init_da8c8 5 = .ok (.iconst 0, 1) := by decide +kernel
theorem dJxc12de_init_da8c8_6 : decode cJxc12de_init_da8c8 6 = .ok (.putfield 7, 3) := by decide +kernel
theorem dJxc12de_init_da8c8_9 : decode cJxc12de_init_da8c8 9 = .ok (.return_, 1) := by decide +kernel
theorem dJx4a65c_init_da8c8_0 : decode cJx4a65c_init_da8c8 0 = .ok (.aload_n 0, 1) := by decide +kernel
theorem dJx4a65c_init_da8c8_1 : decode cJx4a65c_init_da8c8 1 = .ok (.invokespecial 1, 3) := by decide +kernel
theorem dJx4a65c_init_da8c8_4 : decode cJx4a65c_init_da8c8 4 = .ok (.aload_n 0, 1) := by decide +kernel
theorem dJx4a65c_init_da8c8_5 : decode cJx4a65c_init_da8c8 5 = .ok (.getstatic 39, 3) := by decide +kernel
theorem dJx4a65c_init_da8c8_8 : decode cJx4a65c_init_da8c8 8 = .ok (.putfield 9, 3) := by decide +kernel
theorem dJx4a65c_init_da8c8_11 : decode cJx4a65c_init_da8c8 11 = .ok (.return_, 1) := by decide +kernel
theorem dJx4a65c_grow_92f84_0 : decode cJx4a65c_grow_92f84 0 = .ok (.aload_n 0, 1) := by decide +kernel
theorem dJx4a65c_grow_92f84_1 : decode cJx4a65c_grow_92f84 1 = .ok (.getfield 9, 3) := by decide +kernel
theorem dJx4a65c_grow_92f84_4 : decode cJx4a65c_grow_92f84 4 = .ok (.arraylength, 1) := by decide +kernel
theorem dJx4a65c_grow_92f84_5 : decode cJx4a65c_grow_92f84 5 = .ok (.istore_n 2, 1) := by decide +kernel
theorem dJx4a65c_grow_92f84_6 : decode cJx4a65c_grow_92f84 6 = .ok (.iload_n 2, 1) := by decide +kernel
theorem dJx4a65c_grow_92f84_7 : decode cJx4a65c_grow_92f84 7 = .ok (.ifCond .gt 13, 3) := by decide +kernel
theorem dJx4a65c_grow_92f84_10 : decode cJx4a65c_grow_92f84 10 = .ok (.aload_n 0, 1) := by decide +kernel
theorem dJx4a65c_grow_92f84_11 : decode cJx4a65c_grow_92f84 11 = .ok (.getfield 9, 3) := by decide +kernel
theorem dJx4a65c_grow_92f84_14 : decode cJx4a65c_grow_92f84 14 = .ok (.getstatic 39, 3) := by decide +kernel
theorem dJx4a65c_grow_92f84_17 : decode cJx4a65c_grow_92f84 17 = .ok (.if_acmp .eq 28, 3) := by decide +kernel
theorem dJx4a65c_grow_92f84_20 : decode cJx4a65c_grow_92f84 20 = .ok (.iload_n 2, 1) := by decide +kernel
theorem dJx4a65c_grow_92f84_21 : decode cJx4a65c_grow_92f84 21 = .ok (.iload_n 1, 1) := by decide +kernel
theorem dJx4a65c_grow_92f84_22 : decode cJx4a65c_grow_92f84 22 = .ok (.iload_n 2, 1) := by decide +kernel
theorem dJx4a65c_grow_92f84_23 : decode cJx4a65c_grow_92f84 23 = .ok (.isub, 1) := by decide +kernel
theorem dJx4a65c_grow_92f84_24 : decode cJx4a65c_grow_92f84 24 = .ok (.iload_n 2, 1) := by decide +kernel
theorem dJx4a65c_grow_92f84_25 : decode cJx4a65c_grow_92f84 25 = .ok (.iconst 1, 1) := by decide +kernel
theorem dJx4a65c_grow_92f84_26 : decode cJx4a65c_grow_92f84 26 = .ok (.ishr, 1) := by decide +kernel
theorem dJx4a65c_grow_92f84_27 : decode cJx4a65c_grow_92f84 27 = .ok (.invokestatic 73, 3) := by decide +kernel
theorem dJx4a65c_grow_92f84_30 : decode cJx4a65c_grow_92f84 30 = .ok (.istore_n 3, 1) := by decide +kernel
theorem dJx4a65c_grow_92f84_31 : decode cJx4a65c_grow_92f84 31 = .ok (.aload_n 0, 1) := by decide +kernel
theorem dJx4a65c_grow_92f84_32 : decode cJx4a65c_grow_92f84 32 = .ok (.aload_n 0, 1) := by decide +kernel
theorem dJx4a65c_grow_92f84_33 : decode cJx4a65c_grow_92f84 33 = .ok (.getfield 9, 3) := by decide +kernel
theorem dJx4a65c_grow_92f84_36 : decode cJx4a65c_grow_92f84 36 = .ok (.iload_n 3, 1) := by decide +kernel
theorem dJx4a65c_grow_92f84_37 : decode cJx4a65c_grow_92f84 37 = .ok (.invokestatic 66, 3) := by decide +kernel
theorem dJx4a65c_grow_92f84_40 : decode cJx4a65c_grow_92f84 40 = .ok (.dup_x1, 1) := by decide +kernel
theorem dJx4a65c_grow_92f84_41 : decode cJx4a65c_grow_92f84 41 = .ok (.putfield 9, 3) := by decide +kernel
theorem dJx4a65c_grow_92f84_44 : decode cJx4a65c_grow_92f84 44 = .ok (.areturn, 1) := by decide +kernel
theorem dJx4a65c_grow_92f84_45 : decode cJx4a65c_grow_92f84 45 = .ok (.aload_n 0, 1) := by decide +kernel
theorem dJx4a65c_grow_92f84_46 : decode cJx4a65c_grow_92f84 46 = .ok (.bipush 10, 2) := by decide +kernel
theorem dJx4a65c_grow_92f84_48 : decode cJx4a65c_grow_92f84 48 = .ok (.iload_n 1, 1) := by decide +kernel
theorem dJx4a65c_grow_92f84_49 : decode cJx4a65c_grow_92f84 49 = .ok (.invokestatic 79, 3) := by decide +kernel
theorem dJx4a65c_grow_92f84_52 : decode cJx4a65c_grow_92f84 52 = .ok (.anewarray 7, 3) := by decide +kernel
theorem dJx4a65c_grow_92f84_55 : decode cJx4a65c_grow_92f84 55 = .ok (.dup_x1, 1) := by decide +kernel
theorem dJx4a65c_grow_92f84_56 : decode cJx4a65c_grow_92f84 56 = .ok (.putfield 9, 3) := by decide +kernel
theorem dJx4a65c_grow_92f84_59 : decode cJx4a65c_grow_92f84 59 = .ok (.areturn, 1) := by decide +kernel
theorem dJx4a65c_grow_d5877_0 : decode cJx4a65c_grow_d5877 0 = .ok (.aload_n 0, 1) := by decide +kernel
theorem dJx4a65c_grow_d5877_1 : decode cJx4a65c_grow_d5877 1 = .ok (.aload_n 0, 1) := by decide +kernel
theorem dJx4a65c_grow_d5877_2 : decode cJx4a65c_grow_d5877 2 = .ok (.getfield 48, 3) := by decide +kernel
theorem dJx4a65c_grow_d5877_5 : decode cJx4a65c_grow_d5877 5 = .ok (.iconst 1, 1) := by decide +kernel
theorem dJx4a65c_grow_d5877_6 : decode cJx4a65c_grow_d5877 6 = .ok (.iadd, 1) := by decide +kernel
theorem dJx4a65c_grow_d5877_7 : decode cJx4a65c_grow_d5877 7 = .ok (.invokevirtual 69, 3) := by decide +kernel
theorem dJx4a65c_grow_d5877_10 : decode cJx4a65c_grow_d5877 10 = .ok (.areturn, 1) := by decide +kernel
theorem dJx4a65c_size_8abf5_0 : decode cJx4a65c_size_8abf5 0 = .ok (.aload_n 0, 1) := by decide +kernel
theorem dJx4a65c_size_8abf5_1 : decode cJx4a65c_size_8abf5 1 = .ok (.getfield 48, 3) := by decide +kernel
theorem dJx4a65c_size_8abf5_4 : decode cJx4a65c_size_8abf5 4 = .ok (.ireturn, 1) := by decide +kernel
theorem dJx4a65c_elementData_915e3_0 : decode cJx4a65c_elementData_915e3 0 = .ok (.aload_n 0, 1) := by decide +kernel
theorem dJx4a65c_elementData_915e3_1 : decode cJx4a65c_elementData_915e3 1 = .ok (.getfield 9, 3) := by decide +kernel
theorem dJx4a65c_elementData_915e3_4 : decode cJx4a65c_elementData_915e3 4 = .ok (.iload_n 1, 1) := by decide +kernel
theorem dJx4a65c_elementData_915e3_5 : decode cJx4a65c_elementData_915e3 5 = .ok (.aaload, 1) := by decide +kernel
theorem dJx4a65c_elementData_915e3_6 : decode cJx4a65c_elementData_915e3 6 = .ok (.areturn, 1) := by decide +kernel
theorem dJx4a65c_get_915e3_0 : decode cJx4a65c_get_915e3 0 = .ok (.iload_n 1, 1) := by decide +kernel
theorem dJx4a65c_get_915e3_1 : decode cJx4a65c_get_915e3 1 = .ok (.aload_n 0, 1) := by decide +kernel
theorem dJx4a65c_get_915e3_2 : decode cJx4a65c_get_915e3 2 = .ok (.getfield 48, 3) := by decide +kernel
theorem dJx4a65c_get_915e3_5 : decode cJx4a65c_get_915e3 5 = .ok (.invokestatic 118, 3) := by decide +kernel
theorem dJx4a65c_get_915e3_8 : decode cJx4a65c_get_915e3 8 = .ok (.pop, 1) := by decide +kernel
theorem dJx4a65c_get_915e3_9 : decode cJx4a65c_get_915e3 9 = .ok (.aload_n 0, 1) := by decide +kernel
theorem dJx4a65c_get_915e3_10 : decode cJx4a65c_get_915e3 10 = .ok (.iload_n 1, 1) := by decide +kernel
theorem dJx4a65c_get_915e3_11 : decode cJx4a65c_get_915e3 11 = .ok (.invokevirtual 123, 3) := by decide +kernel
theorem dJx4a65c_get_915e3_14 : decode cJx4a65c_get_915e3 14 = .ok (.areturn, 1) := by decide +kernel
theorem dJx4a65c_add_72be8_0 : decode cJx4a65c_add_72be8 0 = .ok (.iload_n 3, 1) := by decide +kernel
theorem dJx4a65c_add_72be8_1 : decode cJx4a65c_add_72be8 1 = .ok (.aload_n 2, 1) := by decide +kernel
theorem dJx4a65c_add_72be8_2 : decode cJx4a65c_add_72be8 2 = .ok (.arraylength, 1) := by decide +kernel
theorem dJx4a65c_add_72be8_3 : decode cJx4a65c_add_72be8 3 = .ok (.if_icmp .ne 8, 3) := by decide +kernel
theorem dJx4a65c_add_72be8_6 : decode cJx4a65c_add_72be8 6 = .ok (.aload_n 0, 1) := by decide +kernel
theorem dJx4a65c_add_72be8_7 : decode cJx4a65c_add_72be8 7 = .ok (.invokevirtual 129, 3) := by decide +kernel
theorem dJx4a65c_add_72be8_10 : decode cJx4a65c_add_72be8 10 = .ok (.astore_n 2, 1) := by decide +kernel
theorem dJx4a65c_add_72be8_11 : decode cJx4a65c_add_72be8 11 = .ok (.aload_n 2, 1) := by decide +kernel
theorem dJx4a65c_add_72be8_12 : decode cJx4a65c_add_72be8 12 = .ok (.iload_n 3, 1) := by decide +kernel
theorem dJx4a65c_add_72be8_13 : decode cJx4a65c_add_72be8 13 = .ok (.aload_n 1, 1) := by decide +kernel
theorem dJx4a65c_add_72be8_14 : decode cJx4a65c_add_72be8 14 = .ok (.aastore, 1) := by decide +kernel
theorem dJx4a65c_add_72be8_15 : decode cJx4a65c_add_72be8 15 = .ok (.aload_n 0, 1) := by decide +kernel
theorem dJx4a65c_add_72be8_16 : decode cJx4a65c_add_72be8 16 = .ok (.iload_n 3, 1) := by decide +kernel
theorem dJx4a65c_add_72be8_17 : decode cJx4a65c_add_72be8 17 = .ok (.iconst 1, 1) := by decide +kernel
theorem dJx4a65c_add_72be8_18 : decode cJx4a65c_add_72be8 18 = .ok (.iadd, 1) := by decide +kernel
theorem dJx4a65c_add_72be8_19 : decode cJx4a65c_add_72be8 19 = .ok (.putfield 48, 3) := by decide +kernel
theorem dJx4a65c_add_72be8_22 : decode cJx4a65c_add_72be8 22 = .ok (.return_, 1) := by decide +kernel
theorem dJx4a65c_add_9ea2d_0 : decode cJx4a65c_add_9ea2d 0 = .ok (.aload_n 0, 1) := by decide +kernel
theorem dJx4a65c_add_9ea2d_1 : decode cJx4a65c_add_9ea2d 1 = .ok (.dup, 1) := by decide +kernel
theorem dJx4a65c_add_9ea2d_2 : decode cJx4a65c_add_9ea2d 2 = .ok (.getfield 63, 3) := by decide +kernel
theorem dJx4a65c_add_9ea2d_5 : decode cJx4a65c_add_9ea2d 5 = .ok (.iconst 1, 1) := by decide +kernel
theorem dJx4a65c_add_9ea2d_6 : decode cJx4a65c_add_9ea2d 6 = .ok (.iadd, 1) := by decide +kernel
theorem dJx4a65c_add_9ea2d_7 : decode cJx4a65c_add_9ea2d 7 = .ok (.putfield 63, 3) := by decide +kernel
theorem dJx4a65c_add_9ea2d_10 : decode cJx4a65c_add_9ea2d 10 = .ok (.aload_n 0, 1) := by decide +kernel
theorem dJx4a65c_add_9ea2d_11 : decode cJx4a65c_add_9ea2d 11 = .ok (.aload_n 1, 1) := by decide +kernel
theorem dJx4a65c_add_9ea2d_12 : decode cJx4a65c_add_9ea2d 12 = .ok (.aload_n 0, 1) := by decide +kernel
theorem dJx4a65c_add_9ea2d_13 : decode cJx4a65c_add_9ea2d 13 = .ok (.getfield 9, 3) := by decide +kernel
theorem dJx4a65c_add_9ea2d_16 : decode cJx4a65c_add_9ea2d 16 = .ok (.aload_n 0, 1) := by decide +kernel
theorem dJx4a65c_add_9ea2d_17 : decode cJx4a65c_add_9ea2d 17 = .ok (.getfield 48, 3) := by decide +kernel
theorem dJx4a65c_add_9ea2d_20 : decode cJx4a65c_add_9ea2d 20 = .ok (.invokevirtual 131, 3) := by decide +kernel
theorem dJx4a65c_add_9ea2d_23 : decode cJx4a65c_add_9ea2d 23 = .ok (.iconst 1, 1) := by decide +kernel
theorem dJx4a65c_add_9ea2d_24 : decode cJx4a65c_add_9ea2d 24 = .ok (.ireturn, 1) := by decide +kernel
theorem dJ7_copyOf_1904c_0 : decode cJ7_copyOf_1904c 0 = .ok (.aload_n 0, 1) := by decide +kernel
theorem dJ7_copyOf_1904c_1 : decode cJ7_copyOf_1904c 1 = .ok (.iload_n 1, 1) := by decide +kernel
theorem dJ7_copyOf_1904c_2 : decode cJ7_copyOf_1904c 2 = .ok (.aload_n 0, 1) := by decide +kernel
theorem dJ7_copyOf_1904c_3 : decode cJ7_copyOf_1904c 3 = .ok (.invokevirtual 86, 3) := by decide +kernel
theorem dJ7_copyOf_1904c_6 : decode cJ7_copyOf_1904c 6 = .ok (.invokestatic 300, 3) := by decide +kernel
theorem dJ7_copyOf_1904c_9 : decode cJ7_copyOf_1904c 9 = .ok (.areturn, 1) := by decide +kernel
theorem dJ7_copyOf_6403c_0 : decode cJ7_copyOf_6403c 0 = .ok (.aload_n 2, 1) := by decide +kernel
theorem dJ7_copyOf_6403c_1 : decode cJ7_copyOf_6403c 1 = .ok (.ldc 110, 2) := by decide +kernel
theorem dJ7_copyOf_6403c_3 : decode cJ7_copyOf_6403c 3 = .ok (.if_acmp .ne 10, 3) := by decide +kernel
theorem dJ7_copyOf_6403c_6 : decode cJ7_copyOf_6403c 6 = .ok (.iload_n 1, 1) := by decide +kernel
theorem dJ7_copyOf_6403c_7 : decode cJ7_copyOf_6403c 7 = .ok (.anewarray 2, 3) := by decide +kernel
theorem dJ7_copyOf_6403c_10 : decode cJ7_copyOf_6403c 10 = .ok (.goto 14, 3) := by decide +kernel
theorem dJ7_copyOf_6403c_13 : decode cJ7_copyOf_6403c 13 = .ok (.aload_n 2, 1) := by decide +kernel
theorem dJ7_copyOf_6403c_14 : decode cJ7_copyOf_6403c 14 = .ok (.invokevirtual 90, 3) := by decide +kernel
theorem dJ7_copyOf_6403c_17 : decode cJ7_copyOf_6403c 17 = .ok (.iload_n 1, 1) := by decide +kernel
theorem dJ7_copyOf_6403c_18 : decode cJ7_copyOf_6403c 18 = .ok (.invokestatic 95, 3) := by decide +kernel
theorem dJ7_copyOf_6403c_21 : decode cJ7_copyOf_6403c 21 = .ok (.checkcast 110, 3) := by decide +kernel
theorem dJ7_copyOf_6403c_24 : decode cJ7_copyOf_6403c 24 = .ok (.astore_n 3, 1) := by decide +kernel
theorem dJ7_copyOf_6403c_25 : decode cJ7_copyOf_6403c 25 = .ok (.aload_n 0, 1) := by decide +kernel
theorem dJ7_copyOf_6403c_26 : decode cJ7_copyOf_6403c 26 = .ok (.iconst 0, 1) := by decide +kernel
theorem dJ7_copyOf_6403c_27 : decode cJ7_copyOf_6403c 27 = .ok (.aload_n 3, 1) := by decide +kernel
theorem dJ7_copyOf_6403c_28 : decode cJ7_copyOf_6403c 28 = .ok (.iconst 0, 1) := by decide +kernel
theorem dJ7_copyOf_6403c_29 : decode cJ7_copyOf_6403c 29 = .ok (.aload_n 0, 1) := by decide +kernel
theorem dJ7_copyOf_6403c_30 : decode cJ7_copyOf_6403c 30 = .ok (.arraylength, 1) := by decide +kernel
theorem dJ7_copyOf_6403c_31 : decode cJ7_copyOf_6403c 31 = .ok (.iload_n 1, 1) := by decide +kernel
theorem dJ7_copyOf_6403c_32 : decode cJ7_copyOf_6403c 32 = .ok (.invokestatic 304, 3) := by decide +kernel
theorem dJ7_copyOf_6403c_35 : decode cJ7_copyOf_6403c 35 = .ok (.invokestatic 150, 3) := by decide +kernel
theorem dJ7_copyOf_6403c_38 : decode cJ7_copyOf_6403c 38 = .ok (.aload_n 3, 1) := by decide +kernel
theorem dJ7_copyOf_6403c_39 : decode cJ7_copyOf_6403c 39 = .ok (.areturn, 1) := by decide +kernel
theorem dJ15_checkIndex_7cf53_0 : decode cJ15_checkIndex_7cf53 0 = .ok (.iload_n 0, 1) := by decide +kernel
theorem dJ15_checkIndex_7cf53_1 : decode cJ15_checkIndex_7cf53 1 = .ok (.iload_n 1, 1) := by decide +kernel
theorem dJ15_checkIndex_7cf53_2 : decode cJ15_checkIndex_7cf53 2 = .ok (.aconst_null, 1) := by decide +kernel
theorem dJ15_checkIndex_7cf53_3 : decode cJ15_checkIndex_7cf53 3 = .ok (.invokestatic 105, 3) := by decide +kernel
theorem dJ15_checkIndex_7cf53_6 : decode cJ15_checkIndex_7cf53 6 = .ok (.ireturn, 1) := by decide +kernel
theorem dJ8_newLength_cabcc_0 : decode cJ8_newLength_cabcc 0 = .ok (.iload_n 0, 1) := by decide +kernel
theorem dJ8_newLength_cabcc_1 : decode cJ8_newLength_cabcc 1 = .ok (.iload_n 1, 1) := by decide +kernel
theorem dJ8_newLength_cabcc_2 : decode cJ8_newLength_cabcc 2 = .ok (.iload_n 2, 1) := by decide +kernel
theorem dJ8_newLength_cabcc_3 : decode cJ8_newLength_cabcc 3 = .ok (.invokestatic 194, 3) := by decide +kernel
theorem dJ8_newLength_cabcc_6 : decode cJ8_newLength_cabcc 6 = .ok (.iadd, 1) := by decide +kernel
theorem dJ8_newLength_cabcc_7 : decode cJ8_newLength_cabcc 7 = .ok (.istore_n 3, 1) := by decide +kernel
theorem dJ8_newLength_cabcc_8 : decode cJ8_newLength_cabcc 8 = .ok (.iconst 0, 1) := by decide +kernel
theorem dJ8_newLength_cabcc_9 : decode cJ8_newLength_cabcc 9 = .ok (.iload_n 3, 1) := by decide +kernel
theorem dJ8_newLength_cabcc_10 : decode cJ8_newLength_cabcc 10 = .ok (.if_icmp .ge 11, 3) := by decide +kernel
theorem dJ8_newLength_cabcc_13 : decode cJ8_newLength_cabcc 13 = .ok (.iload_n 3, 1) := by decide +kernel
theorem dJ8_newLength_cabcc_14 : decode cJ8_newLength_cabcc 14 = .ok (.ldc 200, 2) := by decide +kernel
theorem dJ8_newLength_cabcc_16 : decode cJ8_newLength_cabcc 16 = .ok (.if_icmp .gt 5, 3) := by decide +kernel
theorem dJ8_newLength_cabcc_19 : decode cJ8_newLength_cabcc 19 = .ok (.iload_n 3, 1) := by decide +kernel
theorem dJ8_newLength_cabcc_20 : decode cJ8_newLength_cabcc 20 = .ok (.ireturn, 1) := by decide +kernel
theorem dJ8_newLength_cabcc_21 : decode cJ8_newLength_cabcc 21 = .ok (.iload_n 0, 1) := by decide +kernel
theorem dJ8_newLength_cabcc_22 : decode cJ8_newLength_cabcc 22 = .ok (.iload_n 1, 1) := by decide +kernel
theorem dJ8_newLength_cabcc_23 : decode cJ8_newLength_cabcc 23 = .ok (.invokestatic 201, 3) := by decide +kernel
theorem dJ8_newLength_cabcc_26 : decode cJ8_newLength_cabcc 26 = .ok (.ireturn, 1) := by decide +kernel
theorem dJ8_hugeLength_7cf53_0 : decode cJ8_hugeLength_7cf53 0 = .ok (.iload_n 0, 1) := by decide +kernel
theorem dJ8_hugeLength_7cf53_1 : decode cJ8_hugeLength_7cf53 1 = .ok (.iload_n 1, 1) := by decide +kernel
theorem dJ8_hugeLength_7cf53_2 : decode cJ8_hugeLength_7cf53 2 = .ok (.iadd, 1) := by decide +kernel
theorem dJ8_hugeLength_7cf53_3 : decode cJ8_hugeLength_7cf53 3 = .ok (.istore_n 2, 1) := by decide +kernel
theorem dJ8_hugeLength_7cf53_4 : decode cJ8_hugeLength_7cf53 4 = .ok (.iload_n 2, 1) := by decide +kernel
theorem dJ8_hugeLength_7cf53_5 : decode cJ8_hugeLength_7cf53 5 = .ok (.ifCond .ge 44, 3) := by decide +kernel
theorem dJ8_hugeLength_7cf53_8 : decode cJ8_hugeLength_7cf53 8 = .ok (.new 204, 3) := by decide +kernel
theorem dJ8_hugeLength_7cf53_11 : decode cJ8_hugeLength_7cf53 11 = .ok (.dup, 1) := by decide +kernel
theorem dJ8_hugeLength_7cf53_12 : decode cJ8_hugeLength_7cf53 12 = .ok (.new 89, 3) := by decide +kernel
theorem dJ8_hugeLength_7cf53_15 : decode cJ8_hugeLength_7cf53 15 = .ok (.dup, 1) := by decide +kernel
theorem dJ8_hugeLength_7cf53_16 : decode cJ8_hugeLength_7cf53 16 = .ok (.invokespecial 91, 3) := by decide +kernel
theorem dJ8_hugeLength_7cf53_19 : decode cJ8_hugeLength_7cf53 19 = .ok (.ldc 206, 2) := by decide +kernel
theorem dJ8_hugeLength_7cf53_21 : decode cJ8_hugeLength_7cf53 21 = .ok (.invokevirtual 94, 3) := by decide +kernel
theorem dJ8_hugeLength_7cf53_24 : decode cJ8_hugeLength_7cf53 24 = .ok (.iload_n 0, 1) := by decide +kernel
theorem dJ8_hugeLength_7cf53_25 : decode cJ8_hugeLength_7cf53 25 = .ok (.invokevirtual 98, 3) := by decide +kernel
theorem dJ8_hugeLength_7cf53_28 : decode cJ8_hugeLength_7cf53 28 = .ok (.ldc 208, 2) := by decide +kernel
theorem dJ8_hugeLength_7cf53_30 : decode cJ8_hugeLength_7cf53 30 = .ok (.invokevirtual 94, 3) := by decide +kernel
theorem dJ8_hugeLength_7cf53_33 : decode cJ8_hugeLength_7cf53 33 = .ok (.iload_n 1, 1) := by decide +kernel
theorem dJ8_hugeLength_7cf53_34 : decode cJ8_hugeLength_7cf53 34 = .ok (.invokevirtual 98, 3) := by decide +kernel
theorem dJ8_hugeLength_7cf53_37 : decode cJ8_hugeLength_7cf53 37 = .ok (.ldc 210, 2) := by decide +kernel
theorem dJ8_hugeLength_7cf53_39 : decode cJ8_hugeLength_7cf53 39 = .ok (.invokevirtual 94, 3) := by decide +kernel
theorem dJ8_hugeLength_7cf53_42 : decode cJ8_hugeLength_7cf53 42 = .ok (.invokevirtual 101, 3) := by decide +kernel
theorem dJ8_hugeLength_7cf53_45 : decode cJ8_hugeLength_7cf53 45 = .ok (.invokespecial 212, 3) := by decide +kernel
theorem dJ8_hugeLength_7cf53_48 : decode cJ8_hugeLength_7cf53 48 = .ok (.athrow, 1) := by decide +kernel
theorem dJ8_hugeLength_7cf53_49 : decode cJ8_hugeLength_7cf53 49 = .ok (.iload_n 2, 1) := by decide +kernel
theorem dJ8_hugeLength_7cf53_50 : decode cJ8_hugeLength_7cf53 50 = .ok (.ldc 200, 2) := by decide +kernel
theorem dJ8_hugeLength_7cf53_52 : decode cJ8_hugeLength_7cf53 52 = .ok (.if_icmp .gt 6, 3) := by decide +kernel
theorem dJ8_hugeLength_7cf53_55 : decode cJ8_hugeLength_7cf53 55 = .ok (.ldc 200, 2) := by decide +kernel
theorem dJ8_hugeLength_7cf53_57 : decode cJ8_hugeLength_7cf53 57 = .ok (.ireturn, 1) := by decide +kernel
theorem dJ8_hugeLength_7cf53_58 : decode cJ8_hugeLength_7cf53 58 = .ok (.iload_n 2, 1) := by decide +kernel
theorem dJ8_hugeLength_7cf53_59 : decode cJ8_hugeLength_7cf53 59 = .ok (.ireturn, 1) := by decide +kernel
theorem dJ3_checkIndex_8e157_0 : decode cJ3_checkIndex_8e157 0 = .ok (.iload_n 0, 1) := by decide +kernel
theorem dJ3_checkIndex_8e157_1 : decode cJ3_checkIndex_8e157 1 = .ok (.ifCond .lt 8, 3) := by decide +kernel
theorem dJ3_checkIndex_8e157_4 : decode cJ3_checkIndex_8e157 4 = .ok (.iload_n 0, 1) := by decide +kernel
theorem dJ3_checkIndex_8e157_5 : decode cJ3_checkIndex_8e157 5 = .ok (.iload_n 1, 1) := by decide +kernel
theorem dJ3_checkIndex_8e157_6 : decode cJ3_checkIndex_8e157 6 = .ok (.if_icmp .lt 10, 3) := by decide +kernel
theorem dJ3_checkIndex_8e157_9 : decode cJ3_checkIndex_8e157 9 = .ok (.aload_n 2, 1) := by decide +kernel
theorem dJ3_checkIndex_8e157_10 : decode cJ3_checkIndex_8e157 10 = .ok (.iload_n 0, 1) := by decide +kernel
theorem dJ3_checkIndex_8e157_11 : decode cJ3_checkIndex_8e157 11 = .ok (.iload_n 1, 1) := by decide +kernel
theorem dJ3_checkIndex_8e157_12 : decode cJ3_checkIndex_8e157 12 = .ok (.invokestatic 95, 3) := by decide +kernel
theorem dJ3_checkIndex_8e157_15 : decode cJ3_checkIndex_8e157 15 = .ok (.athrow, 1) := by decide +kernel
theorem dJ3_checkIndex_8e157_16 : decode cJ3_checkIndex_8e157 16 = .ok (.iload_n 0, 1) := by decide +kernel
theorem dJ3_checkIndex_8e157_17 : decode cJ3_checkIndex_8e157 17 = .ok (.ireturn, 1) := by decide +kernel
