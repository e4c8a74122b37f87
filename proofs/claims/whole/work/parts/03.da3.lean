theorem dX6_takeLetter_15 : decode cX6_takeLetter 15 = .ok (.istore_n 2, 1) := by decide +kernel
theorem dX6_takeLetter_16 : decode cX6_takeLetter 16 = .ok (.iload_n 2, 1) := by decide +kernel
theorem dX6_takeLetter_17 : decode cX6_takeLetter 17 = .ok (.bipush 8, 2) := by decide +kernel
theorem dX6_takeLetter_19 : decode cX6_takeLetter 19 = .ok (.if_icmp .ge 15, 3) := by decide +kernel
theorem dX6_takeLetter_22 : decode cX6_takeLetter 22 = .ok (.aload_n 0, 1) := by decide +kernel
theorem dX6_takeLetter_23 : decode cX6_takeLetter 23 = .ok (.iload_n 2, 1) := by decide +kernel
theorem dX6_takeLetter_24 : decode cX6_takeLetter 24 = .ok (.iload_n 1, 1) := by decide +kernel
theorem dX6_takeLetter_25 : decode cX6_takeLetter 25 = .ok (.invokevirtual 39, 3) := by decide +kernel
theorem dX6_takeLetter_28 : decode cX6_takeLetter 28 = .ok (.iinc 2 1, 3) := by decide +kernel
theorem dX6_takeLetter_31 : decode cX6_takeLetter 31 = .ok (.goto (-15), 3) := by decide +kernel
theorem dX6_takeLetter_34 : decode cX6_takeLetter 34 = .ok (.aload_n 0, 1) := by decide +kernel
theorem dX6_takeLetter_35 : decode cX6_takeLetter 35 = .ok (.getfield 21, 3) := by decide +kernel
theorem dX6_takeLetter_38 : decode cX6_takeLetter 38 = .ok (.iload_n 1, 1) := by decide +kernel
theorem dX6_takeLetter_39 : decode cX6_takeLetter 39 = .ok (.invokevirtual 43, 3) := by decide +kernel
theorem dX6_takeLetter_42 : decode cX6_takeLetter 42 = .ok (.ireturn, 1) := by decide +kernel
theorem dX6_holds_0 : decode cX6_holds 0 = .ok (.aload_n 0, 1) := by decide +kernel
theorem dX6_holds_1 : decode cX6_holds 1 = .ok (.getfield 15, 3) := by decide +kernel
theorem dX6_holds_4 : decode cX6_holds 4 = .ok (.iload_n 1, 1) := by decide +kernel
theorem dX6_holds_5 : decode cX6_holds 5 = .ok (.iaload, 1) := by decide +kernel
theorem dX6_holds_6 : decode cX6_holds 6 = .ok (.iload_n 2, 1) := by decide +kernel
theorem dX6_holds_7 : decode cX6_holds 7 = .ok (.ishr, 1) := by decide +kernel
theorem dX6_holds_8 : decode cX6_holds 8 = .ok (.iconst 1, 1) := by decide +kernel
theorem dX6_holds_9 : decode cX6_holds 9 = .ok (.iand, 1) := by decide +kernel
theorem dX6_holds_10 : decode cX6_holds 10 = .ok (.iconst 1, 1) := by decide +kernel
theorem dX6_holds_11 : decode cX6_holds 11 = .ok (.if_icmp .ne 7, 3) := by decide +kernel
theorem dX6_holds_14 : decode cX6_holds 14 = .ok (.iconst 1, 1) := by decide +kernel
theorem dX6_holds_15 : decode cX6_holds 15 = .ok (.goto 4, 3) := by decide +kernel
theorem dX6_holds_18 : decode cX6_holds 18 = .ok (.iconst 0, 1) := by decide +kernel
theorem dX6_holds_19 : decode cX6_holds 19 = .ok (.ireturn, 1) := by decide +kernel
theorem dX6_give_0 : decode cX6_give 0 = .ok (.aload_n 0, 1) := by decide +kernel
theorem dX6_give_1 : decode cX6_give 1 = .ok (.getfield 15, 3) := by decide +kernel
theorem dX6_give_4 : decode cX6_give 4 = .ok (.iload_n 1, 1) := by decide +kernel
theorem dX6_give_5 : decode cX6_give 5 = .ok (.dup2, 1) := by decide +kernel
theorem dX6_give_6 : decode cX6_give 6 = .ok (.iaload, 1) := by decide +kernel
theorem dX6_give_7 : decode cX6_give 7 = .ok (.iconst 1, 1) := by decide +kernel
theorem dX6_give_8 : decode cX6_give 8 = .ok (.iload_n 2, 1) := by decide +kernel
theorem dX6_give_9 : decode cX6_give 9 = .ok (.ishl, 1) := by decide +kernel
theorem dX6_give_10 : decode cX6_give 10 = .ok (.ior, 1) := by decide +kernel
theorem dX6_give_11 : decode cX6_give 11 = .ok (.iastore, 1) := by decide +kernel
theorem dX6_give_12 : decode cX6_give 12 = .ok (.aload_n 0, 1) := by decide +kernel
theorem dX6_give_13 : decode cX6_give 13 = .ok (.getfield 21, 3) := by decide +kernel
theorem dX6_give_16 : decode cX6_give 16 = .ok (.iload_n 2, 1) := by decide +kernel
theorem dX6_give_17 : decode cX6_give 17 = .ok (.iload_n 1, 1) := by decide +kernel
theorem dX6_give_18 : decode cX6_give 18 = .ok (.invokevirtual 47, 3) := by decide +kernel
theorem dX6_give_21 : decode cX6_give 21 = .ok (.ireturn, 1) := by decide +kernel
theorem dX6_takeFrom_0 : decode cX6_takeFrom 0 = .ok (.aload_n 0, 1) := by decide +kernel
theorem dX6_takeFrom_1 : decode cX6_takeFrom 1 = .ok (.getfield 15, 3) := by decide +kernel
theorem dX6_takeFrom_4 : decode cX6_takeFrom 4 = .ok (.iload_n 1, 1) := by decide +kernel
theorem dX6_takeFrom_5 : decode cX6_takeFrom 5 = .ok (.dup2, 1) := by decide +kernel
theorem dX6_takeFrom_6 : decode cX6_takeFrom 6 = .ok (.iaload, 1) := by decide +kernel
theorem dX6_takeFrom_7 : decode cX6_takeFrom 7 = .ok (.iconst 1, 1) := by decide +kernel
theorem dX6_takeFrom_8 : decode cX6_takeFrom 8 = .ok (.iload_n 2, 1) := by decide +kernel
theorem dX6_takeFrom_9 : decode cX6_takeFrom 9 = .ok (.ishl, 1) := by decide +kernel
theorem dX6_takeFrom_10 : decode cX6_takeFrom 10 = .ok (.iconst (-1), 1) := by decide +kernel
theorem dX6_takeFrom_11 : decode cX6_takeFrom 11 = .ok (.ixor, 1) := by decide +kernel
theorem dX6_takeFrom_12 : decode cX6_takeFrom 12 = .ok (.iand, 1) := by decide +kernel
theorem dX6_takeFrom_13 : decode cX6_takeFrom 13 = .ok (.iastore, 1) := by decide +kernel
theorem dX6_takeFrom_14 : decode cX6_takeFrom 14 = .ok (.return_, 1) := by decide +kernel
theorem dX6_clear_0 : decode cX6_clear 0 = .ok (.aload_n 0, 1) := by decide +kernel
theorem dX6_clear_1 : decode cX6_clear 1 = .ok (.iconst 0, 1) := by decide +kernel
theorem dX6_clear_2 : decode cX6_clear 2 = .ok (.putfield 32, 3) := by decide +kernel
theorem dX6_clear_5 : decode cX6_clear 5 = .ok (.iconst 0, 1) := by decide +kernel
theorem dX6_clear_6 : decode cX6_clear 6 = .ok (.istore_n 1, 1) := by decide +kernel
theorem dX6_clear_7 : decode cX6_clear 7 = .ok (.iload_n 1, 1) := by decide +kernel
theorem dX6_clear_8 : decode cX6_clear 8 = .ok (.bipush 8, 2) := by decide +kernel
theorem dX6_clear_10 : decode cX6_clear 10 = .ok (.if_icmp .ge 16, 3) := by decide +kernel
theorem dX6_clear_13 : decode cX6_clear 13 = .ok (.aload_n 0, 1) := by decide +kernel
theorem dX6_clear_14 : decode cX6_clear 14 = .ok (.getfield 15, 3) := by decide +kernel
theorem dX6_clear_17 : decode cX6_clear 17 = .ok (.iload_n 1, 1) := by decide +kernel
theorem dX6_clear_18 : decode cX6_clear 18 = .ok (.iconst 0, 1) := by decide +kernel
theorem dX6_clear_19 : decode cX6_clear 19 = .ok (.iastore, 1) := by decide +kernel
theorem dX6_clear_20 : decode cX6_clear 20 = .ok (.iinc 1 1, 3) := by decide +kernel
theorem dX6_clear_23 : decode cX6_clear 23 = .ok (.goto (-16), 3) := by decide +kernel
theorem dX6_clear_26 : decode cX6_clear 26 = .ok (.aload_n 0, 1) := by decide +kernel
theorem dX6_clear_27 : decode cX6_clear 27 = .ok (.getfield 21, 3) := by decide +kernel
theorem dX6_clear_30 : decode cX6_clear 30 = .ok (.iconst 0, 1) := by decide +kernel
theorem dX6_clear_31 : decode cX6_clear 31 = .ok (.putfield 51, 3) := by decide +kernel
theorem dX6_clear_34 : decode cX6_clear 34 = .ok (.aload_n 0, 1) := by decide +kernel
theorem dX6_clear_35 : decode cX6_clear 35 = .ok (.iconst 0, 1) := by decide +kernel
theorem dX6_clear_36 : decode cX6_clear 36 = .ok (.putfield 54, 3) := by decide +kernel
theorem dX6_clear_39 : decode cX6_clear 39 = .ok (.aload_n 0, 1) := by decide +kernel
theorem dX6_clear_40 : decode cX6_clear 40 = .ok (.iconst 0, 1) := by decide +kernel
theorem dX6_clear_41 : decode cX6_clear 41 = .ok (.putfield 57, 3) := by decide +kernel
theorem dX6_clear_44 : decode cX6_clear 44 = .ok (.return_, 1) := by decide +kernel
theorem dX6_isSum_0 : decode cX6_isSum 0 = .ok (.iload_n 1, 1) := by decide +kernel
theorem dX6_isSum_1 : decode cX6_isSum 1 = .ok (.ifCond .le 18, 3) := by decide +kernel
theorem dX6_isSum_4 : decode cX6_isSum 4 = .ok (.iload_n 1, 1) := by decide +kernel
theorem dX6_isSum_5 : decode cX6_isSum 5 = .ok (.aload_n 0, 1) := by decide +kernel
theorem dX6_isSum_6 : decode cX6_isSum 6 = .ok (.getfield 32, 3) := by decide +kernel
theorem dX6_isSum_9 : decode cX6_isSum 9 = .ok (.iconst (-1), 1) := by decide +kernel
theorem dX6_isSum_10 : decode cX6_isSum 10 = .ok (.ixor, 1) := by decide +kernel
theorem dX6_isSum_11 : decode cX6_isSum 11 = .ok (.iand, 1) := by decide +kernel
theorem dX6_isSum_12 : decode cX6_isSum 12 = .ok (.ifCond .ne 7, 3) := by decide +kernel
theorem dX6_isSum_15 : decode cX6_isSum 15 = .ok (.iconst 1, 1) := by decide +kernel
theorem dX6_isSum_16 : decode cX6_isSum 16 = .ok (.goto 4, 3) := by decide +kernel
theorem dX6_isSum_19 : decode cX6_isSum 19 = .ok (.iconst 0, 1) := by decide +kernel
theorem dX6_isSum_20 : decode cX6_isSum 20 = .ok (.ireturn, 1) := by decide +kernel
theorem dX6_isOnAir_0 : decode cX6_isOnAir 0 = .ok (.aload_n 0, 1) := by decide +kernel
theorem dX6_isOnAir_1 : decode cX6_isOnAir 1 = .ok (.getfield 25, 3) := by decide +kernel
theorem dX6_isOnAir_4 : decode cX6_isOnAir 4 = .ok (.iload_n 1, 1) := by decide +kernel
theorem dX6_isOnAir_5 : decode cX6_isOnAir 5 = .ok (.ishr, 1) := by decide +kernel
theorem dX6_isOnAir_6 : decode cX6_isOnAir 6 = .ok (.iconst 1, 1) := by decide +kernel
theorem dX6_isOnAir_7 : decode cX6_isOnAir 7 = .ok (.iand, 1) := by decide +kernel
theorem dX6_isOnAir_8 : decode cX6_isOnAir 8 = .ok (.iconst 1, 1) := by decide +kernel
theorem dX6_isOnAir_9 : decode cX6_isOnAir 9 = .ok (.if_icmp .ne 7, 3) := by decide +kernel
theorem dX6_isOnAir_12 : decode cX6_isOnAir 12 = .ok (.iconst 1, 1) := by decide +kernel
theorem dX6_isOnAir_13 : decode cX6_isOnAir 13 = .ok (.goto 4, 3) := by decide +kernel
theorem dX6_isOnAir_16 : decode cX6_isOnAir 16 = .ok (.iconst 0, 1) := by decide +kernel
theorem dX6_isOnAir_17 : decode cX6_isOnAir 17 = .ok (.ireturn, 1) := by decide +kernel
theorem dX6_bodyOf_0 : decode cX6_bodyOf 0 = .ok (.iconst 0, 1) := by decide +kernel
theorem dX6_bodyOf_1 : decode cX6_bodyOf 1 = .ok (.istore_n 2, 1) := by decide +kernel
theorem dX6_bodyOf_2 : decode cX6_bodyOf 2 = .ok (.iconst 0, 1) := by decide +kernel
theorem dX6_bodyOf_3 : decode cX6_bodyOf 3 = .ok (.istore_n 3, 1) := by decide +kernel
theorem dX6_bodyOf_4 : decode cX6_bodyOf 4 = .ok (.iload_n 3, 1) := by decide +kernel
theorem dX6_bodyOf_5 : decode cX6_bodyOf 5 = .ok (.bipush 10, 2) := by decide +kernel
theorem dX6_bodyOf_7 : decode cX6_bodyOf 7 = .ok (.if_icmp .ge 27, 3) := by decide +kernel
theorem dX6_bodyOf_10 : decode cX6_bodyOf 10 = .ok (.iload_n 1, 1) := by decide +kernel
theorem dX6_bodyOf_11 : decode cX6_bodyOf 11 = .ok (.iload_n 3, 1) := by decide +kernel
theorem dX6_bodyOf_12 : decode cX6_bodyOf 12 = .ok (.ishr, 1) := by decide +kernel
theorem dX6_bodyOf_13 : decode cX6_bodyOf 13 = .ok (.iconst 1, 1) := by decide +kernel
theorem dX6_bodyOf_14 : decode cX6_bodyOf 14 = .ok (.iand, 1) := by decide +kernel
theorem dX6_bodyOf_15 : decode cX6_bodyOf 15 = .ok (.iconst 1, 1) := by decide +kernel
theorem dX6_bodyOf_16 : decode cX6_bodyOf 16 = .ok (.if_icmp .ne 12, 3) := by decide +kernel
theorem dX6_bodyOf_19 : decode cX6_bodyOf 19 = .ok (.iload_n 2, 1) := by decide +kernel
theorem dX6_bodyOf_20 : decode cX6_bodyOf 20 = .ok (.aload_n 0, 1) := by decide +kernel
theorem dX6_bodyOf_21 : decode cX6_bodyOf 21 = .ok (.getfield 9, 3) := by decide +kernel
theorem dX6_bodyOf_24 : decode cX6_bodyOf 24 = .ok (.iload_n 3, 1) := by decide +kernel
theorem dX6_bodyOf_25 : decode cX6_bodyOf 25 = .ok (.iaload, 1) := by decide +kernel
theorem dX6_bodyOf_26 : decode cX6_bodyOf 26 = .ok (.ixor, 1) := by decide +kernel
theorem dX6_bodyOf_27 : decode cX6_bodyOf 27 = .ok (.istore_n 2, 1) := by decide +kernel
theorem dX6_bodyOf_28 : decode cX6_bodyOf 28 = .ok (.iinc 3 1, 3) := by decide +kernel
theorem dX6_bodyOf_31 : decode cX6_bodyOf 31 = .ok (.goto (-27), 3) := by decide +kernel
theorem dX6_bodyOf_34 : decode cX6_bodyOf 34 = .ok (.iload_n 2, 1) := by decide +kernel
theorem dX6_bodyOf_35 : decode cX6_bodyOf 35 = .ok (.ireturn, 1) := by decide +kernel
theorem dX6_readBy_0 : decode cX6_readBy 0 = .ok (.iload_n 2, 1) := by decide +kernel
theorem dX6_readBy_1 : decode cX6_readBy 1 = .ok (.aload_n 0, 1) := by decide +kernel
theorem dX6_readBy_2 : decode cX6_readBy 2 = .ok (.getfield 15, 3) := by decide +kernel
theorem dX6_readBy_5 : decode cX6_readBy 5 = .ok (.iload_n 1, 1) := by decide +kernel
theorem dX6_readBy_6 : decode cX6_readBy 6 = .ok (.iaload, 1) := by decide +kernel
theorem dX6_readBy_7 : decode cX6_readBy 7 = .ok (.iconst (-1), 1) := by decide +kernel
theorem dX6_readBy_8 : decode cX6_readBy 8 = .ok (.ixor, 1) := by decide +kernel
theorem dX6_readBy_9 : decode cX6_readBy 9 = .ok (.iand, 1) := by decide +kernel
theorem dX6_readBy_10 : decode cX6_readBy 10 = .ok (.istore_n 3, 1) := by decide +kernel
theorem dX6_readBy_11 : decode cX6_readBy 11 = .ok (.iload_n 3, 1) := by decide +kernel
theorem dX6_readBy_12 : decode cX6_readBy 12 = .ok (.invokestatic 60, 3) := by decide +kernel
theorem dX6_readBy_15 : decode cX6_readBy 15 = .ok (.iconst 1, 1) := by decide +kernel
theorem dX6_readBy_16 : decode cX6_readBy 16 = .ok (.if_icmp .ne 12, 3) := by decide +kernel
theorem dX6_readBy_19 : decode cX6_readBy 19 = .ok (.iload_n 3, 1) := by decide +kernel
theorem dX6_readBy_20 : decode cX6_readBy 20 = .ok (.iconst 1, 1) := by decide +kernel
theorem dX6_readBy_21 : decode cX6_readBy 21 = .ok (.isub, 1) := by decide +kernel
theorem dX6_readBy_22 : decode cX6_readBy 22 = .ok (.invokestatic 60, 3) := by decide +kernel
theorem dX6_readBy_25 : decode cX6_readBy 25 = .ok (.goto 5, 3) := by decide +kernel
theorem dX6_readBy_28 : decode cX6_readBy 28 = .ok (.bipush (-9), 2) := by decide +kernel
theorem dX6_readBy_30 : decode cX6_readBy 30 = .ok (.ireturn, 1) := by decide +kernel
theorem dX6_openers_0 : decode cX6_openers 0 = .ok (.iconst 0, 1) := by decide +kernel
theorem dX6_openers_1 : decode cX6_openers 1 = .ok (.istore_n 2, 1) := by decide +kernel
theorem dX6_openers_2 : decode cX6_openers 2 = .ok (.iconst 0, 1) := by decide +kernel
theorem dX6_openers_3 : decode cX6_openers 3 = .ok (.istore_n 3, 1) := by decide +kernel
theorem dX6_openers_4 : decode cX6_openers 4 = .ok (.iload_n 3, 1) := by decide +kernel
theorem dX6_openers_5 : decode cX6_openers 5 = .ok (.bipush 8, 2) := by decide +kernel
theorem dX6_openers_7 : decode cX6_openers 7 = .ok (.if_icmp .ge 34, 3) := by decide +kernel
theorem dX6_openers_10 : decode cX6_openers 10 = .ok (.aload_n 0, 1) := by decide +kernel
theorem dX6_openers_11 : decode cX6_openers 11 = .ok (.iload_n 3, 1) := by decide +kernel
theorem dX6_openers_12 : decode cX6_openers 12 = .ok (.invokevirtual 65, 3) := by decide +kernel
theorem dX6_openers_15 : decode cX6_openers 15 = .ok (.ifCond .eq 20, 3) := by decide +kernel
theorem dX6_openers_18 : decode cX6_openers 18 = .ok (.aload_n 0, 1) := by decide +kernel
theorem dX6_openers_19 : decode cX6_openers 19 = .ok (.iload_n 3, 1) := by decide +kernel
theorem dX6_openers_20 : decode cX6_openers 20 = .ok (.iload_n 1, 1) := by decide +kernel
theorem dX6_openers_21 : decode cX6_openers 21 = .ok (.invokevirtual 68, 3) := by decide +kernel
theorem dX6_openers_24 : decode cX6_openers 24 = .ok (.bipush (-9), 2) := by decide +kernel
theorem dX6_openers_26 : decode cX6_openers 26 = .ok (.if_icmp .eq 9, 3) := by decide +kernel
theorem dX6_openers_29 : decode cX6_openers 29 = .ok (.iload_n 2, 1) := by decide +kernel
theorem dX6_openers_30 : decode cX6_openers 30 = .ok (.iconst 1, 1) := by decide +kernel
theorem dX6_openers_31 : decode cX6_openers 31 = .ok (.iload_n 3, 1) := by decide +kernel
theorem dX6_openers_32 : decode cX6_openers 32 = .ok (.ishl, 1) := by decide +kernel
theorem dX6_openers_33 : decode cX6_openers 33 = .ok (.ior, 1) := by decide +kernel
theorem dX6_openers_34 : decode cX6_openers 34 = .ok (.istore_n 2, 1) := by decide +kernel
theorem dX6_openers_35 : decode cX6_openers 35 = .ok (.iinc 3 1, 3) := by decide +kernel
theorem dX6_openers_38 : decode cX6_openers 38 = .ok (.goto (-34), 3) := by decide +kernel
theorem dX6_openers_41 : decode cX6_openers 41 = .ok (.iload_n 2, 1) := by decide +kernel
theorem dX6_openers_42 : decode cX6_openers 42 = .ok (.ireturn, 1) := by decide +kernel
theorem dX6_countServed_0 : decode cX6_countServed 0 = .ok (.iconst 0, 1) := by decide +kernel
theorem dX6_countServed_1 : decode cX6_countServed 1 = .ok (.istore_n 2, 1) := by decide +kernel
theorem dX6_countServed_2 : decode cX6_countServed 2 = .ok (.iconst 0, 1) := by decide +kernel
theorem dX6_countServed_3 : decode cX6_countServed 3 = .ok (.istore_n 3, 1) := by decide +kernel
theorem dX6_countServed_4 : decode cX6_countServed 4 = .ok (.iload_n 3, 1) := by decide +kernel
theorem dX6_countServed_5 : decode cX6_countServed 5 = .ok (.aload_n 0, 1) := by decide +kernel
theorem dX6_countServed_6 : decode cX6_countServed 6 = .ok (.getfield 21, 3) := by decide +kernel
theorem dX6_countServed_9 : decode cX6_countServed 9 = .ok (.getfield 51, 3) := by decide +kernel
theorem dX6_countServed_12 : decode cX6_countServed 12 = .ok (.if_icmp .ge 51, 3) := by decide +kernel
theorem dX6_countServed_15 : decode cX6_countServed 15 = .ok (.aload_n 0, 1) := by decide +kernel
theorem dX6_countServed_16 : decode cX6_countServed 16 = .ok (.getfield 21, 3) := by decide +kernel
theorem dX6_countServed_19 : decode cX6_countServed 19 = .ok (.getfield 72, 3) := by decide +kernel
theorem dX6_countServed_22 : decode cX6_countServed 22 = .ok (.iload_n 3, 1) := by decide +kernel
theorem dX6_countServed_23 : decode cX6_countServed 23 = .ok (.iaload, 1) := by decide +kernel
theorem dX6_countServed_24 : decode cX6_countServed 24 = .ok (.istore 4, 2) := by decide +kernel
theorem dX6_countServed_26 : decode cX6_countServed 26 = .ok (.aload_n 0, 1) := by decide +kernel
theorem dX6_countServed_27 : decode cX6_countServed 27 = .ok (.iload 4, 2) := by decide +kernel
theorem dX6_countServed_29 : decode cX6_countServed 29 = .ok (.invokevirtual 65, 3) := by decide +kernel
theorem dX6_countServed_32 : decode cX6_countServed 32 = .ok (.ifCond .eq 25, 3) := by decide +kernel
theorem dX6_countServed_35 : decode cX6_countServed 35 = .ok (.aload_n 0, 1) := by decide +kernel
theorem dX6_countServed_36 : decode cX6_countServed 36 = .ok (.iload 4, 2) := by decide +kernel
theorem dX6_countServed_38 : decode cX6_countServed 38 = .ok (.iload_n 1, 1) := by decide +kernel
theorem dX6_countServed_39 : decode cX6_countServed 39 = .ok (.invokevirtual 68, 3) := by decide +kernel
theorem dX6_countServed_42 : decode cX6_countServed 42 = .ok (.aload_n 0, 1) := by decide +kernel
theorem dX6_countServed_43 : decode cX6_countServed 43 = .ok (.getfield 21, 3) := by decide +kernel
theorem dX6_countServed_46 : decode cX6_countServed 46 = .ok (.getfield 75, 3) := by decide +kernel
theorem dX6_countServed_49 : decode cX6_countServed 49 = .ok (.iload_n 3, 1) := by decide +kernel
theorem dX6_countServed_50 : decode cX6_countServed 50 = .ok (.iaload, 1) := by decide +kernel
theorem dX6_countServed_51 : decode cX6_countServed 51 = .ok (.if_icmp .ne 6, 3) := by decide +kernel
theorem dX6_countServed_54 : decode cX6_countServed 54 = .ok (.iinc 2 1, 3) := by decide +kernel
theorem dX6_countServed_57 : decode cX6_countServed 57 = .ok (.iinc 3 1, 3) := by decide +kernel
theorem dX6_countServed_60 : decode cX6_countServed 60 = .ok (.goto (-56), 3) := by decide +kernel
theorem dX6_countServed_63 : decode cX6_countServed 63 = .ok (.iload_n 2, 1) := by decide +kernel
theorem dX6_countServed_64 : decode cX6_countServed 64 = .ok (.ireturn, 1) := by decide +kernel
theorem dX6_firstOnAir_0 : decode cX6_firstOnAir 0 = .ok (.iconst 0, 1) := by decide +kernel
theorem dX6_firstOnAir_1 : decode cX6_firstOnAir 1 = .ok (.istore_n 1, 1) := by decide +kernel
theorem dX6_firstOnAir_2 : decode cX6_firstOnAir 2 = .ok (.iload_n 1, 1) := by decide +kernel
theorem dX6_firstOnAir_3 : decode cX6_firstOnAir 3 = .ok (.aload_n 0, 1) := by decide +kernel
theorem dX6_firstOnAir_4 : decode cX6_firstOnAir 4 = .ok (.getfield 21, 3) := by decide +kernel
theorem dX6_firstOnAir_7 : decode cX6_firstOnAir 7 = .ok (.getfield 51, 3) := by decide +kernel
theorem dX6_firstOnAir_10 : decode cX6_firstOnAir 10 = .ok (.if_icmp .ge 27, 3) := by decide +kernel
theorem dX6_firstOnAir_13 : decode cX6_firstOnAir 13 = .ok (.aload_n 0, 1) := by decide +kernel
theorem dX6_firstOnAir_14 : decode cX6_firstOnAir 14 = .ok (.aload_n 0, 1) := by decide +kernel
theorem dX6_firstOnAir_15 : decode cX6_firstOnAir 15 = .ok (.getfield 21, 3) := by decide +kernel
theorem dX6_firstOnAir_18 : decode cX6_firstOnAir 18 = .ok (.getfield 72, 3) := by decide +kernel
theorem dX6_firstOnAir_21 : decode cX6_firstOnAir 21 = .ok (.iload_n 1, 1) := by decide +kernel
theorem dX6_firstOnAir_22 : decode cX6_firstOnAir 22 = .ok (.iaload, 1) := by decide +kernel
theorem dX6_firstOnAir_23 : decode cX6_firstOnAir 23 = .ok (.invokevirtual 65, 3) := by decide +kernel
theorem dX6_firstOnAir_26 : decode cX6_firstOnAir 26 = .ok (.ifCond .eq 5, 3) := by decide +kernel
theorem dX6_firstOnAir_29 : decode cX6_firstOnAir 29 = .ok (.iload_n 1, 1) := by decide +kernel
theorem dX6_firstOnAir_30 : decode cX6_firstOnAir 30 = .ok (.ireturn, 1) := by decide +kernel
theorem dX6_firstOnAir_31 : decode cX6_firstOnAir 31 = .ok (.iinc 1 1, 3) := by decide +kernel
theorem dX6_firstOnAir_34 : decode cX6_firstOnAir 34 = .ok (.goto (-32), 3) := by decide +kernel
theorem dX6_firstOnAir_37 : decode cX6_firstOnAir 37 = .ok (.iconst (-1), 1) := by decide +kernel
theorem dX6_firstOnAir_38 : decode cX6_firstOnAir 38 = .ok (.ireturn, 1) := by decide +kernel
theorem dX6_findBest_0 : decode cX6_findBest 0 = .ok (.aload_n 0, 1) := by decide +kernel
theorem dX6_findBest_1 : decode cX6_findBest 1 = .ok (.invokevirtual 78, 3) := by decide +kernel
theorem dX6_findBest_4 : decode cX6_findBest 4 = .ok (.istore_n 1, 1) := by decide +kernel
theorem dX6_findBest_5 : decode cX6_findBest 5 = .ok (.iload_n 1, 1) := by decide +kernel
theorem dX6_findBest_6 : decode cX6_findBest 6 = .ok (.ifCond .ge 5, 3) := by decide +kernel
theorem dX6_findBest_9 : decode cX6_findBest 9 = .ok (.iconst 0, 1) := by decide +kernel
theorem dX6_findBest_10 : decode cX6_findBest 10 = .ok (.ireturn, 1) := by decide +kernel
theorem dX6_findBest_11 : decode cX6_findBest 11 = .ok (.iconst 1, 1) := by decide +kernel
theorem dX6_findBest_12 : decode cX6_findBest 12 = .ok (.aload_n 0, 1) := by decide +kernel
theorem dX6_findBest_13 : decode cX6_findBest 13 = .ok (.getfield 21, 3) := by decide +kernel
theorem dX6_findBest_16 : decode cX6_findBest 16 = .ok (.getfield 75, 3) := by decide +kernel
theorem dX6_findBest_19 : decode cX6_findBest 19 = .ok (.iload_n 1, 1) := by decide +kernel
theorem dX6_findBest_20 : decode cX6_findBest 20 = .ok (.iaload, 1) := by decide +kernel
theorem dX6_findBest_21 : decode cX6_findBest 21 = .ok (.ishl, 1) := by decide +kernel
theorem dX6_findBest_22 : decode cX6_findBest 22 = .ok (.istore_n 2, 1) := by decide +kernel
theorem dX6_findBest_23 : decode cX6_findBest 23 = .ok (.aload_n 0, 1) := by decide +kernel
theorem dX6_findBest_24 : decode cX6_findBest 24 = .ok (.getfield 15, 3) := by decide +kernel
theorem dX6_findBest_27 : decode cX6_findBest 27 = .ok (.aload_n 0, 1) := by decide +kernel
theorem dX6_findBest_28 : decode cX6_findBest 28 = .ok (.getfield 21, 3) := by decide +kernel
theorem dX6_findBest_31 : decode cX6_findBest 31 = .ok (.getfield 72, 3) := by decide +kernel
theorem dX6_findBest_34 : decode cX6_findBest 34 = .ok (.iload_n 1, 1) := by decide +kernel
theorem dX6_findBest_35 : decode cX6_findBest 35 = .ok (.iaload, 1) := by decide +kernel
theorem dX6_findBest_36 : decode cX6_findBest 36 = .ok (.iaload, 1) := by decide +kernel
theorem dX6_findBest_37 : decode cX6_findBest 37 = .ok (.istore_n 3, 1) := by decide +kernel
theorem dX6_findBest_38 : decode cX6_findBest 38 = .ok (.iconst 0, 1) := by decide +kernel
theorem dX6_findBest_39 : decode cX6_findBest 39 = .ok (.istore 4, 2) := by decide +kernel
theorem dX6_findBest_41 : decode cX6_findBest 41 = .ok (.iconst 0, 1) := by decide +kernel
theorem dX6_findBest_42 : decode cX6_findBest 42 = .ok (.istore 5, 2) := by decide +kernel
theorem dX6_findBest_44 : decode cX6_findBest 44 = .ok (.iconst 1, 1) := by decide +kernel
theorem dX6_findBest_45 : decode cX6_findBest 45 = .ok (.istore 6, 2) := by decide +kernel
theorem dX6_findBest_47 : decode cX6_findBest 47 = .ok (.iload 6, 2) := by decide +kernel
theorem dX6_findBest_49 : decode cX6_findBest 49 = .ok (.sipush 1023, 3) := by decide +kernel
theorem dX6_findBest_52 : decode cX6_findBest 52 = .ok (.if_icmp .gt 86, 3) := by decide +kernel
theorem dX6_findBest_55 : decode cX6_findBest 55 = .ok (.iload 6, 2) := by decide +kernel
theorem dX6_findBest_57 : decode cX6_findBest 57 = .ok (.iload_n 3, 1) := by decide +kernel
theorem dX6_findBest_58 : decode cX6_findBest 58 = .ok (.iconst (-1), 1) := by decide +kernel
theorem dX6_findBest_59 : decode cX6_findBest 59 = .ok (.ixor, 1) := by decide +kernel
theorem dX6_findBest_60 : decode cX6_findBest 60 = .ok (.iand, 1) := by decide +kernel
theorem dX6_findBest_61 : decode cX6_findBest 61 = .ok (.iload_n 2, 1) := by decide +kernel
theorem dX6_findBest_62 : decode cX6_findBest 62 = .ok (.if_icmp .ne 70, 3) := by decide +kernel
theorem dX6_findBest_65 : decode cX6_findBest 65 = .ok (.iload 6, 2) := by decide +kernel
theorem dX6_findBest_67 : decode cX6_findBest 67 = .ok (.invokestatic 60, 3) := by decide +kernel
theorem dX6_findBest_70 : decode cX6_findBest 70 = .ok (.aload_n 0, 1) := by decide +kernel
theorem dX6_findBest_71 : decode cX6_findBest 71 = .ok (.getfield 29, 3) := by decide +kernel
theorem dX6_findBest_74 : decode cX6_findBest 74 = .ok (.if_icmp .gt 58, 3) := by decide +kernel
theorem dX6_findBest_77 : decode cX6_findBest 77 = .ok (.aload_n 0, 1) := by decide +kernel
theorem dX6_findBest_78 : decode cX6_findBest 78 = .ok (.iload 6, 2) := by decide +kernel
theorem dX6_findBest_80 : decode cX6_findBest 80 = .ok (.invokevirtual 82, 3) := by decide +kernel
theorem dX6_findBest_83 : decode cX6_findBest 83 = .ok (.istore 7, 2) := by decide +kernel
theorem dX6_findBest_85 : decode cX6_findBest 85 = .ok (.iload 6, 2) := by decide +kernel
theorem dX6_findBest_87 : decode cX6_findBest 87 = .ok (.invokestatic 60, 3) := by decide +kernel
theorem dX6_findBest_90 : decode cX6_findBest 90 = .ok (.iload 4, 2) := by decide +kernel
theorem dX6_findBest_92 : decode cX6_findBest 92 = .ok (.invokestatic 60, 3) := by decide +kernel
theorem dX6_findBest_95 : decode cX6_findBest 95 = .ok (.if_icmp .ge 7, 3) := by decide +kernel
theorem dX6_findBest_98 : decode cX6_findBest 98 = .ok (.iconst 1, 1) := by decide +kernel
theorem dX6_findBest_99 : decode cX6_findBest 99 = .ok (.goto 4, 3) := by decide +kernel
theorem dX6_findBest_102 : decode cX6_findBest 102 = .ok (.iconst 0, 1) := by decide +kernel
theorem dX6_findBest_103 : decode cX6_findBest 103 = .ok (.istore 8, 2) := by decide +kernel
theorem dX6_findBest_105 : decode cX6_findBest 105 = .ok (.iload 7, 2) := by decide +kernel
theorem dX6_findBest_107 : decode cX6_findBest 107 = .ok (.iload 5, 2) := by decide +kernel
theorem dX6_findBest_109 : decode cX6_findBest 109 = .ok (.if_icmp .gt 15, 3) := by decide +kernel
theorem dX6_findBest_112 : decode cX6_findBest 112 = .ok (.iload 7, 2) := by decide +kernel
theorem dX6_findBest_114 : decode cX6_findBest 114 = .ok (.iload 5, 2) := by decide +kernel
theorem dX6_findBest_116 : decode cX6_findBest 116 = .ok (.if_icmp .ne 16, 3) := by decide +kernel
theorem dX6_findBest_119 : decode cX6_findBest 119 = .ok (.iload 8, 2) := by decide +kernel
theorem dX6_findBest_121 : decode cX6_findBest 121 = .ok (.ifCond .eq 11, 3) := by decide +kernel
theorem dX6_findBest_124 : decode cX6_findBest 124 = .ok (.iload 6, 2) := by decide +kernel
theorem dX6_findBest_126 : decode cX6_findBest 126 = .ok (.istore 4, 2) := by decide +kernel
theorem dX6_findBest_128 : decode cX6_findBest 128 = .ok (.iload 7, 2) := by decide +kernel
theorem dX6_findBest_130 : decode cX6_findBest 130 = .ok (.istore 5, 2) := by decide +kernel
theorem dX6_findBest_132 : decode cX6_findBest 132 = .ok (.iinc 6 1, 3) := by decide +kernel
theorem dX6_findBest_135 : decode cX6_findBest 135 = .ok (.goto (-88), 3) := by decide +kernel
theorem dX6_findBest_138 : decode cX6_findBest 138 = .ok (.iload 4, 2) := by decide +kernel
theorem dX6_findBest_140 : decode cX6_findBest 140 = .ok (.ireturn, 1) := by decide +kernel
theorem dX6_deliver_0 : decode cX6_deliver 0 = .ok (.iconst 0, 1) := by decide +kernel
theorem dX6_deliver_1 : decode cX6_deliver 1 = .ok (.istore_n 2, 1) := by decide +kernel
theorem dX6_deliver_2 : decode cX6_deliver 2 = .ok (.iconst 0, 1) := by decide +kernel
theorem dX6_deliver_3 : decode cX6_deliver 3 = .ok (.istore_n 3, 1) := by decide +kernel
theorem dX6_deliver_4 : decode cX6_deliver 4 = .ok (.iload_n 3, 1) := by decide +kernel
theorem dX6_deliver_5 : decode cX6_deliver 5 = .ok (.bipush 8, 2) := by decide +kernel
theorem dX6_deliver_7 : decode cX6_deliver 7 = .ok (.if_icmp .ge 45, 3) := by decide +kernel
theorem dX6_deliver_10 : decode cX6_deliver 10 = .ok (.aload_n 0, 1) := by decide +kernel
theorem dX6_deliver_11 : decode cX6_deliver 11 = .ok (.iload_n 3, 1) := by decide +kernel
theorem dX6_deliver_12 : decode cX6_deliver 12 = .ok (.iload_n 1, 1) := by decide +kernel
theorem dX6_deliver_13 : decode cX6_deliver 13 = .ok (.invokevirtual 68, 3) := by decide +kernel
theorem dX6_deliver_16 : decode cX6_deliver 16 = .ok (.istore 4, 2) := by decide +kernel
theorem dX6_deliver_18 : decode cX6_deliver 18 = .ok (.aload_n 0, 1) := by decide +kernel
theorem dX6_deliver_19 : decode cX6_deliver 19 = .ok (.iload_n 3, 1) := by decide +kernel
theorem dX6_deliver_20 : decode cX6_deliver 20 = .ok (.invokevirtual 65, 3) := by decide +kernel
theorem dX6_deliver_23 : decode cX6_deliver 23 = .ok (.ifCond .eq 23, 3) := by decide +kernel
theorem dX6_deliver_26 : decode cX6_deliver 26 = .ok (.iload 4, 2) := by decide +kernel
theorem dX6_deliver_28 : decode cX6_deliver 28 = .ok (.bipush (-9), 2) := by decide +kernel
theorem dX6_deliver_30 : decode cX6_deliver 30 = .ok (.if_icmp .eq 16, 3) := by decide +kernel
theorem dX6_deliver_33 : decode cX6_deliver 33 = .ok (.aload_n 0, 1) := by decide +kernel
theorem dX6_deliver_34 : decode cX6_deliver 34 = .ok (.iload_n 3, 1) := by decide +kernel
theorem dX6_deliver_35 : decode cX6_deliver 35 = .ok (.iload 4, 2) := by decide +kernel
theorem dX6_deliver_37 : decode cX6_deliver 37 = .ok (.invokevirtual 85, 3) := by decide +kernel
theorem dX6_deliver_40 : decode cX6_deliver 40 = .ok (.ifCond .eq 6, 3) := by decide +kernel
theorem dX6_deliver_43 : decode cX6_deliver 43 = .ok (.iinc 2 1, 3) := by decide +kernel
theorem dX6_deliver_46 : decode cX6_deliver 46 = .ok (.iinc 3 1, 3) := by decide +kernel
theorem dX6_deliver_49 : decode cX6_deliver 49 = .ok (.goto (-45), 3) := by decide +kernel
theorem dX6_deliver_52 : decode cX6_deliver 52 = .ok (.aload_n 0, 1) := by decide +kernel
theorem dX6_deliver_53 : decode cX6_deliver 53 = .ok (.dup, 1) := by decide +kernel
theorem dX6_deliver_54 : decode cX6_deliver 54 = .ok (.getfield 54, 3) := by decide +kernel
theorem dX6_deliver_57 : decode cX6_deliver 57 = .ok (.iconst 1, 1) := by decide +kernel
theorem dX6_deliver_58 : decode cX6_deliver 58 = .ok (.iadd, 1) := by decide +kernel
theorem dX6_deliver_59 : decode cX6_deliver 59 = .ok (.putfield 54, 3) := by decide +kernel
theorem dX6_deliver_62 : decode cX6_deliver 62 = .ok (.aload_n 0, 1) := by decide +kernel
theorem dX6_deliver_63 : decode cX6_deliver 63 = .ok (.dup, 1) := by decide +kernel
theorem dX6_deliver_64 : decode cX6_deliver 64 = .ok (.getfield 57, 3) := by decide +kernel
theorem dX6_deliver_67 : decode cX6_deliver 67 = .ok (.iload_n 2, 1) := by decide +kernel
theorem dX6_deliver_68 : decode cX6_deliver 68 = .ok (.iadd, 1) := by decide +kernel
theorem dX6_deliver_69 : decode cX6_deliver 69 = .ok (.putfield 57, 3) := by decide +kernel
theorem dX6_deliver_72 : decode cX6_deliver 72 = .ok (.iload_n 2, 1) := by decide +kernel
theorem dX6_deliver_73 : decode cX6_deliver 73 = .ok (.ireturn, 1) := by decide +kernel
theorem dX7_init_0 : decode cX7_init 0 = .ok (.aload_n 0, 1) := by decide +kernel
theorem dX7_init_1 : decode cX7_init 1 = .ok (.invokespecial 3, 3) := by decide +kernel
theorem dX7_init_4 : decode cX7_init 4 = .ok (.aload_n 0, 1) := by decide +kernel
theorem dX7_init_5 : decode cX7_init 5 = .ok (.bipush 12, 2) := by decide +kernel
theorem dX7_init_7 : decode cX7_init 7 = .ok (.newarray .int, 2) := by decide +kernel
theorem dX7_init_9 : decode cX7_init 9 = .ok (.putfield 9, 3) := by decide +kernel
theorem dX7_init_12 : decode cX7_init 12 = .ok (.return_, 1) := by decide +kernel
theorem dX7_add_0 : decode cX7_add 0 = .ok (.aload_n 0, 1) := by decide +kernel
theorem dX7_add_1 : decode cX7_add 1 = .ok (.getfield 15, 3) := by decide +kernel
theorem dX7_add_4 : decode cX7_add 4 = .ok (.bipush 12, 2) := by decide +kernel
theorem dX7_add_6 : decode cX7_add 6 = .ok (.if_icmp .lt 5, 3) := by decide +kernel
theorem dX7_add_9 : decode cX7_add 9 = .ok (.iconst 0, 1) := by decide +kernel
theorem dX7_add_10 : decode cX7_add 10 = .ok (.ireturn, 1) := by decide +kernel
theorem dX7_add_11 : decode cX7_add 11 = .ok (.aload_n 0, 1) := by decide +kernel
theorem dX7_add_12 : decode cX7_add 12 = .ok (.getfield 9, 3) := by decide +kernel
theorem dX7_add_15 : decode cX7_add 15 = .ok (.aload_n 0, 1) := by decide +kernel
theorem dX7_add_16 : decode cX7_add 16 = .ok (.getfield 15, 3) := by decide +kernel
theorem dX7_add_19 : decode cX7_add 19 = .ok (.iload_n 1, 1) := by decide +kernel
theorem dX7_add_20 : decode cX7_add 20 = .ok (.iastore, 1) := by decide +kernel
theorem dX7_add_21 : decode cX7_add 21 = .ok (.aload_n 0, 1) := by decide +kernel
theorem dX7_add_22 : decode cX7_add 22 = .ok (.dup, 1) := by decide +kernel
theorem dX7_add_23 : decode cX7_add 23 = .ok (.getfield 15, 3) := by decide +kernel
theorem dX7_add_26 : decode cX7_add 26 = .ok (.iconst 1, 1) := by decide +kernel
theorem dX7_add_27 : decode cX7_add 27 = .ok (.iadd, 1) := by decide +kernel
theorem dX7_add_28 : decode cX7_add 28 = .ok (.putfield 15, 3) := by decide +kernel
theorem dX7_add_31 : decode cX7_add 31 = .ok (.iconst 1, 1) := by decide +kernel
theorem dX7_add_32 : decode cX7_add 32 = .ok (.ireturn, 1) := by decide +kernel
theorem dX7_spells_0 : decode cX7_spells 0 = .ok (.aload_n 1, 1) := by decide +kernel
theorem dX7_spells_1 : decode cX7_spells 1 = .ok (.invokevirtual 19, 3) := by decide +kernel
theorem dX7_spells_4 : decode cX7_spells 4 = .ok (.aload_n 0, 1) := by decide +kernel
theorem dX7_spells_5 : decode cX7_spells 5 = .ok (.getfield 15, 3) := by decide +kernel
theorem dX7_spells_8 : decode cX7_spells 8 = .ok (.if_icmp .eq 5, 3) := by decide +kernel
theorem dX7_spells_11 : decode cX7_spells 11 = .ok (.iconst 0, 1) := by decide +kernel
theorem dX7_spells_12 : decode cX7_spells 12 = .ok (.ireturn, 1) := by decide +kernel
theorem dX7_spells_13 : decode cX7_spells 13 = .ok (.iconst 0, 1) := by decide +kernel
theorem dX7_spells_14 : decode cX7_spells 14 = .ok (.istore_n 2, 1) := by decide +kernel
theorem dX7_spells_15 : decode cX7_spells 15 = .ok (.iload_n 2, 1) := by decide +kernel
theorem dX7_spells_16 : decode cX7_spells 16 = .ok (.aload_n 0, 1) := by decide +kernel
theorem dX7_spells_17 : decode cX7_spells 17 = .ok (.getfield 15, 3) := by decide +kernel
theorem dX7_spells_20 : decode cX7_spells 20 = .ok (.if_icmp .ge 25, 3) := by decide +kernel
theorem dX7_spells_23 : decode cX7_spells 23 = .ok (.aload_n 1, 1) := by decide +kernel
theorem dX7_spells_24 : decode cX7_spells 24 = .ok (.iload_n 2, 1) := by decide +kernel
theorem dX7_spells_25 : decode cX7_spells 25 = .ok (.invokevirtual 25, 3) := by decide +kernel
theorem dX7_spells_28 : decode cX7_spells 28 = .ok (.aload_n 0, 1) := by decide +kernel
theorem dX7_spells_29 : decode cX7_spells 29 = .ok (.getfield 9, 3) := by decide +kernel
theorem dX7_spells_32 : decode cX7_spells 32 = .ok (.iload_n 2, 1) := by decide +kernel
theorem dX7_spells_33 : decode cX7_spells 33 = .ok (.iaload, 1) := by decide +kernel
theorem dX7_spells_34 : decode cX7_spells 34 = .ok (.if_icmp .eq 5, 3) := by decide +kernel
theorem dX7_spells_37 : decode cX7_spells 37 = .ok (.iconst 0, 1) := by decide +kernel
