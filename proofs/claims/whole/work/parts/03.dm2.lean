theorem dX9_bestSum_2 : decode cX9_bestSum 2 = .ok (.iload_n 1, 1) := by decide +kernel
theorem dX9_bestSum_3 : decode cX9_bestSum 3 = .ok (.aload_n 0, 1) := by decide +kernel
theorem dX9_bestSum_4 : decode cX9_bestSum 4 = .ok (.getfield 79, 3) := by decide +kernel
theorem dX9_bestSum_7 : decode cX9_bestSum 7 = .ok (.if_icmp .ge 25, 3) := by decide +kernel
theorem dX9_bestSum_10 : decode cX9_bestSum 10 = .ok (.aload_n 0, 1) := by decide +kernel
theorem dX9_bestSum_11 : decode cX9_bestSum 11 = .ok (.getfield 22, 3) := by decide +kernel
theorem dX9_bestSum_14 : decode cX9_bestSum 14 = .ok (.aload_n 0, 1) := by decide +kernel
theorem dX9_bestSum_15 : decode cX9_bestSum 15 = .ok (.getfield 19, 3) := by decide +kernel
theorem dX9_bestSum_18 : decode cX9_bestSum 18 = .ok (.iload_n 1, 1) := by decide +kernel
theorem dX9_bestSum_19 : decode cX9_bestSum 19 = .ok (.iaload, 1) := by decide +kernel
theorem dX9_bestSum_20 : decode cX9_bestSum 20 = .ok (.invokestatic 75, 3) := by decide +kernel
theorem dX9_bestSum_23 : decode cX9_bestSum 23 = .ok (.ifCond .ne 9, 3) := by decide +kernel
theorem dX9_bestSum_26 : decode cX9_bestSum 26 = .ok (.iinc 1 1, 3) := by decide +kernel
theorem dX9_bestSum_29 : decode cX9_bestSum 29 = .ok (.goto (-27), 3) := by decide +kernel
theorem dX9_bestSum_32 : decode cX9_bestSum 32 = .ok (.iconst 0, 1) := by decide +kernel
theorem dX9_bestSum_33 : decode cX9_bestSum 33 = .ok (.istore_n 2, 1) := by decide +kernel
theorem dX9_bestSum_34 : decode cX9_bestSum 34 = .ok (.iconst 1, 1) := by decide +kernel
theorem dX9_bestSum_35 : decode cX9_bestSum 35 = .ok (.istore_n 3, 1) := by decide +kernel
theorem dX9_bestSum_36 : decode cX9_bestSum 36 = .ok (.iload_n 3, 1) := by decide +kernel
theorem dX9_bestSum_37 : decode cX9_bestSum 37 = .ok (.sipush 1024, 3) := by decide +kernel
theorem dX9_bestSum_40 : decode cX9_bestSum 40 = .ok (.if_icmp .ge 56, 3) := by decide +kernel
theorem dX9_bestSum_43 : decode cX9_bestSum 43 = .ok (.iload_n 1, 1) := by decide +kernel
theorem dX9_bestSum_44 : decode cX9_bestSum 44 = .ok (.aload_n 0, 1) := by decide +kernel
theorem dX9_bestSum_45 : decode cX9_bestSum 45 = .ok (.getfield 79, 3) := by decide +kernel
theorem dX9_bestSum_48 : decode cX9_bestSum 48 = .ok (.if_icmp .ge 48, 3) := by decide +kernel
theorem dX9_bestSum_51 : decode cX9_bestSum 51 = .ok (.aload_n 0, 1) := by decide +kernel
theorem dX9_bestSum_52 : decode cX9_bestSum 52 = .ok (.iload_n 3, 1) := by decide +kernel
theorem dX9_bestSum_53 : decode cX9_bestSum 53 = .ok (.invokevirtual 106, 3) := by decide +kernel
theorem dX9_bestSum_56 : decode cX9_bestSum 56 = .ok (.ifCond .eq 34, 3) := by decide +kernel
theorem dX9_bestSum_59 : decode cX9_bestSum 59 = .ok (.iload_n 3, 1) := by decide +kernel
theorem dX9_bestSum_60 : decode cX9_bestSum 60 = .ok (.invokestatic 102, 3) := by decide +kernel
theorem dX9_bestSum_63 : decode cX9_bestSum 63 = .ok (.aload_n 0, 1) := by decide +kernel
theorem dX9_bestSum_64 : decode cX9_bestSum 64 = .ok (.getfield 26, 3) := by decide +kernel
theorem dX9_bestSum_67 : decode cX9_bestSum 67 = .ok (.if_icmp .gt 23, 3) := by decide +kernel
theorem dX9_bestSum_70 : decode cX9_bestSum 70 = .ok (.aload_n 0, 1) := by decide +kernel
theorem dX9_bestSum_71 : decode cX9_bestSum 71 = .ok (.iload_n 3, 1) := by decide +kernel
theorem dX9_bestSum_72 : decode cX9_bestSum 72 = .ok (.iload_n 1, 1) := by decide +kernel
theorem dX9_bestSum_73 : decode cX9_bestSum 73 = .ok (.invokevirtual 112, 3) := by decide +kernel
theorem dX9_bestSum_76 : decode cX9_bestSum 76 = .ok (.ifCond .eq 14, 3) := by decide +kernel
theorem dX9_bestSum_79 : decode cX9_bestSum 79 = .ok (.aload_n 0, 1) := by decide +kernel
theorem dX9_bestSum_80 : decode cX9_bestSum 80 = .ok (.iload_n 3, 1) := by decide +kernel
theorem dX9_bestSum_81 : decode cX9_bestSum 81 = .ok (.iload_n 2, 1) := by decide +kernel
theorem dX9_bestSum_82 : decode cX9_bestSum 82 = .ok (.invokevirtual 124, 3) := by decide +kernel
theorem dX9_bestSum_85 : decode cX9_bestSum 85 = .ok (.ifCond .eq 5, 3) := by decide +kernel
theorem dX9_bestSum_88 : decode cX9_bestSum 88 = .ok (.iload_n 3, 1) := by decide +kernel
theorem dX9_bestSum_89 : decode cX9_bestSum 89 = .ok (.istore_n 2, 1) := by decide +kernel
theorem dX9_bestSum_90 : decode cX9_bestSum 90 = .ok (.iinc 3 1, 3) := by decide +kernel
theorem dX9_bestSum_93 : decode cX9_bestSum 93 = .ok (.goto (-57), 3) := by decide +kernel
theorem dX9_bestSum_96 : decode cX9_bestSum 96 = .ok (.iload_n 2, 1) := by decide +kernel
theorem dX9_bestSum_97 : decode cX9_bestSum 97 = .ok (.ireturn, 1) := by decide +kernel
theorem dX9_best_0 : decode cX9_best 0 = .ok (.aload_n 0, 1) := by decide +kernel
theorem dX9_best_1 : decode cX9_best 1 = .ok (.invokevirtual 127, 3) := by decide +kernel
theorem dX9_best_4 : decode cX9_best 4 = .ok (.ireturn, 1) := by decide +kernel
theorem dX9_sends_0 : decode cX9_sends 0 = .ok (.aload_n 0, 1) := by decide +kernel
theorem dX9_sends_1 : decode cX9_sends 1 = .ok (.getfield 79, 3) := by decide +kernel
theorem dX9_sends_4 : decode cX9_sends 4 = .ok (.istore_n 2, 1) := by decide +kernel
theorem dX9_sends_5 : decode cX9_sends 5 = .ok (.iconst 0, 1) := by decide +kernel
theorem dX9_sends_6 : decode cX9_sends 6 = .ok (.istore_n 3, 1) := by decide +kernel
theorem dX9_sends_7 : decode cX9_sends 7 = .ok (.iload_n 3, 1) := by decide +kernel
theorem dX9_sends_8 : decode cX9_sends 8 = .ok (.bipush 8, 2) := by decide +kernel
theorem dX9_sends_10 : decode cX9_sends 10 = .ok (.if_icmp .ge 61, 3) := by decide +kernel
theorem dX9_sends_13 : decode cX9_sends 13 = .ok (.aload_n 0, 1) := by decide +kernel
theorem dX9_sends_14 : decode cX9_sends 14 = .ok (.getfield 22, 3) := by decide +kernel
theorem dX9_sends_17 : decode cX9_sends 17 = .ok (.iload_n 3, 1) := by decide +kernel
theorem dX9_sends_18 : decode cX9_sends 18 = .ok (.invokestatic 75, 3) := by decide +kernel
theorem dX9_sends_21 : decode cX9_sends 21 = .ok (.ifCond .eq 12, 3) := by decide +kernel
theorem dX9_sends_24 : decode cX9_sends 24 = .ok (.aload_n 0, 1) := by decide +kernel
theorem dX9_sends_25 : decode cX9_sends 25 = .ok (.iload_n 3, 1) := by decide +kernel
theorem dX9_sends_26 : decode cX9_sends 26 = .ok (.iload_n 1, 1) := by decide +kernel
theorem dX9_sends_27 : decode cX9_sends 27 = .ok (.invokevirtual 109, 3) := by decide +kernel
theorem dX9_sends_30 : decode cX9_sends 30 = .ok (.goto 5, 3) := by decide +kernel
theorem dX9_sends_33 : decode cX9_sends 33 = .ok (.bipush (-9), 2) := by decide +kernel
theorem dX9_sends_35 : decode cX9_sends 35 = .ok (.istore 4, 2) := by decide +kernel
theorem dX9_sends_37 : decode cX9_sends 37 = .ok (.iload 4, 2) := by decide +kernel
theorem dX9_sends_39 : decode cX9_sends 39 = .ok (.bipush (-9), 2) := by decide +kernel
theorem dX9_sends_41 : decode cX9_sends 41 = .ok (.if_icmp .eq 24, 3) := by decide +kernel
theorem dX9_sends_44 : decode cX9_sends 44 = .ok (.aload_n 0, 1) := by decide +kernel
theorem dX9_sends_45 : decode cX9_sends 45 = .ok (.getfield 13, 3) := by decide +kernel
theorem dX9_sends_48 : decode cX9_sends 48 = .ok (.iload_n 3, 1) := by decide +kernel
theorem dX9_sends_49 : decode cX9_sends 49 = .ok (.dup2, 1) := by decide +kernel
theorem dX9_sends_50 : decode cX9_sends 50 = .ok (.iaload, 1) := by decide +kernel
theorem dX9_sends_51 : decode cX9_sends 51 = .ok (.iconst 1, 1) := by decide +kernel
theorem dX9_sends_52 : decode cX9_sends 52 = .ok (.iload 4, 2) := by decide +kernel
theorem dX9_sends_54 : decode cX9_sends 54 = .ok (.ishl, 1) := by decide +kernel
theorem dX9_sends_55 : decode cX9_sends 55 = .ok (.ior, 1) := by decide +kernel
theorem dX9_sends_56 : decode cX9_sends 56 = .ok (.iastore, 1) := by decide +kernel
theorem dX9_sends_57 : decode cX9_sends 57 = .ok (.aload_n 0, 1) := by decide +kernel
theorem dX9_sends_58 : decode cX9_sends 58 = .ok (.iload 4, 2) := by decide +kernel
theorem dX9_sends_60 : decode cX9_sends 60 = .ok (.iload_n 3, 1) := by decide +kernel
theorem dX9_sends_61 : decode cX9_sends 61 = .ok (.invokevirtual 86, 3) := by decide +kernel
theorem dX9_sends_64 : decode cX9_sends 64 = .ok (.pop, 1) := by decide +kernel
theorem dX9_sends_65 : decode cX9_sends 65 = .ok (.iinc 3 1, 3) := by decide +kernel
theorem dX9_sends_68 : decode cX9_sends 68 = .ok (.goto (-61), 3) := by decide +kernel
theorem dX9_sends_71 : decode cX9_sends 71 = .ok (.aload_n 0, 1) := by decide +kernel
theorem dX9_sends_72 : decode cX9_sends 72 = .ok (.dup, 1) := by decide +kernel
theorem dX9_sends_73 : decode cX9_sends 73 = .ok (.getfield 96, 3) := by decide +kernel
theorem dX9_sends_76 : decode cX9_sends 76 = .ok (.iconst 1, 1) := by decide +kernel
theorem dX9_sends_77 : decode cX9_sends 77 = .ok (.iadd, 1) := by decide +kernel
theorem dX9_sends_78 : decode cX9_sends 78 = .ok (.putfield 96, 3) := by decide +kernel
theorem dX9_sends_81 : decode cX9_sends 81 = .ok (.aload_n 0, 1) := by decide +kernel
theorem dX9_sends_82 : decode cX9_sends 82 = .ok (.dup, 1) := by decide +kernel
theorem dX9_sends_83 : decode cX9_sends 83 = .ok (.getfield 99, 3) := by decide +kernel
theorem dX9_sends_86 : decode cX9_sends 86 = .ok (.iload_n 2, 1) := by decide +kernel
theorem dX9_sends_87 : decode cX9_sends 87 = .ok (.aload_n 0, 1) := by decide +kernel
theorem dX9_sends_88 : decode cX9_sends 88 = .ok (.getfield 79, 3) := by decide +kernel
theorem dX9_sends_91 : decode cX9_sends 91 = .ok (.isub, 1) := by decide +kernel
theorem dX9_sends_92 : decode cX9_sends 92 = .ok (.iadd, 1) := by decide +kernel
theorem dX9_sends_93 : decode cX9_sends 93 = .ok (.putfield 99, 3) := by decide +kernel
theorem dX9_sends_96 : decode cX9_sends 96 = .ok (.iload_n 2, 1) := by decide +kernel
theorem dX9_sends_97 : decode cX9_sends 97 = .ok (.aload_n 0, 1) := by decide +kernel
theorem dX9_sends_98 : decode cX9_sends 98 = .ok (.getfield 79, 3) := by decide +kernel
theorem dX9_sends_101 : decode cX9_sends 101 = .ok (.isub, 1) := by decide +kernel
theorem dX9_sends_102 : decode cX9_sends 102 = .ok (.ireturn, 1) := by decide +kernel
theorem dX9_send_0 : decode cX9_send 0 = .ok (.aload_n 0, 1) := by decide +kernel
theorem dX9_send_1 : decode cX9_send 1 = .ok (.iload_n 1, 1) := by decide +kernel
theorem dX9_send_2 : decode cX9_send 2 = .ok (.invokevirtual 106, 3) := by decide +kernel
theorem dX9_send_5 : decode cX9_send 5 = .ok (.ifCond .eq 11, 3) := by decide +kernel
theorem dX9_send_8 : decode cX9_send 8 = .ok (.aload_n 0, 1) := by decide +kernel
theorem dX9_send_9 : decode cX9_send 9 = .ok (.iload_n 1, 1) := by decide +kernel
theorem dX9_send_10 : decode cX9_send 10 = .ok (.invokevirtual 131, 3) := by decide +kernel
theorem dX9_send_13 : decode cX9_send 13 = .ok (.goto 5, 3) := by decide +kernel
theorem dX9_send_16 : decode cX9_send 16 = .ok (.bipush (-2), 2) := by decide +kernel
theorem dX9_send_18 : decode cX9_send 18 = .ok (.ireturn, 1) := by decide +kernel
theorem dX9_serve_0 : decode cX9_serve 0 = .ok (.iload_n 1, 1) := by decide +kernel
theorem dX9_serve_1 : decode cX9_serve 1 = .ok (.iconst 0, 1) := by decide +kernel
theorem dX9_serve_2 : decode cX9_serve 2 = .ok (.bipush 16, 2) := by decide +kernel
theorem dX9_serve_4 : decode cX9_serve 4 = .ok (.invokestatic 68, 3) := by decide +kernel
theorem dX9_serve_7 : decode cX9_serve 7 = .ok (.ifCond .ne 6, 3) := by decide +kernel
theorem dX9_serve_10 : decode cX9_serve 10 = .ok (.bipush (-2), 2) := by decide +kernel
theorem dX9_serve_12 : decode cX9_serve 12 = .ok (.ireturn, 1) := by decide +kernel
theorem dX9_serve_13 : decode cX9_serve 13 = .ok (.iconst 0, 1) := by decide +kernel
theorem dX9_serve_14 : decode cX9_serve 14 = .ok (.istore_n 2, 1) := by decide +kernel
theorem dX9_serve_15 : decode cX9_serve 15 = .ok (.aload_n 0, 1) := by decide +kernel
theorem dX9_serve_16 : decode cX9_serve 16 = .ok (.invokevirtual 127, 3) := by decide +kernel
theorem dX9_serve_19 : decode cX9_serve 19 = .ok (.istore_n 3, 1) := by decide +kernel
theorem dX9_serve_20 : decode cX9_serve 20 = .ok (.iload_n 2, 1) := by decide +kernel
theorem dX9_serve_21 : decode cX9_serve 21 = .ok (.iload_n 1, 1) := by decide +kernel
theorem dX9_serve_22 : decode cX9_serve 22 = .ok (.if_icmp .ge 24, 3) := by decide +kernel
theorem dX9_serve_25 : decode cX9_serve 25 = .ok (.iload_n 3, 1) := by decide +kernel
theorem dX9_serve_26 : decode cX9_serve 26 = .ok (.ifCond .eq 20, 3) := by decide +kernel
theorem dX9_serve_29 : decode cX9_serve 29 = .ok (.aload_n 0, 1) := by decide +kernel
theorem dX9_serve_30 : decode cX9_serve 30 = .ok (.iload_n 3, 1) := by decide +kernel
theorem dX9_serve_31 : decode cX9_serve 31 = .ok (.invokevirtual 131, 3) := by decide +kernel
theorem dX9_serve_34 : decode cX9_serve 34 = .ok (.pop, 1) := by decide +kernel
theorem dX9_serve_35 : decode cX9_serve 35 = .ok (.iinc 2 1, 3) := by decide +kernel
theorem dX9_serve_38 : decode cX9_serve 38 = .ok (.aload_n 0, 1) := by decide +kernel
theorem dX9_serve_39 : decode cX9_serve 39 = .ok (.invokevirtual 127, 3) := by decide +kernel
theorem dX9_serve_42 : decode cX9_serve 42 = .ok (.istore_n 3, 1) := by decide +kernel
theorem dX9_serve_43 : decode cX9_serve 43 = .ok (.goto (-23), 3) := by decide +kernel
theorem dX9_serve_46 : decode cX9_serve 46 = .ok (.iload_n 2, 1) := by decide +kernel
theorem dX9_serve_47 : decode cX9_serve 47 = .ok (.ireturn, 1) := by decide +kernel
theorem dX9_key_0 : decode cX9_key 0 = .ok (.iload_n 1, 1) := by decide +kernel
theorem dX9_key_1 : decode cX9_key 1 = .ok (.iconst 0, 1) := by decide +kernel
theorem dX9_key_2 : decode cX9_key 2 = .ok (.bipush 127, 2) := by decide +kernel
theorem dX9_key_4 : decode cX9_key 4 = .ok (.invokestatic 68, 3) := by decide +kernel
theorem dX9_key_7 : decode cX9_key 7 = .ok (.ifCond .ne 6, 3) := by decide +kernel
theorem dX9_key_10 : decode cX9_key 10 = .ok (.bipush (-2), 2) := by decide +kernel
theorem dX9_key_12 : decode cX9_key 12 = .ok (.ireturn, 1) := by decide +kernel
theorem dX9_key_13 : decode cX9_key 13 = .ok (.aload_n 0, 1) := by decide +kernel
theorem dX9_key_14 : decode cX9_key 14 = .ok (.getfield 134, 3) := by decide +kernel
theorem dX9_key_17 : decode cX9_key 17 = .ok (.bipush 12, 2) := by decide +kernel
theorem dX9_key_19 : decode cX9_key 19 = .ok (.if_icmp .ne 6, 3) := by decide +kernel
theorem dX9_key_22 : decode cX9_key 22 = .ok (.bipush (-4), 2) := by decide +kernel
theorem dX9_key_24 : decode cX9_key 24 = .ok (.ireturn, 1) := by decide +kernel
theorem dX9_key_25 : decode cX9_key 25 = .ok (.aload_n 0, 1) := by decide +kernel
theorem dX9_key_26 : decode cX9_key 26 = .ok (.getfield 29, 3) := by decide +kernel
theorem dX9_key_29 : decode cX9_key 29 = .ok (.aload_n 0, 1) := by decide +kernel
theorem dX9_key_30 : decode cX9_key 30 = .ok (.getfield 134, 3) := by decide +kernel
theorem dX9_key_33 : decode cX9_key 33 = .ok (.iload_n 1, 1) := by decide +kernel
theorem dX9_key_34 : decode cX9_key 34 = .ok (.iastore, 1) := by decide +kernel
theorem dX9_key_35 : decode cX9_key 35 = .ok (.aload_n 0, 1) := by decide +kernel
theorem dX9_key_36 : decode cX9_key 36 = .ok (.dup, 1) := by decide +kernel
theorem dX9_key_37 : decode cX9_key 37 = .ok (.getfield 134, 3) := by decide +kernel
theorem dX9_key_40 : decode cX9_key 40 = .ok (.iconst 1, 1) := by decide +kernel
theorem dX9_key_41 : decode cX9_key 41 = .ok (.iadd, 1) := by decide +kernel
theorem dX9_key_42 : decode cX9_key 42 = .ok (.putfield 134, 3) := by decide +kernel
theorem dX9_key_45 : decode cX9_key 45 = .ok (.aload_n 0, 1) := by decide +kernel
theorem dX9_key_46 : decode cX9_key 46 = .ok (.getfield 134, 3) := by decide +kernel
theorem dX9_key_49 : decode cX9_key 49 = .ok (.ireturn, 1) := by decide +kernel
theorem dX9_wipe_0 : decode cX9_wipe 0 = .ok (.aload_n 0, 1) := by decide +kernel
theorem dX9_wipe_1 : decode cX9_wipe 1 = .ok (.getfield 134, 3) := by decide +kernel
theorem dX9_wipe_4 : decode cX9_wipe 4 = .ok (.istore_n 1, 1) := by decide +kernel
theorem dX9_wipe_5 : decode cX9_wipe 5 = .ok (.aload_n 0, 1) := by decide +kernel
theorem dX9_wipe_6 : decode cX9_wipe 6 = .ok (.iconst 0, 1) := by decide +kernel
theorem dX9_wipe_7 : decode cX9_wipe 7 = .ok (.putfield 134, 3) := by decide +kernel
theorem dX9_wipe_10 : decode cX9_wipe 10 = .ok (.iload_n 1, 1) := by decide +kernel
theorem dX9_wipe_11 : decode cX9_wipe 11 = .ok (.ireturn, 1) := by decide +kernel
theorem dX9_primeOnTape_0 : decode cX9_primeOnTape 0 = .ok (.iconst 0, 1) := by decide +kernel
theorem dX9_primeOnTape_1 : decode cX9_primeOnTape 1 = .ok (.istore_n 1, 1) := by decide +kernel
theorem dX9_primeOnTape_2 : decode cX9_primeOnTape 2 = .ok (.iconst 0, 1) := by decide +kernel
theorem dX9_primeOnTape_3 : decode cX9_primeOnTape 3 = .ok (.istore_n 2, 1) := by decide +kernel
theorem dX9_primeOnTape_4 : decode cX9_primeOnTape 4 = .ok (.iload_n 2, 1) := by decide +kernel
theorem dX9_primeOnTape_5 : decode cX9_primeOnTape 5 = .ok (.aload_n 0, 1) := by decide +kernel
theorem dX9_primeOnTape_6 : decode cX9_primeOnTape 6 = .ok (.getfield 50, 3) := by decide +kernel
theorem dX9_primeOnTape_9 : decode cX9_primeOnTape 9 = .ok (.arraylength, 1) := by decide +kernel
theorem dX9_primeOnTape_10 : decode cX9_primeOnTape 10 = .ok (.if_icmp .ge 97, 3) := by decide +kernel
theorem dX9_primeOnTape_13 : decode cX9_primeOnTape 13 = .ok (.aload_n 0, 1) := by decide +kernel
theorem dX9_primeOnTape_14 : decode cX9_primeOnTape 14 = .ok (.getfield 134, 3) := by decide +kernel
theorem dX9_primeOnTape_17 : decode cX9_primeOnTape 17 = .ok (.aload_n 0, 1) := by decide +kernel
theorem dX9_primeOnTape_18 : decode cX9_primeOnTape 18 = .ok (.getfield 53, 3) := by decide +kernel
theorem dX9_primeOnTape_21 : decode cX9_primeOnTape 21 = .ok (.iload_n 2, 1) := by decide +kernel
theorem dX9_primeOnTape_22 : decode cX9_primeOnTape 22 = .ok (.iaload, 1) := by decide +kernel
theorem dX9_primeOnTape_23 : decode cX9_primeOnTape 23 = .ok (.if_icmp .ne 7, 3) := by decide +kernel
theorem dX9_primeOnTape_26 : decode cX9_primeOnTape 26 = .ok (.iconst 1, 1) := by decide +kernel
theorem dX9_primeOnTape_27 : decode cX9_primeOnTape 27 = .ok (.goto 4, 3) := by decide +kernel
theorem dX9_primeOnTape_30 : decode cX9_primeOnTape 30 = .ok (.iconst 0, 1) := by decide +kernel
theorem dX9_primeOnTape_31 : decode cX9_primeOnTape 31 = .ok (.istore_n 3, 1) := by decide +kernel
theorem dX9_primeOnTape_32 : decode cX9_primeOnTape 32 = .ok (.iconst 0, 1) := by decide +kernel
theorem dX9_primeOnTape_33 : decode cX9_primeOnTape 33 = .ok (.istore 4, 2) := by decide +kernel
theorem dX9_primeOnTape_35 : decode cX9_primeOnTape 35 = .ok (.iload 4, 2) := by decide +kernel
theorem dX9_primeOnTape_37 : decode cX9_primeOnTape 37 = .ok (.aload_n 0, 1) := by decide +kernel
theorem dX9_primeOnTape_38 : decode cX9_primeOnTape 38 = .ok (.getfield 53, 3) := by decide +kernel
theorem dX9_primeOnTape_41 : decode cX9_primeOnTape 41 = .ok (.iload_n 2, 1) := by decide +kernel
theorem dX9_primeOnTape_42 : decode cX9_primeOnTape 42 = .ok (.iaload, 1) := by decide +kernel
theorem dX9_primeOnTape_43 : decode cX9_primeOnTape 43 = .ok (.if_icmp .ge 38, 3) := by decide +kernel
theorem dX9_primeOnTape_46 : decode cX9_primeOnTape 46 = .ok (.iload_n 3, 1) := by decide +kernel
theorem dX9_primeOnTape_47 : decode cX9_primeOnTape 47 = .ok (.ifCond .eq 34, 3) := by decide +kernel
theorem dX9_primeOnTape_50 : decode cX9_primeOnTape 50 = .ok (.aload_n 0, 1) := by decide +kernel
theorem dX9_primeOnTape_51 : decode cX9_primeOnTape 51 = .ok (.getfield 29, 3) := by decide +kernel
theorem dX9_primeOnTape_54 : decode cX9_primeOnTape 54 = .ok (.iload 4, 2) := by decide +kernel
theorem dX9_primeOnTape_56 : decode cX9_primeOnTape 56 = .ok (.iaload, 1) := by decide +kernel
theorem dX9_primeOnTape_57 : decode cX9_primeOnTape 57 = .ok (.aload_n 0, 1) := by decide +kernel
theorem dX9_primeOnTape_58 : decode cX9_primeOnTape 58 = .ok (.getfield 56, 3) := by decide +kernel
theorem dX9_primeOnTape_61 : decode cX9_primeOnTape 61 = .ok (.iload_n 1, 1) := by decide +kernel
theorem dX9_primeOnTape_62 : decode cX9_primeOnTape 62 = .ok (.iload 4, 2) := by decide +kernel
theorem dX9_primeOnTape_64 : decode cX9_primeOnTape 64 = .ok (.iadd, 1) := by decide +kernel
theorem dX9_primeOnTape_65 : decode cX9_primeOnTape 65 = .ok (.iaload, 1) := by decide +kernel
theorem dX9_primeOnTape_66 : decode cX9_primeOnTape 66 = .ok (.if_icmp .ne 7, 3) := by decide +kernel
theorem dX9_primeOnTape_69 : decode cX9_primeOnTape 69 = .ok (.iconst 1, 1) := by decide +kernel
theorem dX9_primeOnTape_70 : decode cX9_primeOnTape 70 = .ok (.goto 4, 3) := by decide +kernel
theorem dX9_primeOnTape_73 : decode cX9_primeOnTape 73 = .ok (.iconst 0, 1) := by decide +kernel
theorem dX9_primeOnTape_74 : decode cX9_primeOnTape 74 = .ok (.istore_n 3, 1) := by decide +kernel
theorem dX9_primeOnTape_75 : decode cX9_primeOnTape 75 = .ok (.iinc 4 1, 3) := by decide +kernel
theorem dX9_primeOnTape_78 : decode cX9_primeOnTape 78 = .ok (.goto (-43), 3) := by decide +kernel
theorem dX9_primeOnTape_81 : decode cX9_primeOnTape 81 = .ok (.iload_n 3, 1) := by decide +kernel
theorem dX9_primeOnTape_82 : decode cX9_primeOnTape 82 = .ok (.ifCond .eq 10, 3) := by decide +kernel
theorem dX9_primeOnTape_85 : decode cX9_primeOnTape 85 = .ok (.aload_n 0, 1) := by decide +kernel
theorem dX9_primeOnTape_86 : decode cX9_primeOnTape 86 = .ok (.getfield 50, 3) := by decide +kernel
theorem dX9_primeOnTape_89 : decode cX9_primeOnTape 89 = .ok (.iload_n 2, 1) := by decide +kernel
theorem dX9_primeOnTape_90 : decode cX9_primeOnTape 90 = .ok (.iaload, 1) := by decide +kernel
theorem dX9_primeOnTape_91 : decode cX9_primeOnTape 91 = .ok (.ireturn, 1) := by decide +kernel
theorem dX9_primeOnTape_92 : decode cX9_primeOnTape 92 = .ok (.iload_n 1, 1) := by decide +kernel
theorem dX9_primeOnTape_93 : decode cX9_primeOnTape 93 = .ok (.aload_n 0, 1) := by decide +kernel
theorem dX9_primeOnTape_94 : decode cX9_primeOnTape 94 = .ok (.getfield 53, 3) := by decide +kernel
theorem dX9_primeOnTape_97 : decode cX9_primeOnTape 97 = .ok (.iload_n 2, 1) := by decide +kernel
theorem dX9_primeOnTape_98 : decode cX9_primeOnTape 98 = .ok (.iaload, 1) := by decide +kernel
theorem dX9_primeOnTape_99 : decode cX9_primeOnTape 99 = .ok (.iadd, 1) := by decide +kernel
theorem dX9_primeOnTape_100 : decode cX9_primeOnTape 100 = .ok (.istore_n 1, 1) := by decide +kernel
theorem dX9_primeOnTape_101 : decode cX9_primeOnTape 101 = .ok (.iinc 2 1, 3) := by decide +kernel
theorem dX9_primeOnTape_104 : decode cX9_primeOnTape 104 = .ok (.goto (-100), 3) := by decide +kernel
theorem dX9_primeOnTape_107 : decode cX9_primeOnTape 107 = .ok (.bipush (-9), 2) := by decide +kernel
theorem dX9_primeOnTape_109 : decode cX9_primeOnTape 109 = .ok (.ireturn, 1) := by decide +kernel
theorem dX9_word_0 : decode cX9_word 0 = .ok (.aload_n 0, 1) := by decide +kernel
theorem dX9_word_1 : decode cX9_word 1 = .ok (.invokevirtual 137, 3) := by decide +kernel
theorem dX9_word_4 : decode cX9_word 4 = .ok (.istore_n 1, 1) := by decide +kernel
theorem dX9_word_5 : decode cX9_word 5 = .ok (.iload_n 1, 1) := by decide +kernel
theorem dX9_word_6 : decode cX9_word 6 = .ok (.bipush (-9), 2) := by decide +kernel
theorem dX9_word_8 : decode cX9_word 8 = .ok (.if_icmp .ne 5, 3) := by decide +kernel
theorem dX9_word_11 : decode cX9_word 11 = .ok (.iconst (-1), 1) := by decide +kernel
theorem dX9_word_12 : decode cX9_word 12 = .ok (.ireturn, 1) := by decide +kernel
theorem dX9_word_13 : decode cX9_word 13 = .ok (.aload_n 0, 1) := by decide +kernel
theorem dX9_word_14 : decode cX9_word 14 = .ok (.iload_n 1, 1) := by decide +kernel
theorem dX9_word_15 : decode cX9_word 15 = .ok (.putfield 32, 3) := by decide +kernel
theorem dX9_word_18 : decode cX9_word 18 = .ok (.aload_n 0, 1) := by decide +kernel
theorem dX9_word_19 : decode cX9_word 19 = .ok (.iconst 0, 1) := by decide +kernel
theorem dX9_word_20 : decode cX9_word 20 = .ok (.putfield 140, 3) := by decide +kernel
theorem dX9_word_23 : decode cX9_word 23 = .ok (.aload_n 0, 1) := by decide +kernel
theorem dX9_word_24 : decode cX9_word 24 = .ok (.iconst 0, 1) := by decide +kernel
theorem dX9_word_25 : decode cX9_word 25 = .ok (.putfield 143, 3) := by decide +kernel
theorem dX9_word_28 : decode cX9_word 28 = .ok (.aload_n 0, 1) := by decide +kernel
theorem dX9_word_29 : decode cX9_word 29 = .ok (.iconst 0, 1) := by decide +kernel
theorem dX9_word_30 : decode cX9_word 30 = .ok (.putfield 134, 3) := by decide +kernel
theorem dX9_word_33 : decode cX9_word 33 = .ok (.aload_n 0, 1) := by decide +kernel
theorem dX9_word_34 : decode cX9_word 34 = .ok (.getfield 32, 3) := by decide +kernel
theorem dX9_word_37 : decode cX9_word 37 = .ok (.ireturn, 1) := by decide +kernel
theorem dX9_placeOf_0 : decode cX9_placeOf 0 = .ok (.iconst 0, 1) := by decide +kernel
theorem dX9_placeOf_1 : decode cX9_placeOf 1 = .ok (.istore_n 2, 1) := by decide +kernel
theorem dX9_placeOf_2 : decode cX9_placeOf 2 = .ok (.iload_n 2, 1) := by decide +kernel
theorem dX9_placeOf_3 : decode cX9_placeOf 3 = .ok (.aload_n 0, 1) := by decide +kernel
theorem dX9_placeOf_4 : decode cX9_placeOf 4 = .ok (.getfield 140, 3) := by decide +kernel
theorem dX9_placeOf_7 : decode cX9_placeOf 7 = .ok (.if_icmp .ge 21, 3) := by decide +kernel
theorem dX9_placeOf_10 : decode cX9_placeOf 10 = .ok (.aload_n 0, 1) := by decide +kernel
theorem dX9_placeOf_11 : decode cX9_placeOf 11 = .ok (.getfield 35, 3) := by decide +kernel
theorem dX9_placeOf_14 : decode cX9_placeOf 14 = .ok (.iload_n 2, 1) := by decide +kernel
theorem dX9_placeOf_15 : decode cX9_placeOf 15 = .ok (.iaload, 1) := by decide +kernel
theorem dX9_placeOf_16 : decode cX9_placeOf 16 = .ok (.iload_n 1, 1) := by decide +kernel
theorem dX9_placeOf_17 : decode cX9_placeOf 17 = .ok (.if_icmp .ne 5, 3) := by decide +kernel
theorem dX9_placeOf_20 : decode cX9_placeOf 20 = .ok (.iload_n 2, 1) := by decide +kernel
theorem dX9_placeOf_21 : decode cX9_placeOf 21 = .ok (.ireturn, 1) := by decide +kernel
theorem dX9_placeOf_22 : decode cX9_placeOf 22 = .ok (.iinc 2 1, 3) := by decide +kernel
theorem dX9_placeOf_25 : decode cX9_placeOf 25 = .ok (.goto (-23), 3) := by decide +kernel
theorem dX9_placeOf_28 : decode cX9_placeOf 28 = .ok (.bipush (-9), 2) := by decide +kernel
theorem dX9_placeOf_30 : decode cX9_placeOf 30 = .ok (.ireturn, 1) := by decide +kernel
theorem dX9_isNode_0 : decode cX9_isNode 0 = .ok (.iload_n 0, 1) := by decide +kernel
theorem dX9_isNode_1 : decode cX9_isNode 1 = .ok (.iconst 0, 1) := by decide +kernel
theorem dX9_isNode_2 : decode cX9_isNode 2 = .ok (.iconst 3, 1) := by decide +kernel
theorem dX9_isNode_3 : decode cX9_isNode 3 = .ok (.invokestatic 68, 3) := by decide +kernel
theorem dX9_isNode_6 : decode cX9_isNode 6 = .ok (.ireturn, 1) := by decide +kernel
theorem dX9_at_0 : decode cX9_at 0 = .ok (.bipush 8, 2) := by decide +kernel
theorem dX9_at_2 : decode cX9_at 2 = .ok (.iconst 5, 1) := by decide +kernel
theorem dX9_at_3 : decode cX9_at 3 = .ok (.iconst 4, 1) := by decide +kernel
theorem dX9_at_4 : decode cX9_at 4 = .ok (.iload_n 0, 1) := by decide +kernel
theorem dX9_at_5 : decode cX9_at 5 = .ok (.imul, 1) := by decide +kernel
theorem dX9_at_6 : decode cX9_at 6 = .ok (.iload_n 1, 1) := by decide +kernel
theorem dX9_at_7 : decode cX9_at 7 = .ok (.iadd, 1) := by decide +kernel
theorem dX9_at_8 : decode cX9_at 8 = .ok (.imul, 1) := by decide +kernel
theorem dX9_at_9 : decode cX9_at 9 = .ok (.iload_n 2, 1) := by decide +kernel
theorem dX9_at_10 : decode cX9_at 10 = .ok (.iadd, 1) := by decide +kernel
theorem dX9_at_11 : decode cX9_at 11 = .ok (.imul, 1) := by decide +kernel
theorem dX9_at_12 : decode cX9_at 12 = .ok (.ireturn, 1) := by decide +kernel
theorem dX9_rankOf_0 : decode cX9_rankOf 0 = .ok (.aload_n 0, 1) := by decide +kernel
theorem dX9_rankOf_1 : decode cX9_rankOf 1 = .ok (.getfield 41, 3) := by decide +kernel
theorem dX9_rankOf_4 : decode cX9_rankOf 4 = .ok (.iconst 4, 1) := by decide +kernel
theorem dX9_rankOf_5 : decode cX9_rankOf 5 = .ok (.iload_n 1, 1) := by decide +kernel
theorem dX9_rankOf_6 : decode cX9_rankOf 6 = .ok (.imul, 1) := by decide +kernel
theorem dX9_rankOf_7 : decode cX9_rankOf 7 = .ok (.iload_n 2, 1) := by decide +kernel
theorem dX9_rankOf_8 : decode cX9_rankOf 8 = .ok (.iadd, 1) := by decide +kernel
theorem dX9_rankOf_9 : decode cX9_rankOf 9 = .ok (.iaload, 1) := by decide +kernel
theorem dX9_rankOf_10 : decode cX9_rankOf 10 = .ok (.ireturn, 1) := by decide +kernel
theorem dX9_open_0 : decode cX9_open 0 = .ok (.iload_n 1, 1) := by decide +kernel
theorem dX9_open_1 : decode cX9_open 1 = .ok (.iconst 1, 1) := by decide +kernel
theorem dX9_open_2 : decode cX9_open 2 = .ok (.iconst 5, 1) := by decide +kernel
theorem dX9_open_3 : decode cX9_open 3 = .ok (.invokestatic 68, 3) := by decide +kernel
theorem dX9_open_6 : decode cX9_open 6 = .ok (.ifCond .ne 6, 3) := by decide +kernel
theorem dX9_open_9 : decode cX9_open 9 = .ok (.bipush (-2), 2) := by decide +kernel
theorem dX9_open_11 : decode cX9_open 11 = .ok (.ireturn, 1) := by decide +kernel
theorem dX9_open_12 : decode cX9_open 12 = .ok (.aload_n 0, 1) := by decide +kernel
theorem dX9_open_13 : decode cX9_open 13 = .ok (.getfield 140, 3) := by decide +kernel
theorem dX9_open_16 : decode cX9_open 16 = .ok (.iconst 3, 1) := by decide +kernel
theorem dX9_open_17 : decode cX9_open 17 = .ok (.if_icmp .ne 6, 3) := by decide +kernel
theorem dX9_open_20 : decode cX9_open 20 = .ok (.bipush (-4), 2) := by decide +kernel
theorem dX9_open_22 : decode cX9_open 22 = .ok (.ireturn, 1) := by decide +kernel
theorem dX9_open_23 : decode cX9_open 23 = .ok (.aload_n 0, 1) := by decide +kernel
theorem dX9_open_24 : decode cX9_open 24 = .ok (.getfield 140, 3) := by decide +kernel
theorem dX9_open_27 : decode cX9_open 27 = .ok (.istore_n 3, 1) := by decide +kernel
theorem dX9_open_28 : decode cX9_open 28 = .ok (.aload_n 0, 1) := by decide +kernel
theorem dX9_open_29 : decode cX9_open 29 = .ok (.getfield 35, 3) := by decide +kernel
theorem dX9_open_32 : decode cX9_open 32 = .ok (.iload_n 3, 1) := by decide +kernel
theorem dX9_open_33 : decode cX9_open 33 = .ok (.aload_n 0, 1) := by decide +kernel
theorem dX9_open_34 : decode cX9_open 34 = .ok (.getfield 143, 3) := by decide +kernel
theorem dX9_open_37 : decode cX9_open 37 = .ok (.iastore, 1) := by decide +kernel
theorem dX9_open_38 : decode cX9_open 38 = .ok (.aload_n 0, 1) := by decide +kernel
theorem dX9_open_39 : decode cX9_open 39 = .ok (.getfield 38, 3) := by decide +kernel
theorem dX9_open_42 : decode cX9_open 42 = .ok (.iload_n 3, 1) := by decide +kernel
theorem dX9_open_43 : decode cX9_open 43 = .ok (.iload_n 1, 1) := by decide +kernel
theorem dX9_open_44 : decode cX9_open 44 = .ok (.iastore, 1) := by decide +kernel
theorem dX9_open_45 : decode cX9_open 45 = .ok (.iconst 0, 1) := by decide +kernel
theorem dX9_open_46 : decode cX9_open 46 = .ok (.istore 4, 2) := by decide +kernel
theorem dX9_open_48 : decode cX9_open 48 = .ok (.iload 4, 2) := by decide +kernel
theorem dX9_open_50 : decode cX9_open 50 = .ok (.iconst 4, 1) := by decide +kernel
theorem dX9_open_51 : decode cX9_open 51 = .ok (.if_icmp .ge 30, 3) := by decide +kernel
theorem dX9_open_54 : decode cX9_open 54 = .ok (.aload_n 0, 1) := by decide +kernel
theorem dX9_open_55 : decode cX9_open 55 = .ok (.getfield 41, 3) := by decide +kernel
theorem dX9_open_58 : decode cX9_open 58 = .ok (.iconst 4, 1) := by decide +kernel
theorem dX9_open_59 : decode cX9_open 59 = .ok (.iload_n 3, 1) := by decide +kernel
theorem dX9_open_60 : decode cX9_open 60 = .ok (.imul, 1) := by decide +kernel
theorem dX9_open_61 : decode cX9_open 61 = .ok (.iload 4, 2) := by decide +kernel
theorem dX9_open_63 : decode cX9_open 63 = .ok (.iadd, 1) := by decide +kernel
theorem dX9_open_64 : decode cX9_open 64 = .ok (.iload 4, 2) := by decide +kernel
theorem dX9_open_66 : decode cX9_open 66 = .ok (.ifCond .ne 7, 3) := by decide +kernel
theorem dX9_open_69 : decode cX9_open 69 = .ok (.iload_n 1, 1) := by decide +kernel
theorem dX9_open_70 : decode cX9_open 70 = .ok (.goto 4, 3) := by decide +kernel
theorem dX9_open_73 : decode cX9_open 73 = .ok (.iconst 0, 1) := by decide +kernel
theorem dX9_open_74 : decode cX9_open 74 = .ok (.iastore, 1) := by decide +kernel
theorem dX9_open_75 : decode cX9_open 75 = .ok (.iinc 4 1, 3) := by decide +kernel
theorem dX9_open_78 : decode cX9_open 78 = .ok (.goto (-30), 3) := by decide +kernel
theorem dX9_open_81 : decode cX9_open 81 = .ok (.iconst 0, 1) := by decide +kernel
theorem dX9_open_82 : decode cX9_open 82 = .ok (.istore 4, 2) := by decide +kernel
theorem dX9_open_84 : decode cX9_open 84 = .ok (.iload 4, 2) := by decide +kernel
theorem dX9_open_86 : decode cX9_open 86 = .ok (.iload_n 1, 1) := by decide +kernel
theorem dX9_open_87 : decode cX9_open 87 = .ok (.if_icmp .ge 100, 3) := by decide +kernel
theorem dX9_open_90 : decode cX9_open 90 = .ok (.iload_n 3, 1) := by decide +kernel
theorem dX9_open_91 : decode cX9_open 91 = .ok (.iconst 0, 1) := by decide +kernel
theorem dX9_open_92 : decode cX9_open 92 = .ok (.iload 4, 2) := by decide +kernel
theorem dX9_open_94 : decode cX9_open 94 = .ok (.invokestatic 146, 3) := by decide +kernel
theorem dX9_open_97 : decode cX9_open 97 = .ok (.istore 5, 2) := by decide +kernel
theorem dX9_open_99 : decode cX9_open 99 = .ok (.iconst 0, 1) := by decide +kernel
theorem dX9_open_100 : decode cX9_open 100 = .ok (.istore 6, 2) := by decide +kernel
theorem dX9_open_102 : decode cX9_open 102 = .ok (.iload 6, 2) := by decide +kernel
theorem dX9_open_104 : decode cX9_open 104 = .ok (.iload_n 1, 1) := by decide +kernel
theorem dX9_open_105 : decode cX9_open 105 = .ok (.if_icmp .ge 31, 3) := by decide +kernel
theorem dX9_open_108 : decode cX9_open 108 = .ok (.aload_n 0, 1) := by decide +kernel
theorem dX9_open_109 : decode cX9_open 109 = .ok (.getfield 44, 3) := by decide +kernel
theorem dX9_open_112 : decode cX9_open 112 = .ok (.iload 5, 2) := by decide +kernel
theorem dX9_open_114 : decode cX9_open 114 = .ok (.iload 6, 2) := by decide +kernel
theorem dX9_open_116 : decode cX9_open 116 = .ok (.iadd, 1) := by decide +kernel
theorem dX9_open_117 : decode cX9_open 117 = .ok (.iload 6, 2) := by decide +kernel
theorem dX9_open_119 : decode cX9_open 119 = .ok (.iload 4, 2) := by decide +kernel
theorem dX9_open_121 : decode cX9_open 121 = .ok (.if_icmp .ne 7, 3) := by decide +kernel
theorem dX9_open_124 : decode cX9_open 124 = .ok (.iconst 1, 1) := by decide +kernel
theorem dX9_open_125 : decode cX9_open 125 = .ok (.goto 4, 3) := by decide +kernel
theorem dX9_open_128 : decode cX9_open 128 = .ok (.iconst 0, 1) := by decide +kernel
theorem dX9_open_129 : decode cX9_open 129 = .ok (.iastore, 1) := by decide +kernel
theorem dX9_open_130 : decode cX9_open 130 = .ok (.iinc 6 1, 3) := by decide +kernel
theorem dX9_open_133 : decode cX9_open 133 = .ok (.goto (-31), 3) := by decide +kernel
theorem dX9_open_136 : decode cX9_open 136 = .ok (.iconst 0, 1) := by decide +kernel
theorem dX9_open_137 : decode cX9_open 137 = .ok (.istore 6, 2) := by decide +kernel
theorem dX9_open_139 : decode cX9_open 139 = .ok (.iload 6, 2) := by decide +kernel
theorem dX9_open_141 : decode cX9_open 141 = .ok (.iconst 3, 1) := by decide +kernel
theorem dX9_open_142 : decode cX9_open 142 = .ok (.if_icmp .ge 39, 3) := by decide +kernel
