theorem pnX11 : plainName RX11 = true := by decide +kernel
theorem nX11_init : zDs yX11_init 0 := ⟨by decide, by decide, by decide +kernel⟩
theorem dX11_init_0 : decode prog_13_method_1_code 0 = .ok (.aload_n 0, 1) := by decide +kernel
theorem dX11_init_1 : decode prog_13_method_1_code 1 = .ok (.invokespecial 1, 3) := by decide +kernel
theorem dX11_init_4 : decode prog_13_method_1_code 4 = .ok (.aload_n 0, 1) := by decide +kernel
theorem dX11_init_5 : decode prog_13_method_1_code 5 = .ok (.sipush 229, 3) := by decide +kernel
theorem dX11_init_8 : decode prog_13_method_1_code 8 = .ok (.newarray .int, 2) := by decide +kernel
theorem dX11_init_10 : decode prog_13_method_1_code 10 = .ok (.putfield 7, 3) := by decide +kernel
theorem dX11_init_13 : decode prog_13_method_1_code 13 = .ok (.aload_n 0, 1) := by decide +kernel
theorem dX11_init_14 : decode prog_13_method_1_code 14 = .ok (.sipush 1832, 3) := by decide +kernel
theorem dX11_init_17 : decode prog_13_method_1_code 17 = .ok (.newarray .int, 2) := by decide +kernel
theorem dX11_init_19 : decode prog_13_method_1_code 19 = .ok (.putfield 13, 3) := by decide +kernel
theorem dX11_init_22 : decode prog_13_method_1_code 22 = .ok (.aload_n 0, 1) := by decide +kernel
theorem dX11_init_23 : decode prog_13_method_1_code 23 = .ok (.sipush 229, 3) := by decide +kernel
theorem dX11_init_26 : decode prog_13_method_1_code 26 = .ok (.newarray .int, 2) := by decide +kernel
theorem dX11_init_28 : decode prog_13_method_1_code 28 = .ok (.putfield 16, 3) := by decide +kernel
theorem dX11_init_31 : decode prog_13_method_1_code 31 = .ok (.aload_n 0, 1) := by decide +kernel
theorem dX11_init_32 : decode prog_13_method_1_code 32 = .ok (.sipush 229, 3) := by decide +kernel
theorem dX11_init_35 : decode prog_13_method_1_code 35 = .ok (.newarray .int, 2) := by decide +kernel
theorem dX11_init_37 : decode prog_13_method_1_code 37 = .ok (.putfield 19, 3) := by decide +kernel
theorem dX11_init_40 : decode prog_13_method_1_code 40 = .ok (.aload_n 0, 1) := by decide +kernel
theorem dX11_init_41 : decode prog_13_method_1_code 41 = .ok (.bipush 60, 2) := by decide +kernel
theorem dX11_init_43 : decode prog_13_method_1_code 43 = .ok (.newarray .int, 2) := by decide +kernel
theorem dX11_init_45 : decode prog_13_method_1_code 45 = .ok (.putfield 22, 3) := by decide +kernel
theorem dX11_init_48 : decode prog_13_method_1_code 48 = .ok (.aload_n 0, 1) := by decide +kernel
theorem dX11_init_49 : decode prog_13_method_1_code 49 = .ok (.iconst (-1), 1) := by decide +kernel
theorem dX11_init_50 : decode prog_13_method_1_code 50 = .ok (.putfield 25, 3) := by decide +kernel
theorem dX11_init_53 : decode prog_13_method_1_code 53 = .ok (.aload_n 0, 1) := by decide +kernel
theorem dX11_init_54 : decode prog_13_method_1_code 54 = .ok (.bipush 80, 2) := by decide +kernel
theorem dX11_init_56 : decode prog_13_method_1_code 56 = .ok (.newarray .char, 2) := by decide +kernel
theorem dX11_init_58 : decode prog_13_method_1_code 58 = .ok (.putfield 29, 3) := by decide +kernel
theorem dX11_init_61 : decode prog_13_method_1_code 61 = .ok (.aload_n 0, 1) := by decide +kernel
theorem dX11_init_62 : decode prog_13_method_1_code 62 = .ok (.bipush 124, 2) := by decide +kernel
theorem dX11_init_64 : decode prog_13_method_1_code 64 = .ok (.newarray .int, 2) := by decide +kernel
theorem dX11_init_66 : decode prog_13_method_1_code 66 = .ok (.putfield 33, 3) := by decide +kernel
theorem dX11_init_69 : decode prog_13_method_1_code 69 = .ok (.aload_n 0, 1) := by decide +kernel
theorem dX11_init_70 : decode prog_13_method_1_code 70 = .ok (.getfield 7, 3) := by decide +kernel
theorem dX11_init_73 : decode prog_13_method_1_code 73 = .ok (.iconst 0, 1) := by decide +kernel
theorem dX11_init_74 : decode prog_13_method_1_code 74 = .ok (.bipush 100, 2) := by decide +kernel
theorem dX11_init_76 : decode prog_13_method_1_code 76 = .ok (.iastore, 1) := by decide +kernel
theorem dX11_init_77 : decode prog_13_method_1_code 77 = .ok (.return_, 1) := by decide +kernel
theorem nX11_thrown : zDs yX11_thrown 0 := ⟨by decide, by decide, by decide +kernel⟩
theorem dX11_thrown_0 : decode prog_13_method_2_code 0 = .ok (.aload_n 0, 1) := by decide +kernel
theorem dX11_thrown_1 : decode prog_13_method_2_code 1 = .ok (.getfield 36, 3) := by decide +kernel
theorem dX11_thrown_4 : decode prog_13_method_2_code 4 = .ok (.ireturn, 1) := by decide +kernel
theorem nX11_fails : zDs yX11_fails 1 := ⟨by decide, by decide, by decide +kernel⟩
theorem dX11_fails_0 : decode prog_13_method_3_code 0 = .ok (.aload_n 0, 1) := by decide +kernel
theorem dX11_fails_1 : decode prog_13_method_3_code 1 = .ok (.iload_n 1, 1) := by decide +kernel
theorem dX11_fails_2 : decode prog_13_method_3_code 2 = .ok (.putfield 36, 3) := by decide +kernel
theorem dX11_fails_5 : decode prog_13_method_3_code 5 = .ok (.iload_n 1, 1) := by decide +kernel
theorem dX11_fails_6 : decode prog_13_method_3_code 6 = .ok (.ifCond .le 7, 3) := by decide +kernel
theorem dX11_fails_9 : decode prog_13_method_3_code 9 = .ok (.iconst 1, 1) := by decide +kernel
theorem dX11_fails_10 : decode prog_13_method_3_code 10 = .ok (.goto 4, 3) := by decide +kernel
theorem dX11_fails_13 : decode prog_13_method_3_code 13 = .ok (.iconst 0, 1) := by decide +kernel
theorem dX11_fails_14 : decode prog_13_method_3_code 14 = .ok (.ireturn, 1) := by decide +kernel
theorem nX11_refuses : zDs yX11_refuses 2 := ⟨by decide, by decide, by decide +kernel⟩
theorem dX11_refuses_0 : decode prog_13_method_4_code 0 = .ok (.aload_n 0, 1) := by decide +kernel
theorem dX11_refuses_1 : decode prog_13_method_4_code 1 = .ok (.iconst 1, 1) := by decide +kernel
theorem dX11_refuses_2 : decode prog_13_method_4_code 2 = .ok (.putfield 36, 3) := by decide +kernel
theorem dX11_refuses_5 : decode prog_13_method_4_code 5 = .ok (.aload_n 0, 1) := by decide +kernel
theorem dX11_refuses_6 : decode prog_13_method_4_code 6 = .ok (.iload_n 1, 1) := by decide +kernel
theorem dX11_refuses_7 : decode prog_13_method_4_code 7 = .ok (.putfield 39, 3) := by decide +kernel
theorem dX11_refuses_10 : decode prog_13_method_4_code 10 = .ok (.aload_n 0, 1) := by decide +kernel
theorem dX11_refuses_11 : decode prog_13_method_4_code 11 = .ok (.iload_n 2, 1) := by decide +kernel
theorem dX11_refuses_12 : decode prog_13_method_4_code 12 = .ok (.putfield 42, 3) := by decide +kernel
theorem dX11_refuses_15 : decode prog_13_method_4_code 15 = .ok (.aload_n 0, 1) := by decide +kernel
theorem dX11_refuses_16 : decode prog_13_method_4_code 16 = .ok (.aload_n 0, 1) := by decide +kernel
theorem dX11_refuses_17 : decode prog_13_method_4_code 17 = .ok (.getfield 45, 3) := by decide +kernel
theorem dX11_refuses_20 : decode prog_13_method_4_code 20 = .ok (.ifCond .eq 10, 3) := by decide +kernel
theorem dX11_refuses_23 : decode prog_13_method_4_code 23 = .ok (.aload_n 0, 1) := by decide +kernel
theorem dX11_refuses_24 : decode prog_13_method_4_code 24 = .ok (.getfield 49, 3) := by decide +kernel
theorem dX11_refuses_27 : decode prog_13_method_4_code 27 = .ok (.goto 4, 3) := by decide +kernel
theorem dX11_refuses_30 : decode prog_13_method_4_code 30 = .ok (.iconst 0, 1) := by decide +kernel
theorem dX11_refuses_31 : decode prog_13_method_4_code 31 = .ok (.putfield 52, 3) := by decide +kernel
theorem dX11_refuses_34 : decode prog_13_method_4_code 34 = .ok (.iconst 0, 1) := by decide +kernel
theorem dX11_refuses_35 : decode prog_13_method_4_code 35 = .ok (.ireturn, 1) := by decide +kernel
theorem nX11_in : zDs yX11_in 3 := ⟨by decide, by decide, by decide +kernel⟩
theorem dX11_in_0 : decode prog_13_method_5_code 0 = .ok (.iload_n 0, 1) := by decide +kernel
theorem dX11_in_1 : decode prog_13_method_5_code 1 = .ok (.iload_n 1, 1) := by decide +kernel
theorem dX11_in_2 : decode prog_13_method_5_code 2 = .ok (.if_icmp .lt 12, 3) := by decide +kernel
theorem dX11_in_5 : decode prog_13_method_5_code 5 = .ok (.iload_n 0, 1) := by decide +kernel
theorem dX11_in_6 : decode prog_13_method_5_code 6 = .ok (.iload_n 2, 1) := by decide +kernel
theorem dX11_in_7 : decode prog_13_method_5_code 7 = .ok (.if_icmp .gt 7, 3) := by decide +kernel
theorem dX11_in_10 : decode prog_13_method_5_code 10 = .ok (.iconst 1, 1) := by decide +kernel
theorem dX11_in_11 : decode prog_13_method_5_code 11 = .ok (.goto 4, 3) := by decide +kernel
theorem dX11_in_14 : decode prog_13_method_5_code 14 = .ok (.iconst 0, 1) := by decide +kernel
theorem dX11_in_15 : decode prog_13_method_5_code 15 = .ok (.ireturn, 1) := by decide +kernel
theorem nX11_less : zDs yX11_less 2 := ⟨by decide, by decide, by decide +kernel⟩
theorem dX11_less_0 : decode prog_13_method_6_code 0 = .ok (.iload_n 0, 1) := by decide +kernel
theorem dX11_less_1 : decode prog_13_method_6_code 1 = .ok (.iload_n 1, 1) := by decide +kernel
theorem dX11_less_2 : decode prog_13_method_6_code 2 = .ok (.if_icmp .ge 7, 3) := by decide +kernel
theorem dX11_less_5 : decode prog_13_method_6_code 5 = .ok (.iload_n 0, 1) := by decide +kernel
theorem dX11_less_6 : decode prog_13_method_6_code 6 = .ok (.goto 4, 3) := by decide +kernel
theorem dX11_less_9 : decode prog_13_method_6_code 9 = .ok (.iload_n 1, 1) := by decide +kernel
theorem dX11_less_10 : decode prog_13_method_6_code 10 = .ok (.ireturn, 1) := by decide +kernel
theorem nX11_more : zDs yX11_more 2 := ⟨by decide, by decide, by decide +kernel⟩
theorem dX11_more_0 : decode prog_13_method_7_code 0 = .ok (.iload_n 0, 1) := by decide +kernel
theorem dX11_more_1 : decode prog_13_method_7_code 1 = .ok (.iload_n 1, 1) := by decide +kernel
theorem dX11_more_2 : decode prog_13_method_7_code 2 = .ok (.if_icmp .le 7, 3) := by decide +kernel
theorem dX11_more_5 : decode prog_13_method_7_code 5 = .ok (.iload_n 0, 1) := by decide +kernel
theorem dX11_more_6 : decode prog_13_method_7_code 6 = .ok (.goto 4, 3) := by decide +kernel
theorem dX11_more_9 : decode prog_13_method_7_code 9 = .ok (.iload_n 1, 1) := by decide +kernel
theorem dX11_more_10 : decode prog_13_method_7_code 10 = .ok (.ireturn, 1) := by decide +kernel
theorem nX11_copies : zDs yX11_copies 4 := ⟨by decide, by decide, by decide +kernel⟩
theorem dX11_copies_0 : decode prog_13_method_8_code 0 = .ok (.iconst 0, 1) := by decide +kernel
theorem dX11_copies_1 : decode prog_13_method_8_code 1 = .ok (.istore 4, 2) := by decide +kernel
theorem dX11_copies_3 : decode prog_13_method_8_code 3 = .ok (.iload 4, 2) := by decide +kernel
theorem dX11_copies_5 : decode prog_13_method_8_code 5 = .ok (.sipush 229, 3) := by decide +kernel
theorem dX11_copies_8 : decode prog_13_method_8_code 8 = .ok (.if_icmp .ge 21, 3) := by decide +kernel
theorem dX11_copies_11 : decode prog_13_method_8_code 11 = .ok (.aload_n 2, 1) := by decide +kernel
theorem dX11_copies_12 : decode prog_13_method_8_code 12 = .ok (.iload_n 3, 1) := by decide +kernel
theorem dX11_copies_13 : decode prog_13_method_8_code 13 = .ok (.iload 4, 2) := by decide +kernel
theorem dX11_copies_15 : decode prog_13_method_8_code 15 = .ok (.iadd, 1) := by decide +kernel
theorem dX11_copies_16 : decode prog_13_method_8_code 16 = .ok (.aload_n 0, 1) := by decide +kernel
theorem dX11_copies_17 : decode prog_13_method_8_code 17 = .ok (.iload_n 1, 1) := by decide +kernel
theorem dX11_copies_18 : decode prog_13_method_8_code 18 = .ok (.iload 4, 2) := by decide +kernel
theorem dX11_copies_20 : decode prog_13_method_8_code 20 = .ok (.iadd, 1) := by decide +kernel
theorem dX11_copies_21 : decode prog_13_method_8_code 21 = .ok (.iaload, 1) := by decide +kernel
theorem dX11_copies_22 : decode prog_13_method_8_code 22 = .ok (.iastore, 1) := by decide +kernel
theorem dX11_copies_23 : decode prog_13_method_8_code 23 = .ok (.iinc 4 1, 3) := by decide +kernel
theorem dX11_copies_26 : decode prog_13_method_8_code 26 = .ok (.goto (-23), 3) := by decide +kernel
theorem dX11_copies_29 : decode prog_13_method_8_code 29 = .ok (.return_, 1) := by decide +kernel
theorem nX11_keeps : zDs yX11_keeps 1 := ⟨by decide, by decide, by decide +kernel⟩
theorem dX11_keeps_0 : decode prog_13_method_9_code 0 = .ok (.aload_n 0, 1) := by decide +kernel
theorem dX11_keeps_1 : decode prog_13_method_9_code 1 = .ok (.iconst 0, 1) := by decide +kernel
theorem dX11_keeps_2 : decode prog_13_method_9_code 2 = .ok (.putfield 36, 3) := by decide +kernel
theorem dX11_keeps_5 : decode prog_13_method_9_code 5 = .ok (.aload_n 0, 1) := by decide +kernel
theorem dX11_keeps_6 : decode prog_13_method_9_code 6 = .ok (.getfield 45, 3) := by decide +kernel
theorem dX11_keeps_9 : decode prog_13_method_9_code 9 = .ok (.ifCond .eq 4, 3) := by decide +kernel
theorem dX11_keeps_12 : decode prog_13_method_9_code 12 = .ok (.return_, 1) := by decide +kernel
theorem dX11_keeps_13 : decode prog_13_method_9_code 13 = .ok (.aload_n 0, 1) := by decide +kernel
theorem dX11_keeps_14 : decode prog_13_method_9_code 14 = .ok (.getfield 55, 3) := by decide +kernel
theorem dX11_keeps_17 : decode prog_13_method_9_code 17 = .ok (.bipush 8, 2) := by decide +kernel
theorem dX11_keeps_19 : decode prog_13_method_9_code 19 = .ok (.if_icmp .ne 44, 3) := by decide +kernel
theorem dX11_keeps_22 : decode prog_13_method_9_code 22 = .ok (.iconst 0, 1) := by decide +kernel
theorem dX11_keeps_23 : decode prog_13_method_9_code 23 = .ok (.istore_n 2, 1) := by decide +kernel
theorem dX11_keeps_24 : decode prog_13_method_9_code 24 = .ok (.iload_n 2, 1) := by decide +kernel
theorem dX11_keeps_25 : decode prog_13_method_9_code 25 = .ok (.sipush 1603, 3) := by decide +kernel
theorem dX11_keeps_28 : decode prog_13_method_9_code 28 = .ok (.if_icmp .ge 25, 3) := by decide +kernel
theorem dX11_keeps_31 : decode prog_13_method_9_code 31 = .ok (.aload_n 0, 1) := by decide +kernel
theorem dX11_keeps_32 : decode prog_13_method_9_code 32 = .ok (.getfield 13, 3) := by decide +kernel
theorem dX11_keeps_35 : decode prog_13_method_9_code 35 = .ok (.iload_n 2, 1) := by decide +kernel
theorem dX11_keeps_36 : decode prog_13_method_9_code 36 = .ok (.aload_n 0, 1) := by decide +kernel
theorem dX11_keeps_37 : decode prog_13_method_9_code 37 = .ok (.getfield 13, 3) := by decide +kernel
theorem dX11_keeps_40 : decode prog_13_method_9_code 40 = .ok (.iload_n 2, 1) := by decide +kernel
theorem dX11_keeps_41 : decode prog_13_method_9_code 41 = .ok (.sipush 229, 3) := by decide +kernel
theorem dX11_keeps_44 : decode prog_13_method_9_code 44 = .ok (.iadd, 1) := by decide +kernel
theorem dX11_keeps_45 : decode prog_13_method_9_code 45 = .ok (.iaload, 1) := by decide +kernel
theorem dX11_keeps_46 : decode prog_13_method_9_code 46 = .ok (.iastore, 1) := by decide +kernel
theorem dX11_keeps_47 : decode prog_13_method_9_code 47 = .ok (.iinc 2 1, 3) := by decide +kernel
theorem dX11_keeps_50 : decode prog_13_method_9_code 50 = .ok (.goto (-26), 3) := by decide +kernel
theorem dX11_keeps_53 : decode prog_13_method_9_code 53 = .ok (.aload_n 0, 1) := by decide +kernel
theorem dX11_keeps_54 : decode prog_13_method_9_code 54 = .ok (.dup, 1) := by decide +kernel
theorem dX11_keeps_55 : decode prog_13_method_9_code 55 = .ok (.getfield 55, 3) := by decide +kernel
theorem dX11_keeps_58 : decode prog_13_method_9_code 58 = .ok (.iconst 1, 1) := by decide +kernel
theorem dX11_keeps_59 : decode prog_13_method_9_code 59 = .ok (.isub, 1) := by decide +kernel
theorem dX11_keeps_60 : decode prog_13_method_9_code 60 = .ok (.putfield 55, 3) := by decide +kernel
theorem dX11_keeps_63 : decode prog_13_method_9_code 63 = .ok (.aload_n 1, 1) := by decide +kernel
theorem dX11_keeps_64 : decode prog_13_method_9_code 64 = .ok (.iconst 0, 1) := by decide +kernel
theorem dX11_keeps_65 : decode prog_13_method_9_code 65 = .ok (.aload_n 0, 1) := by decide +kernel
theorem dX11_keeps_66 : decode prog_13_method_9_code 66 = .ok (.getfield 13, 3) := by decide +kernel
theorem dX11_keeps_69 : decode prog_13_method_9_code 69 = .ok (.sipush 229, 3) := by decide +kernel
theorem dX11_keeps_72 : decode prog_13_method_9_code 72 = .ok (.aload_n 0, 1) := by decide +kernel
theorem dX11_keeps_73 : decode prog_13_method_9_code 73 = .ok (.getfield 55, 3) := by decide +kernel
theorem dX11_keeps_76 : decode prog_13_method_9_code 76 = .ok (.imul, 1) := by decide +kernel
theorem dX11_keeps_77 : decode prog_13_method_9_code 77 = .ok (.invokestatic 58, 3) := by decide +kernel
theorem dX11_keeps_80 : decode prog_13_method_9_code 80 = .ok (.aload_n 0, 1) := by decide +kernel
theorem dX11_keeps_81 : decode prog_13_method_9_code 81 = .ok (.dup, 1) := by decide +kernel
theorem dX11_keeps_82 : decode prog_13_method_9_code 82 = .ok (.getfield 55, 3) := by decide +kernel
theorem dX11_keeps_85 : decode prog_13_method_9_code 85 = .ok (.iconst 1, 1) := by decide +kernel
theorem dX11_keeps_86 : decode prog_13_method_9_code 86 = .ok (.iadd, 1) := by decide +kernel
theorem dX11_keeps_87 : decode prog_13_method_9_code 87 = .ok (.putfield 55, 3) := by decide +kernel
theorem dX11_keeps_90 : decode prog_13_method_9_code 90 = .ok (.return_, 1) := by decide +kernel
theorem nX11_isStone : zDs yX11_isStone 1 := ⟨by decide, by decide, by decide +kernel⟩
theorem dX11_isStone_0 : decode prog_13_method_10_code 0 = .ok (.iload_n 1, 1) := by decide +kernel
theorem dX11_isStone_1 : decode prog_13_method_10_code 1 = .ok (.iconst 0, 1) := by decide +kernel
theorem dX11_isStone_2 : decode prog_13_method_10_code 2 = .ok (.aload_n 0, 1) := by decide +kernel
theorem dX11_isStone_3 : decode prog_13_method_10_code 3 = .ok (.getfield 7, 3) := by decide +kernel
theorem dX11_isStone_6 : decode prog_13_method_10_code 6 = .ok (.iconst 4, 1) := by decide +kernel
theorem dX11_isStone_7 : decode prog_13_method_10_code 7 = .ok (.iaload, 1) := by decide +kernel
theorem dX11_isStone_8 : decode prog_13_method_10_code 8 = .ok (.iconst 1, 1) := by decide +kernel
theorem dX11_isStone_9 : decode prog_13_method_10_code 9 = .ok (.isub, 1) := by decide +kernel
theorem dX11_isStone_10 : decode prog_13_method_10_code 10 = .ok (.invokestatic 62, 3) := by decide +kernel
theorem dX11_isStone_13 : decode prog_13_method_10_code 13 = .ok (.ireturn, 1) := by decide +kernel
theorem nX11_isFlood : zDs yX11_isFlood 1 := ⟨by decide, by decide, by decide +kernel⟩
theorem dX11_isFlood_0 : decode prog_13_method_11_code 0 = .ok (.iload_n 1, 1) := by decide +kernel
theorem dX11_isFlood_1 : decode prog_13_method_11_code 1 = .ok (.iconst 0, 1) := by decide +kernel
theorem dX11_isFlood_2 : decode prog_13_method_11_code 2 = .ok (.aload_n 0, 1) := by decide +kernel
theorem dX11_isFlood_3 : decode prog_13_method_11_code 3 = .ok (.getfield 7, 3) := by decide +kernel
theorem dX11_isFlood_6 : decode prog_13_method_11_code 6 = .ok (.sipush 179, 3) := by decide +kernel
theorem dX11_isFlood_9 : decode prog_13_method_11_code 9 = .ok (.iaload, 1) := by decide +kernel
theorem dX11_isFlood_10 : decode prog_13_method_11_code 10 = .ok (.iconst 1, 1) := by decide +kernel
theorem dX11_isFlood_11 : decode prog_13_method_11_code 11 = .ok (.isub, 1) := by decide +kernel
theorem dX11_isFlood_12 : decode prog_13_method_11_code 12 = .ok (.invokestatic 62, 3) := by decide +kernel
theorem dX11_isFlood_15 : decode prog_13_method_11_code 15 = .ok (.ireturn, 1) := by decide +kernel
theorem nX11_isChisel : zDs yX11_isChisel 1 := ⟨by decide, by decide, by decide +kernel⟩
theorem dX11_isChisel_0 : decode prog_13_method_12_code 0 = .ok (.iload_n 1, 1) := by decide +kernel
theorem dX11_isChisel_1 : decode prog_13_method_12_code 1 = .ok (.iconst 0, 1) := by decide +kernel
theorem dX11_isChisel_2 : decode prog_13_method_12_code 2 = .ok (.aload_n 0, 1) := by decide +kernel
theorem dX11_isChisel_3 : decode prog_13_method_12_code 3 = .ok (.getfield 7, 3) := by decide +kernel
theorem dX11_isChisel_6 : decode prog_13_method_12_code 6 = .ok (.sipush 225, 3) := by decide +kernel
theorem dX11_isChisel_9 : decode prog_13_method_12_code 9 = .ok (.iaload, 1) := by decide +kernel
theorem dX11_isChisel_10 : decode prog_13_method_12_code 10 = .ok (.iconst 1, 1) := by decide +kernel
theorem dX11_isChisel_11 : decode prog_13_method_12_code 11 = .ok (.isub, 1) := by decide +kernel
theorem dX11_isChisel_12 : decode prog_13_method_12_code 12 = .ok (.invokestatic 62, 3) := by decide +kernel
theorem dX11_isChisel_15 : decode prog_13_method_12_code 15 = .ok (.ireturn, 1) := by decide +kernel
theorem nX11_of : zDs yX11_of 2 := ⟨by decide, by decide, by decide +kernel⟩
theorem dX11_of_0 : decode prog_13_method_13_code 0 = .ok (.aload_n 0, 1) := by decide +kernel
theorem dX11_of_1 : decode prog_13_method_13_code 1 = .ok (.getfield 7, 3) := by decide +kernel
theorem dX11_of_4 : decode prog_13_method_13_code 4 = .ok (.iconst 5, 1) := by decide +kernel
theorem dX11_of_5 : decode prog_13_method_13_code 5 = .ok (.bipush 29, 2) := by decide +kernel
theorem dX11_of_7 : decode prog_13_method_13_code 7 = .ok (.iload_n 1, 1) := by decide +kernel
theorem dX11_of_8 : decode prog_13_method_13_code 8 = .ok (.imul, 1) := by decide +kernel
theorem dX11_of_9 : decode prog_13_method_13_code 9 = .ok (.iadd, 1) := by decide +kernel
theorem dX11_of_10 : decode prog_13_method_13_code 10 = .ok (.iload_n 2, 1) := by decide +kernel
theorem dX11_of_11 : decode prog_13_method_13_code 11 = .ok (.iadd, 1) := by decide +kernel
theorem dX11_of_12 : decode prog_13_method_13_code 12 = .ok (.iaload, 1) := by decide +kernel
theorem dX11_of_13 : decode prog_13_method_13_code 13 = .ok (.ireturn, 1) := by decide +kernel
theorem nX11_lays : zDs yX11_lays 3 := ⟨by decide, by decide, by decide +kernel⟩
theorem dX11_lays_0 : decode prog_13_method_14_code 0 = .ok (.aload_n 0, 1) := by decide +kernel
theorem dX11_lays_1 : decode prog_13_method_14_code 1 = .ok (.getfield 7, 3) := by decide +kernel
theorem dX11_lays_4 : decode prog_13_method_14_code 4 = .ok (.iconst 5, 1) := by decide +kernel
theorem dX11_lays_5 : decode prog_13_method_14_code 5 = .ok (.bipush 29, 2) := by decide +kernel
theorem dX11_lays_7 : decode prog_13_method_14_code 7 = .ok (.iload_n 1, 1) := by decide +kernel
theorem dX11_lays_8 : decode prog_13_method_14_code 8 = .ok (.imul, 1) := by decide +kernel
theorem dX11_lays_9 : decode prog_13_method_14_code 9 = .ok (.iadd, 1) := by decide +kernel
theorem dX11_lays_10 : decode prog_13_method_14_code 10 = .ok (.iload_n 2, 1) := by decide +kernel
theorem dX11_lays_11 : decode prog_13_method_14_code 11 = .ok (.iadd, 1) := by decide +kernel
theorem dX11_lays_12 : decode prog_13_method_14_code 12 = .ok (.iload_n 3, 1) := by decide +kernel
theorem dX11_lays_13 : decode prog_13_method_14_code 13 = .ok (.iastore, 1) := by decide +kernel
theorem dX11_lays_14 : decode prog_13_method_14_code 14 = .ok (.return_, 1) := by decide +kernel
theorem nX11_ofMark : zDs yX11_ofMark 3 := ⟨by decide, by decide, by decide +kernel⟩
theorem dX11_ofMark_0 : decode prog_13_method_15_code 0 = .ok (.aload_n 0, 1) := by decide +kernel
theorem dX11_ofMark_1 : decode prog_13_method_15_code 1 = .ok (.getfield 7, 3) := by decide +kernel
theorem dX11_ofMark_4 : decode prog_13_method_15_code 4 = .ok (.iconst 5, 1) := by decide +kernel
theorem dX11_ofMark_5 : decode prog_13_method_15_code 5 = .ok (.bipush 29, 2) := by decide +kernel
theorem dX11_ofMark_7 : decode prog_13_method_15_code 7 = .ok (.iload_n 1, 1) := by decide +kernel
theorem dX11_ofMark_8 : decode prog_13_method_15_code 8 = .ok (.imul, 1) := by decide +kernel
theorem dX11_ofMark_9 : decode prog_13_method_15_code 9 = .ok (.iadd, 1) := by decide +kernel
theorem dX11_ofMark_10 : decode prog_13_method_15_code 10 = .ok (.iconst 5, 1) := by decide +kernel
theorem dX11_ofMark_11 : decode prog_13_method_15_code 11 = .ok (.iadd, 1) := by decide +kernel
theorem dX11_ofMark_12 : decode prog_13_method_15_code 12 = .ok (.iconst 4, 1) := by decide +kernel
theorem dX11_ofMark_13 : decode prog_13_method_15_code 13 = .ok (.iload_n 2, 1) := by decide +kernel
theorem dX11_ofMark_14 : decode prog_13_method_15_code 14 = .ok (.imul, 1) := by decide +kernel
theorem dX11_ofMark_15 : decode prog_13_method_15_code 15 = .ok (.iadd, 1) := by decide +kernel
theorem dX11_ofMark_16 : decode prog_13_method_15_code 16 = .ok (.iload_n 3, 1) := by decide +kernel
theorem dX11_ofMark_17 : decode prog_13_method_15_code 17 = .ok (.iadd, 1) := by decide +kernel
theorem dX11_ofMark_18 : decode prog_13_method_15_code 18 = .ok (.iaload, 1) := by decide +kernel
theorem dX11_ofMark_19 : decode prog_13_method_15_code 19 = .ok (.ireturn, 1) := by decide +kernel
theorem nX11_ofFlood : zDs yX11_ofFlood 2 := ⟨by decide, by decide, by decide +kernel⟩
theorem dX11_ofFlood_0 : decode prog_13_method_16_code 0 = .ok (.aload_n 0, 1) := by decide +kernel
theorem dX11_ofFlood_1 : decode prog_13_method_16_code 1 = .ok (.getfield 7, 3) := by decide +kernel
theorem dX11_ofFlood_4 : decode prog_13_method_16_code 4 = .ok (.sipush 180, 3) := by decide +kernel
theorem dX11_ofFlood_7 : decode prog_13_method_16_code 7 = .ok (.iconst 3, 1) := by decide +kernel
theorem dX11_ofFlood_8 : decode prog_13_method_16_code 8 = .ok (.iload_n 1, 1) := by decide +kernel
theorem dX11_ofFlood_9 : decode prog_13_method_16_code 9 = .ok (.imul, 1) := by decide +kernel
theorem dX11_ofFlood_10 : decode prog_13_method_16_code 10 = .ok (.iadd, 1) := by decide +kernel
theorem dX11_ofFlood_11 : decode prog_13_method_16_code 11 = .ok (.iload_n 2, 1) := by decide +kernel
theorem dX11_ofFlood_12 : decode prog_13_method_16_code 12 = .ok (.iadd, 1) := by decide +kernel
theorem dX11_ofFlood_13 : decode prog_13_method_16_code 13 = .ok (.iaload, 1) := by decide +kernel
theorem dX11_ofFlood_14 : decode prog_13_method_16_code 14 = .ok (.ireturn, 1) := by decide +kernel
theorem nX11_shiftOf : zDs yX11_shiftOf 1 := ⟨by decide, by decide, by decide +kernel⟩
theorem dX11_shiftOf_0 : decode prog_13_method_17_code 0 = .ok (.iconst (-1), 1) := by decide +kernel
theorem dX11_shiftOf_1 : decode prog_13_method_17_code 1 = .ok (.istore_n 2, 1) := by decide +kernel
theorem dX11_shiftOf_2 : decode prog_13_method_17_code 2 = .ok (.iconst 0, 1) := by decide +kernel
theorem dX11_shiftOf_3 : decode prog_13_method_17_code 3 = .ok (.istore_n 3, 1) := by decide +kernel
theorem dX11_shiftOf_4 : decode prog_13_method_17_code 4 = .ok (.iload_n 3, 1) := by decide +kernel
theorem dX11_shiftOf_5 : decode prog_13_method_17_code 5 = .ok (.aload_n 0, 1) := by decide +kernel
theorem dX11_shiftOf_6 : decode prog_13_method_17_code 6 = .ok (.getfield 7, 3) := by decide +kernel
theorem dX11_shiftOf_9 : decode prog_13_method_17_code 9 = .ok (.sipush 216, 3) := by decide +kernel
theorem dX11_shiftOf_12 : decode prog_13_method_17_code 12 = .ok (.iaload, 1) := by decide +kernel
theorem dX11_shiftOf_13 : decode prog_13_method_17_code 13 = .ok (.if_icmp .ge 58, 3) := by decide +kernel
theorem dX11_shiftOf_16 : decode prog_13_method_17_code 16 = .ok (.aload_n 0, 1) := by decide +kernel
theorem dX11_shiftOf_17 : decode prog_13_method_17_code 17 = .ok (.getfield 7, 3) := by decide +kernel
theorem dX11_shiftOf_20 : decode prog_13_method_17_code 20 = .ok (.sipush 217, 3) := by decide +kernel
theorem dX11_shiftOf_23 : decode prog_13_method_17_code 23 = .ok (.iconst 2, 1) := by decide +kernel
theorem dX11_shiftOf_24 : decode prog_13_method_17_code 24 = .ok (.iload_n 3, 1) := by decide +kernel
theorem dX11_shiftOf_25 : decode prog_13_method_17_code 25 = .ok (.imul, 1) := by decide +kernel
theorem dX11_shiftOf_26 : decode prog_13_method_17_code 26 = .ok (.iadd, 1) := by decide +kernel
theorem dX11_shiftOf_27 : decode prog_13_method_17_code 27 = .ok (.iaload, 1) := by decide +kernel
theorem dX11_shiftOf_28 : decode prog_13_method_17_code 28 = .ok (.iload_n 1, 1) := by decide +kernel
theorem dX11_shiftOf_29 : decode prog_13_method_17_code 29 = .ok (.if_icmp .gt 36, 3) := by decide +kernel
theorem dX11_shiftOf_32 : decode prog_13_method_17_code 32 = .ok (.iload_n 2, 1) := by decide +kernel
theorem dX11_shiftOf_33 : decode prog_13_method_17_code 33 = .ok (.ifCond .lt 30, 3) := by decide +kernel
theorem dX11_shiftOf_36 : decode prog_13_method_17_code 36 = .ok (.aload_n 0, 1) := by decide +kernel
theorem dX11_shiftOf_37 : decode prog_13_method_17_code 37 = .ok (.getfield 7, 3) := by decide +kernel
theorem dX11_shiftOf_40 : decode prog_13_method_17_code 40 = .ok (.sipush 217, 3) := by decide +kernel
theorem dX11_shiftOf_43 : decode prog_13_method_17_code 43 = .ok (.iconst 2, 1) := by decide +kernel
theorem dX11_shiftOf_44 : decode prog_13_method_17_code 44 = .ok (.iload_n 3, 1) := by decide +kernel
theorem dX11_shiftOf_45 : decode prog_13_method_17_code 45 = .ok (.imul, 1) := by decide +kernel
theorem dX11_shiftOf_46 : decode prog_13_method_17_code 46 = .ok (.iadd, 1) := by decide +kernel
theorem dX11_shiftOf_47 : decode prog_13_method_17_code 47 = .ok (.iaload, 1) := by decide +kernel
theorem dX11_shiftOf_48 : decode prog_13_method_17_code 48 = .ok (.aload_n 0, 1) := by decide +kernel
theorem dX11_shiftOf_49 : decode prog_13_method_17_code 49 = .ok (.getfield 7, 3) := by decide +kernel
theorem dX11_shiftOf_52 : decode prog_13_method_17_code 52 = .ok (.sipush 217, 3) := by decide +kernel
theorem dX11_shiftOf_55 : decode prog_13_method_17_code 55 = .ok (.iconst 2, 1) := by decide +kernel
theorem dX11_shiftOf_56 : decode prog_13_method_17_code 56 = .ok (.iload_n 2, 1) := by decide +kernel
theorem dX11_shiftOf_57 : decode prog_13_method_17_code 57 = .ok (.imul, 1) := by decide +kernel
theorem dX11_shiftOf_58 : decode prog_13_method_17_code 58 = .ok (.iadd, 1) := by decide +kernel
theorem dX11_shiftOf_59 : decode prog_13_method_17_code 59 = .ok (.iaload, 1) := by decide +kernel
theorem dX11_shiftOf_60 : decode prog_13_method_17_code 60 = .ok (.if_icmp .le 5, 3) := by decide +kernel
theorem dX11_shiftOf_63 : decode prog_13_method_17_code 63 = .ok (.iload_n 3, 1) := by decide +kernel
theorem dX11_shiftOf_64 : decode prog_13_method_17_code 64 = .ok (.istore_n 2, 1) := by decide +kernel
theorem dX11_shiftOf_65 : decode prog_13_method_17_code 65 = .ok (.iinc 3 1, 3) := by decide +kernel
theorem dX11_shiftOf_68 : decode prog_13_method_17_code 68 = .ok (.goto (-64), 3) := by decide +kernel
theorem dX11_shiftOf_71 : decode prog_13_method_17_code 71 = .ok (.iload_n 2, 1) := by decide +kernel
theorem dX11_shiftOf_72 : decode prog_13_method_17_code 72 = .ok (.ifCond .ge 7, 3) := by decide +kernel
theorem dX11_shiftOf_75 : decode prog_13_method_17_code 75 = .ok (.iconst 0, 1) := by decide +kernel
theorem dX11_shiftOf_76 : decode prog_13_method_17_code 76 = .ok (.goto 17, 3) := by decide +kernel
theorem dX11_shiftOf_79 : decode prog_13_method_17_code 79 = .ok (.aload_n 0, 1) := by decide +kernel
theorem dX11_shiftOf_80 : decode prog_13_method_17_code 80 = .ok (.getfield 7, 3) := by decide +kernel
theorem dX11_shiftOf_83 : decode prog_13_method_17_code 83 = .ok (.sipush 217, 3) := by decide +kernel
theorem dX11_shiftOf_86 : decode prog_13_method_17_code 86 = .ok (.iconst 2, 1) := by decide +kernel
theorem dX11_shiftOf_87 : decode prog_13_method_17_code 87 = .ok (.iload_n 2, 1) := by decide +kernel
theorem dX11_shiftOf_88 : decode prog_13_method_17_code 88 = .ok (.imul, 1) := by decide +kernel
theorem dX11_shiftOf_89 : decode prog_13_method_17_code 89 = .ok (.iadd, 1) := by decide +kernel
theorem dX11_shiftOf_90 : decode prog_13_method_17_code 90 = .ok (.iconst 1, 1) := by decide +kernel
theorem dX11_shiftOf_91 : decode prog_13_method_17_code 91 = .ok (.iadd, 1) := by decide +kernel
theorem dX11_shiftOf_92 : decode prog_13_method_17_code 92 = .ok (.iaload, 1) := by decide +kernel
theorem dX11_shiftOf_93 : decode prog_13_method_17_code 93 = .ok (.ireturn, 1) := by decide +kernel
theorem nX11_levelOf : zDs yX11_levelOf 2 := ⟨by decide, by decide, by decide +kernel⟩
theorem dX11_levelOf_0 : decode prog_13_method_18_code 0 = .ok (.aload_n 0, 1) := by decide +kernel
theorem dX11_levelOf_1 : decode prog_13_method_18_code 1 = .ok (.iload_n 2, 1) := by decide +kernel
theorem dX11_levelOf_2 : decode prog_13_method_18_code 2 = .ok (.iconst 1, 1) := by decide +kernel
theorem dX11_levelOf_3 : decode prog_13_method_18_code 3 = .ok (.invokevirtual 66, 3) := by decide +kernel
theorem dX11_levelOf_6 : decode prog_13_method_18_code 6 = .ok (.aload_n 0, 1) := by decide +kernel
theorem dX11_levelOf_7 : decode prog_13_method_18_code 7 = .ok (.iload_n 1, 1) := by decide +kernel
theorem dX11_levelOf_8 : decode prog_13_method_18_code 8 = .ok (.iconst 0, 1) := by decide +kernel
theorem dX11_levelOf_9 : decode prog_13_method_18_code 9 = .ok (.invokevirtual 70, 3) := by decide +kernel
theorem dX11_levelOf_12 : decode prog_13_method_18_code 12 = .ok (.iconst 5, 1) := by decide +kernel
theorem dX11_levelOf_13 : decode prog_13_method_18_code 13 = .ok (.idiv, 1) := by decide +kernel
theorem dX11_levelOf_14 : decode prog_13_method_18_code 14 = .ok (.isub, 1) := by decide +kernel
theorem dX11_levelOf_15 : decode prog_13_method_18_code 15 = .ok (.aload_n 0, 1) := by decide +kernel
theorem dX11_levelOf_16 : decode prog_13_method_18_code 16 = .ok (.iload_n 1, 1) := by decide +kernel
theorem dX11_levelOf_17 : decode prog_13_method_18_code 17 = .ok (.iconst 1, 1) := by decide +kernel
theorem dX11_levelOf_18 : decode prog_13_method_18_code 18 = .ok (.invokevirtual 70, 3) := by decide +kernel
theorem dX11_levelOf_21 : decode prog_13_method_18_code 21 = .ok (.isub, 1) := by decide +kernel
theorem dX11_levelOf_22 : decode prog_13_method_18_code 22 = .ok (.ireturn, 1) := by decide +kernel
theorem nX11_heightNow : zDs yX11_heightNow 2 := ⟨by decide, by decide, by decide +kernel⟩
theorem dX11_heightNow_0 : decode prog_13_method_19_code 0 = .ok (.aload_n 0, 1) := by decide +kernel
theorem dX11_heightNow_1 : decode prog_13_method_19_code 1 = .ok (.iload_n 1, 1) := by decide +kernel
theorem dX11_heightNow_2 : decode prog_13_method_19_code 2 = .ok (.iload_n 2, 1) := by decide +kernel
theorem dX11_heightNow_3 : decode prog_13_method_19_code 3 = .ok (.invokevirtual 73, 3) := by decide +kernel
theorem dX11_heightNow_6 : decode prog_13_method_19_code 6 = .ok (.aload_n 0, 1) := by decide +kernel
theorem dX11_heightNow_7 : decode prog_13_method_19_code 7 = .ok (.iload_n 1, 1) := by decide +kernel
theorem dX11_heightNow_8 : decode prog_13_method_19_code 8 = .ok (.iconst 3, 1) := by decide +kernel
theorem dX11_heightNow_9 : decode prog_13_method_19_code 9 = .ok (.invokevirtual 70, 3) := by decide +kernel
theorem dX11_heightNow_12 : decode prog_13_method_19_code 12 = .ok (.iadd, 1) := by decide +kernel
theorem dX11_heightNow_13 : decode prog_13_method_19_code 13 = .ok (.aload_n 0, 1) := by decide +kernel
theorem dX11_heightNow_14 : decode prog_13_method_19_code 14 = .ok (.aload_n 0, 1) := by decide +kernel
theorem dX11_heightNow_15 : decode prog_13_method_19_code 15 = .ok (.getfield 7, 3) := by decide +kernel
theorem dX11_heightNow_18 : decode prog_13_method_19_code 18 = .ok (.iconst 0, 1) := by decide +kernel
theorem dX11_heightNow_19 : decode prog_13_method_19_code 19 = .ok (.iaload, 1) := by decide +kernel
theorem dX11_heightNow_20 : decode prog_13_method_19_code 20 = .ok (.invokevirtual 76, 3) := by decide +kernel
theorem dX11_heightNow_23 : decode prog_13_method_19_code 23 = .ok (.iadd, 1) := by decide +kernel
theorem dX11_heightNow_24 : decode prog_13_method_19_code 24 = .ok (.ireturn, 1) := by decide +kernel
theorem nX11_trueOf : zDs yX11_trueOf 2 := ⟨by decide, by decide, by decide +kernel⟩
theorem dX11_trueOf_0 : decode prog_13_method_20_code 0 = .ok (.aload_n 0, 1) := by decide +kernel
theorem dX11_trueOf_1 : decode prog_13_method_20_code 1 = .ok (.iload_n 1, 1) := by decide +kernel
theorem dX11_trueOf_2 : decode prog_13_method_20_code 2 = .ok (.iload_n 2, 1) := by decide +kernel
theorem dX11_trueOf_3 : decode prog_13_method_20_code 3 = .ok (.iconst 1, 1) := by decide +kernel
theorem dX11_trueOf_4 : decode prog_13_method_20_code 4 = .ok (.invokevirtual 80, 3) := by decide +kernel
theorem dX11_trueOf_7 : decode prog_13_method_20_code 7 = .ok (.aload_n 0, 1) := by decide +kernel
theorem dX11_trueOf_8 : decode prog_13_method_20_code 8 = .ok (.aload_n 0, 1) := by decide +kernel
theorem dX11_trueOf_9 : decode prog_13_method_20_code 9 = .ok (.iload_n 1, 1) := by decide +kernel
theorem dX11_trueOf_10 : decode prog_13_method_20_code 10 = .ok (.iload_n 2, 1) := by decide +kernel
theorem dX11_trueOf_11 : decode prog_13_method_20_code 11 = .ok (.iconst 3, 1) := by decide +kernel
theorem dX11_trueOf_12 : decode prog_13_method_20_code 12 = .ok (.invokevirtual 80, 3) := by decide +kernel
theorem dX11_trueOf_15 : decode prog_13_method_20_code 15 = .ok (.invokevirtual 76, 3) := by decide +kernel
theorem dX11_trueOf_18 : decode prog_13_method_20_code 18 = .ok (.isub, 1) := by decide +kernel
theorem dX11_trueOf_19 : decode prog_13_method_20_code 19 = .ok (.ireturn, 1) := by decide +kernel
theorem nX11_placeOf : zDs yX11_placeOf 2 := ⟨by decide, by decide, by decide +kernel⟩
theorem dX11_placeOf_0 : decode prog_13_method_21_code 0 = .ok (.iconst 0, 1) := by decide +kernel
theorem dX11_placeOf_1 : decode prog_13_method_21_code 1 = .ok (.istore_n 3, 1) := by decide +kernel
theorem dX11_placeOf_2 : decode prog_13_method_21_code 2 = .ok (.iload_n 3, 1) := by decide +kernel
theorem dX11_placeOf_3 : decode prog_13_method_21_code 3 = .ok (.aload_n 0, 1) := by decide +kernel
theorem dX11_placeOf_4 : decode prog_13_method_21_code 4 = .ok (.iload_n 1, 1) := by decide +kernel
theorem dX11_placeOf_5 : decode prog_13_method_21_code 5 = .ok (.iconst 4, 1) := by decide +kernel
theorem dX11_placeOf_6 : decode prog_13_method_21_code 6 = .ok (.invokevirtual 70, 3) := by decide +kernel
theorem dX11_placeOf_9 : decode prog_13_method_21_code 9 = .ok (.if_icmp .ge 22, 3) := by decide +kernel
theorem dX11_placeOf_12 : decode prog_13_method_21_code 12 = .ok (.aload_n 0, 1) := by decide +kernel
theorem dX11_placeOf_13 : decode prog_13_method_21_code 13 = .ok (.iload_n 1, 1) := by decide +kernel
theorem dX11_placeOf_14 : decode prog_13_method_21_code 14 = .ok (.iload_n 3, 1) := by decide +kernel
theorem dX11_placeOf_15 : decode prog_13_method_21_code 15 = .ok (.iconst 0, 1) := by decide +kernel
theorem dX11_placeOf_16 : decode prog_13_method_21_code 16 = .ok (.invokevirtual 80, 3) := by decide +kernel
theorem dX11_placeOf_19 : decode prog_13_method_21_code 19 = .ok (.iload_n 2, 1) := by decide +kernel
theorem dX11_placeOf_20 : decode prog_13_method_21_code 20 = .ok (.if_icmp .ne 5, 3) := by decide +kernel
theorem dX11_placeOf_23 : decode prog_13_method_21_code 23 = .ok (.iload_n 3, 1) := by decide +kernel
theorem dX11_placeOf_24 : decode prog_13_method_21_code 24 = .ok (.ireturn, 1) := by decide +kernel
theorem dX11_placeOf_25 : decode prog_13_method_21_code 25 = .ok (.iinc 3 1, 3) := by decide +kernel
theorem dX11_placeOf_28 : decode prog_13_method_21_code 28 = .ok (.goto (-26), 3) := by decide +kernel
theorem dX11_placeOf_31 : decode prog_13_method_21_code 31 = .ok (.iconst (-1), 1) := by decide +kernel
theorem dX11_placeOf_32 : decode prog_13_method_21_code 32 = .ok (.ireturn, 1) := by decide +kernel
theorem nX11_placeAt : zDs yX11_placeAt 2 := ⟨by decide, by decide, by decide +kernel⟩
theorem dX11_placeAt_0 : decode prog_13_method_22_code 0 = .ok (.iconst 0, 1) := by decide +kernel
theorem dX11_placeAt_1 : decode prog_13_method_22_code 1 = .ok (.istore_n 3, 1) := by decide +kernel
theorem dX11_placeAt_2 : decode prog_13_method_22_code 2 = .ok (.iload_n 3, 1) := by decide +kernel
theorem dX11_placeAt_3 : decode prog_13_method_22_code 3 = .ok (.aload_n 0, 1) := by decide +kernel
theorem dX11_placeAt_4 : decode prog_13_method_22_code 4 = .ok (.iload_n 1, 1) := by decide +kernel
theorem dX11_placeAt_5 : decode prog_13_method_22_code 5 = .ok (.iconst 4, 1) := by decide +kernel
theorem dX11_placeAt_6 : decode prog_13_method_22_code 6 = .ok (.invokevirtual 70, 3) := by decide +kernel
theorem dX11_placeAt_9 : decode prog_13_method_22_code 9 = .ok (.if_icmp .ge 22, 3) := by decide +kernel
theorem dX11_placeAt_12 : decode prog_13_method_22_code 12 = .ok (.aload_n 0, 1) := by decide +kernel
theorem dX11_placeAt_13 : decode prog_13_method_22_code 13 = .ok (.iload_n 1, 1) := by decide +kernel
theorem dX11_placeAt_14 : decode prog_13_method_22_code 14 = .ok (.iload_n 3, 1) := by decide +kernel
theorem dX11_placeAt_15 : decode prog_13_method_22_code 15 = .ok (.iconst 1, 1) := by decide +kernel
theorem dX11_placeAt_16 : decode prog_13_method_22_code 16 = .ok (.invokevirtual 80, 3) := by decide +kernel
theorem dX11_placeAt_19 : decode prog_13_method_22_code 19 = .ok (.iload_n 2, 1) := by decide +kernel
theorem dX11_placeAt_20 : decode prog_13_method_22_code 20 = .ok (.if_icmp .ne 5, 3) := by decide +kernel
theorem dX11_placeAt_23 : decode prog_13_method_22_code 23 = .ok (.iload_n 3, 1) := by decide +kernel
theorem dX11_placeAt_24 : decode prog_13_method_22_code 24 = .ok (.ireturn, 1) := by decide +kernel
theorem dX11_placeAt_25 : decode prog_13_method_22_code 25 = .ok (.iinc 3 1, 3) := by decide +kernel
theorem dX11_placeAt_28 : decode prog_13_method_22_code 28 = .ok (.goto (-26), 3) := by decide +kernel
theorem dX11_placeAt_31 : decode prog_13_method_22_code 31 = .ok (.iconst (-1), 1) := by decide +kernel
theorem dX11_placeAt_32 : decode prog_13_method_22_code 32 = .ok (.ireturn, 1) := by decide +kernel
theorem nX11_stone : zDs yX11_stone 3 := ⟨by decide, by decide, by decide +kernel⟩
theorem dX11_stone_0 : decode prog_13_method_23_code 0 = .ok (.iload_n 1, 1) := by decide +kernel
theorem dX11_stone_1 : decode prog_13_method_23_code 1 = .ok (.iconst 0, 1) := by decide +kernel
theorem dX11_stone_2 : decode prog_13_method_23_code 2 = .ok (.bipush 50, 2) := by decide +kernel
theorem dX11_stone_4 : decode prog_13_method_23_code 4 = .ok (.invokestatic 62, 3) := by decide +kernel
theorem dX11_stone_7 : decode prog_13_method_23_code 7 = .ok (.ifCond .eq 22, 3) := by decide +kernel
theorem dX11_stone_10 : decode prog_13_method_23_code 10 = .ok (.iload_n 2, 1) := by decide +kernel
theorem dX11_stone_11 : decode prog_13_method_23_code 11 = .ok (.iconst 0, 1) := by decide +kernel
theorem dX11_stone_12 : decode prog_13_method_23_code 12 = .ok (.bipush 30, 2) := by decide +kernel
theorem dX11_stone_14 : decode prog_13_method_23_code 14 = .ok (.invokestatic 62, 3) := by decide +kernel
theorem dX11_stone_17 : decode prog_13_method_23_code 17 = .ok (.ifCond .eq 12, 3) := by decide +kernel
theorem dX11_stone_20 : decode prog_13_method_23_code 20 = .ok (.iload_n 3, 1) := by decide +kernel
theorem dX11_stone_21 : decode prog_13_method_23_code 21 = .ok (.iconst 1, 1) := by decide +kernel
theorem dX11_stone_22 : decode prog_13_method_23_code 22 = .ok (.iconst 5, 1) := by decide +kernel
theorem dX11_stone_23 : decode prog_13_method_23_code 23 = .ok (.invokestatic 62, 3) := by decide +kernel
theorem dX11_stone_26 : decode prog_13_method_23_code 26 = .ok (.ifCond .ne 10, 3) := by decide +kernel
theorem dX11_stone_29 : decode prog_13_method_23_code 29 = .ok (.aload_n 0, 1) := by decide +kernel
theorem dX11_stone_30 : decode prog_13_method_23_code 30 = .ok (.iconst 1, 1) := by decide +kernel
theorem dX11_stone_31 : decode prog_13_method_23_code 31 = .ok (.iconst 0, 1) := by decide +kernel
theorem dX11_stone_32 : decode prog_13_method_23_code 32 = .ok (.invokevirtual 84, 3) := by decide +kernel
theorem dX11_stone_35 : decode prog_13_method_23_code 35 = .ok (.ireturn, 1) := by decide +kernel
theorem dX11_stone_36 : decode prog_13_method_23_code 36 = .ok (.aload_n 0, 1) := by decide +kernel
theorem dX11_stone_37 : decode prog_13_method_23_code 37 = .ok (.getfield 7, 3) := by decide +kernel
theorem dX11_stone_40 : decode prog_13_method_23_code 40 = .ok (.iconst 4, 1) := by decide +kernel
theorem dX11_stone_41 : decode prog_13_method_23_code 41 = .ok (.iaload, 1) := by decide +kernel
theorem dX11_stone_42 : decode prog_13_method_23_code 42 = .ok (.bipush 6, 2) := by decide +kernel
theorem dX11_stone_44 : decode prog_13_method_23_code 44 = .ok (.if_icmp .ne 11, 3) := by decide +kernel
theorem dX11_stone_47 : decode prog_13_method_23_code 47 = .ok (.aload_n 0, 1) := by decide +kernel
theorem dX11_stone_48 : decode prog_13_method_23_code 48 = .ok (.iconst 2, 1) := by decide +kernel
theorem dX11_stone_49 : decode prog_13_method_23_code 49 = .ok (.bipush 6, 2) := by decide +kernel
theorem dX11_stone_51 : decode prog_13_method_23_code 51 = .ok (.invokevirtual 84, 3) := by decide +kernel
theorem dX11_stone_54 : decode prog_13_method_23_code 54 = .ok (.ireturn, 1) := by decide +kernel
theorem dX11_stone_55 : decode prog_13_method_23_code 55 = .ok (.aload_n 0, 1) := by decide +kernel
theorem dX11_stone_56 : decode prog_13_method_23_code 56 = .ok (.aload_n 0, 1) := by decide +kernel
theorem dX11_stone_57 : decode prog_13_method_23_code 57 = .ok (.getfield 7, 3) := by decide +kernel
theorem dX11_stone_60 : decode prog_13_method_23_code 60 = .ok (.invokevirtual 87, 3) := by decide +kernel
theorem dX11_stone_63 : decode prog_13_method_23_code 63 = .ok (.aload_n 0, 1) := by decide +kernel
theorem dX11_stone_64 : decode prog_13_method_23_code 64 = .ok (.getfield 7, 3) := by decide +kernel
theorem dX11_stone_67 : decode prog_13_method_23_code 67 = .ok (.iconst 4, 1) := by decide +kernel
theorem dX11_stone_68 : decode prog_13_method_23_code 68 = .ok (.iaload, 1) := by decide +kernel
theorem dX11_stone_69 : decode prog_13_method_23_code 69 = .ok (.istore 4, 2) := by decide +kernel
theorem dX11_stone_71 : decode prog_13_method_23_code 71 = .ok (.aload_n 0, 1) := by decide +kernel
theorem dX11_stone_72 : decode prog_13_method_23_code 72 = .ok (.getfield 7, 3) := by decide +kernel
theorem dX11_stone_75 : decode prog_13_method_23_code 75 = .ok (.iconst 4, 1) := by decide +kernel
theorem dX11_stone_76 : decode prog_13_method_23_code 76 = .ok (.dup2, 1) := by decide +kernel
theorem dX11_stone_77 : decode prog_13_method_23_code 77 = .ok (.iaload, 1) := by decide +kernel
theorem dX11_stone_78 : decode prog_13_method_23_code 78 = .ok (.iconst 1, 1) := by decide +kernel
theorem dX11_stone_79 : decode prog_13_method_23_code 79 = .ok (.iadd, 1) := by decide +kernel
theorem dX11_stone_80 : decode prog_13_method_23_code 80 = .ok (.iastore, 1) := by decide +kernel
theorem dX11_stone_81 : decode prog_13_method_23_code 81 = .ok (.aload_n 0, 1) := by decide +kernel
theorem dX11_stone_82 : decode prog_13_method_23_code 82 = .ok (.iload 4, 2) := by decide +kernel
theorem dX11_stone_84 : decode prog_13_method_23_code 84 = .ok (.iconst 0, 1) := by decide +kernel
theorem dX11_stone_85 : decode prog_13_method_23_code 85 = .ok (.iload_n 1, 1) := by decide +kernel
theorem dX11_stone_86 : decode prog_13_method_23_code 86 = .ok (.invokevirtual 91, 3) := by decide +kernel
theorem dX11_stone_89 : decode prog_13_method_23_code 89 = .ok (.aload_n 0, 1) := by decide +kernel
theorem dX11_stone_90 : decode prog_13_method_23_code 90 = .ok (.iload 4, 2) := by decide +kernel
theorem dX11_stone_92 : decode prog_13_method_23_code 92 = .ok (.iconst 1, 1) := by decide +kernel
theorem dX11_stone_93 : decode prog_13_method_23_code 93 = .ok (.iload_n 2, 1) := by decide +kernel
theorem dX11_stone_94 : decode prog_13_method_23_code 94 = .ok (.invokevirtual 91, 3) := by decide +kernel
theorem dX11_stone_97 : decode prog_13_method_23_code 97 = .ok (.aload_n 0, 1) := by decide +kernel
theorem dX11_stone_98 : decode prog_13_method_23_code 98 = .ok (.iload 4, 2) := by decide +kernel
theorem dX11_stone_100 : decode prog_13_method_23_code 100 = .ok (.iconst 2, 1) := by decide +kernel
theorem dX11_stone_101 : decode prog_13_method_23_code 101 = .ok (.iload_n 3, 1) := by decide +kernel
theorem dX11_stone_102 : decode prog_13_method_23_code 102 = .ok (.invokevirtual 91, 3) := by decide +kernel
theorem dX11_stone_105 : decode prog_13_method_23_code 105 = .ok (.aload_n 0, 1) := by decide +kernel
theorem dX11_stone_106 : decode prog_13_method_23_code 106 = .ok (.iload 4, 2) := by decide +kernel
theorem dX11_stone_108 : decode prog_13_method_23_code 108 = .ok (.iconst 3, 1) := by decide +kernel
theorem dX11_stone_109 : decode prog_13_method_23_code 109 = .ok (.iconst 0, 1) := by decide +kernel
theorem dX11_stone_110 : decode prog_13_method_23_code 110 = .ok (.invokevirtual 91, 3) := by decide +kernel
theorem dX11_stone_113 : decode prog_13_method_23_code 113 = .ok (.aload_n 0, 1) := by decide +kernel
theorem dX11_stone_114 : decode prog_13_method_23_code 114 = .ok (.iload 4, 2) := by decide +kernel
theorem dX11_stone_116 : decode prog_13_method_23_code 116 = .ok (.iconst 4, 1) := by decide +kernel
theorem dX11_stone_117 : decode prog_13_method_23_code 117 = .ok (.iconst 0, 1) := by decide +kernel
theorem dX11_stone_118 : decode prog_13_method_23_code 118 = .ok (.invokevirtual 91, 3) := by decide +kernel
theorem dX11_stone_121 : decode prog_13_method_23_code 121 = .ok (.iload 4, 2) := by decide +kernel
theorem dX11_stone_123 : decode prog_13_method_23_code 123 = .ok (.ireturn, 1) := by decide +kernel
theorem nX11_ofYear : zDs yX11_ofYear 1 := ⟨by decide, by decide, by decide +kernel⟩
theorem dX11_ofYear_0 : decode prog_13_method_24_code 0 = .ok (.iconst 0, 1) := by decide +kernel
theorem dX11_ofYear_1 : decode prog_13_method_24_code 1 = .ok (.istore_n 2, 1) := by decide +kernel
theorem dX11_ofYear_2 : decode prog_13_method_24_code 2 = .ok (.iload_n 2, 1) := by decide +kernel
theorem dX11_ofYear_3 : decode prog_13_method_24_code 3 = .ok (.aload_n 0, 1) := by decide +kernel
theorem dX11_ofYear_4 : decode prog_13_method_24_code 4 = .ok (.getfield 7, 3) := by decide +kernel
theorem dX11_ofYear_7 : decode prog_13_method_24_code 7 = .ok (.sipush 179, 3) := by decide +kernel
theorem dX11_ofYear_10 : decode prog_13_method_24_code 10 = .ok (.iaload, 1) := by decide +kernel
theorem dX11_ofYear_11 : decode prog_13_method_24_code 11 = .ok (.if_icmp .ge 21, 3) := by decide +kernel
theorem dX11_ofYear_14 : decode prog_13_method_24_code 14 = .ok (.aload_n 0, 1) := by decide +kernel
theorem dX11_ofYear_15 : decode prog_13_method_24_code 15 = .ok (.iload_n 2, 1) := by decide +kernel
theorem dX11_ofYear_16 : decode prog_13_method_24_code 16 = .ok (.iconst 0, 1) := by decide +kernel
theorem dX11_ofYear_17 : decode prog_13_method_24_code 17 = .ok (.invokevirtual 66, 3) := by decide +kernel
theorem dX11_ofYear_20 : decode prog_13_method_24_code 20 = .ok (.iload_n 1, 1) := by decide +kernel
theorem dX11_ofYear_21 : decode prog_13_method_24_code 21 = .ok (.if_icmp .ne 5, 3) := by decide +kernel
theorem dX11_ofYear_24 : decode prog_13_method_24_code 24 = .ok (.iload_n 2, 1) := by decide +kernel
theorem dX11_ofYear_25 : decode prog_13_method_24_code 25 = .ok (.ireturn, 1) := by decide +kernel
theorem dX11_ofYear_26 : decode prog_13_method_24_code 26 = .ok (.iinc 2 1, 3) := by decide +kernel
theorem dX11_ofYear_29 : decode prog_13_method_24_code 29 = .ok (.goto (-27), 3) := by decide +kernel
theorem dX11_ofYear_32 : decode prog_13_method_24_code 32 = .ok (.iconst (-1), 1) := by decide +kernel
theorem dX11_ofYear_33 : decode prog_13_method_24_code 33 = .ok (.ireturn, 1) := by decide +kernel
theorem nX11_flood : zDs yX11_flood 3 := ⟨by decide, by decide, by decide +kernel⟩
theorem dX11_flood_0 : decode prog_13_method_25_code 0 = .ok (.iload_n 1, 1) := by decide +kernel
theorem dX11_flood_1 : decode prog_13_method_25_code 1 = .ok (.iconst 0, 1) := by decide +kernel
theorem dX11_flood_2 : decode prog_13_method_25_code 2 = .ok (.aload_n 0, 1) := by decide +kernel
theorem dX11_flood_3 : decode prog_13_method_25_code 3 = .ok (.getfield 7, 3) := by decide +kernel
theorem dX11_flood_6 : decode prog_13_method_25_code 6 = .ok (.iconst 0, 1) := by decide +kernel
theorem dX11_flood_7 : decode prog_13_method_25_code 7 = .ok (.iaload, 1) := by decide +kernel
theorem dX11_flood_8 : decode prog_13_method_25_code 8 = .ok (.invokestatic 62, 3) := by decide +kernel
theorem dX11_flood_11 : decode prog_13_method_25_code 11 = .ok (.ifCond .eq 23, 3) := by decide +kernel
theorem dX11_flood_14 : decode prog_13_method_25_code 14 = .ok (.iload_n 2, 1) := by decide +kernel
theorem dX11_flood_15 : decode prog_13_method_25_code 15 = .ok (.iconst 1, 1) := by decide +kernel
theorem dX11_flood_16 : decode prog_13_method_25_code 16 = .ok (.bipush 99, 2) := by decide +kernel
theorem dX11_flood_18 : decode prog_13_method_25_code 18 = .ok (.invokestatic 62, 3) := by decide +kernel
theorem dX11_flood_21 : decode prog_13_method_25_code 21 = .ok (.ifCond .eq 13, 3) := by decide +kernel
theorem dX11_flood_24 : decode prog_13_method_25_code 24 = .ok (.iload_n 3, 1) := by decide +kernel
theorem dX11_flood_25 : decode prog_13_method_25_code 25 = .ok (.iconst 0, 1) := by decide +kernel
theorem dX11_flood_26 : decode prog_13_method_25_code 26 = .ok (.bipush 99, 2) := by decide +kernel
theorem dX11_flood_28 : decode prog_13_method_25_code 28 = .ok (.invokestatic 62, 3) := by decide +kernel
theorem dX11_flood_31 : decode prog_13_method_25_code 31 = .ok (.ifCond .ne 10, 3) := by decide +kernel
theorem dX11_flood_34 : decode prog_13_method_25_code 34 = .ok (.aload_n 0, 1) := by decide +kernel
theorem dX11_flood_35 : decode prog_13_method_25_code 35 = .ok (.iconst 1, 1) := by decide +kernel
theorem dX11_flood_36 : decode prog_13_method_25_code 36 = .ok (.iconst 0, 1) := by decide +kernel
theorem dX11_flood_37 : decode prog_13_method_25_code 37 = .ok (.invokevirtual 84, 3) := by decide +kernel
theorem dX11_flood_40 : decode prog_13_method_25_code 40 = .ok (.ireturn, 1) := by decide +kernel
theorem dX11_flood_41 : decode prog_13_method_25_code 41 = .ok (.aload_n 0, 1) := by decide +kernel
theorem dX11_flood_42 : decode prog_13_method_25_code 42 = .ok (.iload_n 1, 1) := by decide +kernel
theorem dX11_flood_43 : decode prog_13_method_25_code 43 = .ok (.invokevirtual 95, 3) := by decide +kernel
theorem dX11_flood_46 : decode prog_13_method_25_code 46 = .ok (.ifCond .lt 14, 3) := by decide +kernel
theorem dX11_flood_49 : decode prog_13_method_25_code 49 = .ok (.aload_n 0, 1) := by decide +kernel
theorem dX11_flood_50 : decode prog_13_method_25_code 50 = .ok (.iconst 4, 1) := by decide +kernel
theorem dX11_flood_51 : decode prog_13_method_25_code 51 = .ok (.aload_n 0, 1) := by decide +kernel
theorem dX11_flood_52 : decode prog_13_method_25_code 52 = .ok (.iload_n 1, 1) := by decide +kernel
theorem dX11_flood_53 : decode prog_13_method_25_code 53 = .ok (.invokevirtual 95, 3) := by decide +kernel
theorem dX11_flood_56 : decode prog_13_method_25_code 56 = .ok (.invokevirtual 84, 3) := by decide +kernel
theorem dX11_flood_59 : decode prog_13_method_25_code 59 = .ok (.ireturn, 1) := by decide +kernel
theorem dX11_flood_60 : decode prog_13_method_25_code 60 = .ok (.aload_n 0, 1) := by decide +kernel
theorem dX11_flood_61 : decode prog_13_method_25_code 61 = .ok (.getfield 7, 3) := by decide +kernel
theorem dX11_flood_64 : decode prog_13_method_25_code 64 = .ok (.sipush 179, 3) := by decide +kernel
theorem dX11_flood_67 : decode prog_13_method_25_code 67 = .ok (.iaload, 1) := by decide +kernel
theorem dX11_flood_68 : decode prog_13_method_25_code 68 = .ok (.bipush 12, 2) := by decide +kernel
theorem dX11_flood_70 : decode prog_13_method_25_code 70 = .ok (.if_icmp .ne 11, 3) := by decide +kernel
theorem dX11_flood_73 : decode prog_13_method_25_code 73 = .ok (.aload_n 0, 1) := by decide +kernel
theorem dX11_flood_74 : decode prog_13_method_25_code 74 = .ok (.iconst 2, 1) := by decide +kernel
theorem dX11_flood_75 : decode prog_13_method_25_code 75 = .ok (.bipush 12, 2) := by decide +kernel
theorem dX11_flood_77 : decode prog_13_method_25_code 77 = .ok (.invokevirtual 84, 3) := by decide +kernel
theorem dX11_flood_80 : decode prog_13_method_25_code 80 = .ok (.ireturn, 1) := by decide +kernel
theorem dX11_flood_81 : decode prog_13_method_25_code 81 = .ok (.aload_n 0, 1) := by decide +kernel
theorem dX11_flood_82 : decode prog_13_method_25_code 82 = .ok (.aload_n 0, 1) := by decide +kernel
theorem dX11_flood_83 : decode prog_13_method_25_code 83 = .ok (.getfield 7, 3) := by decide +kernel
theorem dX11_flood_86 : decode prog_13_method_25_code 86 = .ok (.invokevirtual 87, 3) := by decide +kernel
theorem dX11_flood_89 : decode prog_13_method_25_code 89 = .ok (.sipush 180, 3) := by decide +kernel
theorem dX11_flood_92 : decode prog_13_method_25_code 92 = .ok (.iconst 3, 1) := by decide +kernel
theorem dX11_flood_93 : decode prog_13_method_25_code 93 = .ok (.aload_n 0, 1) := by decide +kernel
theorem dX11_flood_94 : decode prog_13_method_25_code 94 = .ok (.getfield 7, 3) := by decide +kernel
theorem dX11_flood_97 : decode prog_13_method_25_code 97 = .ok (.sipush 179, 3) := by decide +kernel
theorem dX11_flood_100 : decode prog_13_method_25_code 100 = .ok (.iaload, 1) := by decide +kernel
theorem dX11_flood_101 : decode prog_13_method_25_code 101 = .ok (.imul, 1) := by decide +kernel
theorem dX11_flood_102 : decode prog_13_method_25_code 102 = .ok (.iadd, 1) := by decide +kernel
theorem dX11_flood_103 : decode prog_13_method_25_code 103 = .ok (.istore 4, 2) := by decide +kernel
theorem dX11_flood_105 : decode prog_13_method_25_code 105 = .ok (.aload_n 0, 1) := by decide +kernel
theorem dX11_flood_106 : decode prog_13_method_25_code 106 = .ok (.getfield 7, 3) := by decide +kernel
theorem dX11_flood_109 : decode prog_13_method_25_code 109 = .ok (.iload 4, 2) := by decide +kernel
theorem dX11_flood_111 : decode prog_13_method_25_code 111 = .ok (.iload_n 1, 1) := by decide +kernel
theorem dX11_flood_112 : decode prog_13_method_25_code 112 = .ok (.iastore, 1) := by decide +kernel
theorem dX11_flood_113 : decode prog_13_method_25_code 113 = .ok (.aload_n 0, 1) := by decide +kernel
theorem dX11_flood_114 : decode prog_13_method_25_code 114 = .ok (.getfield 7, 3) := by decide +kernel
theorem dX11_flood_117 : decode prog_13_method_25_code 117 = .ok (.iload 4, 2) := by decide +kernel
theorem dX11_flood_119 : decode prog_13_method_25_code 119 = .ok (.iconst 1, 1) := by decide +kernel
theorem dX11_flood_120 : decode prog_13_method_25_code 120 = .ok (.iadd, 1) := by decide +kernel
theorem dX11_flood_121 : decode prog_13_method_25_code 121 = .ok (.iload_n 2, 1) := by decide +kernel
theorem dX11_flood_122 : decode prog_13_method_25_code 122 = .ok (.iastore, 1) := by decide +kernel
theorem dX11_flood_123 : decode prog_13_method_25_code 123 = .ok (.aload_n 0, 1) := by decide +kernel
theorem dX11_flood_124 : decode prog_13_method_25_code 124 = .ok (.getfield 7, 3) := by decide +kernel
theorem dX11_flood_127 : decode prog_13_method_25_code 127 = .ok (.iload 4, 2) := by decide +kernel
theorem dX11_flood_129 : decode prog_13_method_25_code 129 = .ok (.iconst 2, 1) := by decide +kernel
theorem dX11_flood_130 : decode prog_13_method_25_code 130 = .ok (.iadd, 1) := by decide +kernel
theorem dX11_flood_131 : decode prog_13_method_25_code 131 = .ok (.iload_n 3, 1) := by decide +kernel
theorem dX11_flood_132 : decode prog_13_method_25_code 132 = .ok (.iastore, 1) := by decide +kernel
theorem dX11_flood_133 : decode prog_13_method_25_code 133 = .ok (.aload_n 0, 1) := by decide +kernel
theorem dX11_flood_134 : decode prog_13_method_25_code 134 = .ok (.getfield 7, 3) := by decide +kernel
theorem dX11_flood_137 : decode prog_13_method_25_code 137 = .ok (.sipush 179, 3) := by decide +kernel
theorem dX11_flood_140 : decode prog_13_method_25_code 140 = .ok (.dup2, 1) := by decide +kernel
theorem dX11_flood_141 : decode prog_13_method_25_code 141 = .ok (.iaload, 1) := by decide +kernel
theorem dX11_flood_142 : decode prog_13_method_25_code 142 = .ok (.iconst 1, 1) := by decide +kernel
theorem dX11_flood_143 : decode prog_13_method_25_code 143 = .ok (.iadd, 1) := by decide +kernel
theorem dX11_flood_144 : decode prog_13_method_25_code 144 = .ok (.iastore, 1) := by decide +kernel
theorem dX11_flood_145 : decode prog_13_method_25_code 145 = .ok (.aload_n 0, 1) := by decide +kernel
theorem dX11_flood_146 : decode prog_13_method_25_code 146 = .ok (.getfield 7, 3) := by decide +kernel
theorem dX11_flood_149 : decode prog_13_method_25_code 149 = .ok (.sipush 179, 3) := by decide +kernel
theorem dX11_flood_152 : decode prog_13_method_25_code 152 = .ok (.iaload, 1) := by decide +kernel
theorem dX11_flood_153 : decode prog_13_method_25_code 153 = .ok (.iconst 1, 1) := by decide +kernel
theorem dX11_flood_154 : decode prog_13_method_25_code 154 = .ok (.isub, 1) := by decide +kernel
theorem dX11_flood_155 : decode prog_13_method_25_code 155 = .ok (.ireturn, 1) := by decide +kernel
theorem nX11_epoch : zDs yX11_epoch 2 := ⟨by decide, by decide, by decide +kernel⟩
theorem dX11_epoch_0 : decode prog_13_method_26_code 0 = .ok (.iload_n 1, 1) := by decide +kernel
theorem dX11_epoch_1 : decode prog_13_method_26_code 1 = .ok (.iconst 0, 1) := by decide +kernel
theorem dX11_epoch_2 : decode prog_13_method_26_code 2 = .ok (.sipush 999, 3) := by decide +kernel
theorem dX11_epoch_5 : decode prog_13_method_26_code 5 = .ok (.invokestatic 62, 3) := by decide +kernel
theorem dX11_epoch_8 : decode prog_13_method_26_code 8 = .ok (.ifCond .eq 14, 3) := by decide +kernel
theorem dX11_epoch_11 : decode prog_13_method_26_code 11 = .ok (.iload_n 2, 1) := by decide +kernel
theorem dX11_epoch_12 : decode prog_13_method_26_code 12 = .ok (.bipush (-9), 2) := by decide +kernel
theorem dX11_epoch_14 : decode prog_13_method_26_code 14 = .ok (.bipush 9, 2) := by decide +kernel
theorem dX11_epoch_16 : decode prog_13_method_26_code 16 = .ok (.invokestatic 62, 3) := by decide +kernel
theorem dX11_epoch_19 : decode prog_13_method_26_code 19 = .ok (.ifCond .ne 10, 3) := by decide +kernel
theorem dX11_epoch_22 : decode prog_13_method_26_code 22 = .ok (.aload_n 0, 1) := by decide +kernel
theorem dX11_epoch_23 : decode prog_13_method_26_code 23 = .ok (.iconst 1, 1) := by decide +kernel
theorem dX11_epoch_24 : decode prog_13_method_26_code 24 = .ok (.iconst 0, 1) := by decide +kernel
theorem dX11_epoch_25 : decode prog_13_method_26_code 25 = .ok (.invokevirtual 84, 3) := by decide +kernel
theorem dX11_epoch_28 : decode prog_13_method_26_code 28 = .ok (.ireturn, 1) := by decide +kernel
theorem dX11_epoch_29 : decode prog_13_method_26_code 29 = .ok (.iconst 0, 1) := by decide +kernel
theorem dX11_epoch_30 : decode prog_13_method_26_code 30 = .ok (.istore_n 3, 1) := by decide +kernel
theorem dX11_epoch_31 : decode prog_13_method_26_code 31 = .ok (.iload_n 3, 1) := by decide +kernel
theorem dX11_epoch_32 : decode prog_13_method_26_code 32 = .ok (.aload_n 0, 1) := by decide +kernel
theorem dX11_epoch_33 : decode prog_13_method_26_code 33 = .ok (.getfield 7, 3) := by decide +kernel
theorem dX11_epoch_36 : decode prog_13_method_26_code 36 = .ok (.sipush 216, 3) := by decide +kernel
theorem dX11_epoch_39 : decode prog_13_method_26_code 39 = .ok (.iaload, 1) := by decide +kernel
theorem dX11_epoch_40 : decode prog_13_method_26_code 40 = .ok (.if_icmp .ge 25, 3) := by decide +kernel
theorem dX11_epoch_43 : decode prog_13_method_26_code 43 = .ok (.aload_n 0, 1) := by decide +kernel
theorem dX11_epoch_44 : decode prog_13_method_26_code 44 = .ok (.getfield 7, 3) := by decide +kernel
theorem dX11_epoch_47 : decode prog_13_method_26_code 47 = .ok (.sipush 217, 3) := by decide +kernel
theorem dX11_epoch_50 : decode prog_13_method_26_code 50 = .ok (.iconst 2, 1) := by decide +kernel
theorem dX11_epoch_51 : decode prog_13_method_26_code 51 = .ok (.iload_n 3, 1) := by decide +kernel
theorem dX11_epoch_52 : decode prog_13_method_26_code 52 = .ok (.imul, 1) := by decide +kernel
theorem dX11_epoch_53 : decode prog_13_method_26_code 53 = .ok (.iadd, 1) := by decide +kernel
theorem dX11_epoch_54 : decode prog_13_method_26_code 54 = .ok (.iaload, 1) := by decide +kernel
theorem dX11_epoch_55 : decode prog_13_method_26_code 55 = .ok (.iload_n 1, 1) := by decide +kernel
theorem dX11_epoch_56 : decode prog_13_method_26_code 56 = .ok (.if_icmp .eq 9, 3) := by decide +kernel
theorem dX11_epoch_59 : decode prog_13_method_26_code 59 = .ok (.iinc 3 1, 3) := by decide +kernel
theorem dX11_epoch_62 : decode prog_13_method_26_code 62 = .ok (.goto (-31), 3) := by decide +kernel
theorem dX11_epoch_65 : decode prog_13_method_26_code 65 = .ok (.iload_n 3, 1) := by decide +kernel
theorem dX11_epoch_66 : decode prog_13_method_26_code 66 = .ok (.iconst 4, 1) := by decide +kernel
theorem dX11_epoch_67 : decode prog_13_method_26_code 67 = .ok (.if_icmp .ne 10, 3) := by decide +kernel
theorem dX11_epoch_70 : decode prog_13_method_26_code 70 = .ok (.aload_n 0, 1) := by decide +kernel
theorem dX11_epoch_71 : decode prog_13_method_26_code 71 = .ok (.iconst 2, 1) := by decide +kernel
theorem dX11_epoch_72 : decode prog_13_method_26_code 72 = .ok (.iconst 4, 1) := by decide +kernel
theorem dX11_epoch_73 : decode prog_13_method_26_code 73 = .ok (.invokevirtual 84, 3) := by decide +kernel
theorem dX11_epoch_76 : decode prog_13_method_26_code 76 = .ok (.ireturn, 1) := by decide +kernel
theorem dX11_epoch_77 : decode prog_13_method_26_code 77 = .ok (.aload_n 0, 1) := by decide +kernel
theorem dX11_epoch_78 : decode prog_13_method_26_code 78 = .ok (.aload_n 0, 1) := by decide +kernel
theorem dX11_epoch_79 : decode prog_13_method_26_code 79 = .ok (.getfield 7, 3) := by decide +kernel
theorem dX11_epoch_82 : decode prog_13_method_26_code 82 = .ok (.invokevirtual 87, 3) := by decide +kernel
theorem dX11_epoch_85 : decode prog_13_method_26_code 85 = .ok (.aload_n 0, 1) := by decide +kernel
theorem dX11_epoch_86 : decode prog_13_method_26_code 86 = .ok (.getfield 7, 3) := by decide +kernel
theorem dX11_epoch_89 : decode prog_13_method_26_code 89 = .ok (.sipush 216, 3) := by decide +kernel
theorem dX11_epoch_92 : decode prog_13_method_26_code 92 = .ok (.aload_n 0, 1) := by decide +kernel
theorem dX11_epoch_93 : decode prog_13_method_26_code 93 = .ok (.getfield 7, 3) := by decide +kernel
theorem dX11_epoch_96 : decode prog_13_method_26_code 96 = .ok (.sipush 216, 3) := by decide +kernel
theorem dX11_epoch_99 : decode prog_13_method_26_code 99 = .ok (.iaload, 1) := by decide +kernel
theorem dX11_epoch_100 : decode prog_13_method_26_code 100 = .ok (.iload_n 3, 1) := by decide +kernel
theorem dX11_epoch_101 : decode prog_13_method_26_code 101 = .ok (.iconst 1, 1) := by decide +kernel
theorem dX11_epoch_102 : decode prog_13_method_26_code 102 = .ok (.iadd, 1) := by decide +kernel
theorem dX11_epoch_103 : decode prog_13_method_26_code 103 = .ok (.invokestatic 98, 3) := by decide +kernel
theorem dX11_epoch_106 : decode prog_13_method_26_code 106 = .ok (.iastore, 1) := by decide +kernel
theorem dX11_epoch_107 : decode prog_13_method_26_code 107 = .ok (.aload_n 0, 1) := by decide +kernel
theorem dX11_epoch_108 : decode prog_13_method_26_code 108 = .ok (.getfield 7, 3) := by decide +kernel
theorem dX11_epoch_111 : decode prog_13_method_26_code 111 = .ok (.sipush 217, 3) := by decide +kernel
theorem dX11_epoch_114 : decode prog_13_method_26_code 114 = .ok (.iconst 2, 1) := by decide +kernel
theorem dX11_epoch_115 : decode prog_13_method_26_code 115 = .ok (.iload_n 3, 1) := by decide +kernel
theorem dX11_epoch_116 : decode prog_13_method_26_code 116 = .ok (.imul, 1) := by decide +kernel
theorem dX11_epoch_117 : decode prog_13_method_26_code 117 = .ok (.iadd, 1) := by decide +kernel
theorem dX11_epoch_118 : decode prog_13_method_26_code 118 = .ok (.iload_n 1, 1) := by decide +kernel
theorem dX11_epoch_119 : decode prog_13_method_26_code 119 = .ok (.iastore, 1) := by decide +kernel
theorem dX11_epoch_120 : decode prog_13_method_26_code 120 = .ok (.aload_n 0, 1) := by decide +kernel
theorem dX11_epoch_121 : decode prog_13_method_26_code 121 = .ok (.getfield 7, 3) := by decide +kernel
theorem dX11_epoch_124 : decode prog_13_method_26_code 124 = .ok (.sipush 217, 3) := by decide +kernel
theorem dX11_epoch_127 : decode prog_13_method_26_code 127 = .ok (.iconst 2, 1) := by decide +kernel
theorem dX11_epoch_128 : decode prog_13_method_26_code 128 = .ok (.iload_n 3, 1) := by decide +kernel
theorem dX11_epoch_129 : decode prog_13_method_26_code 129 = .ok (.imul, 1) := by decide +kernel
theorem dX11_epoch_130 : decode prog_13_method_26_code 130 = .ok (.iadd, 1) := by decide +kernel
theorem dX11_epoch_131 : decode prog_13_method_26_code 131 = .ok (.iconst 1, 1) := by decide +kernel
theorem dX11_epoch_132 : decode prog_13_method_26_code 132 = .ok (.iadd, 1) := by decide +kernel
theorem dX11_epoch_133 : decode prog_13_method_26_code 133 = .ok (.iload_n 2, 1) := by decide +kernel
theorem dX11_epoch_134 : decode prog_13_method_26_code 134 = .ok (.iastore, 1) := by decide +kernel
theorem dX11_epoch_135 : decode prog_13_method_26_code 135 = .ok (.aload_n 0, 1) := by decide +kernel
theorem dX11_epoch_136 : decode prog_13_method_26_code 136 = .ok (.getfield 7, 3) := by decide +kernel
theorem dX11_epoch_139 : decode prog_13_method_26_code 139 = .ok (.sipush 216, 3) := by decide +kernel
theorem dX11_epoch_142 : decode prog_13_method_26_code 142 = .ok (.iaload, 1) := by decide +kernel
theorem dX11_epoch_143 : decode prog_13_method_26_code 143 = .ok (.ireturn, 1) := by decide +kernel
theorem nX11_chisel : zDs yX11_chisel 0 := ⟨by decide, by decide, by decide +kernel⟩
theorem dX11_chisel_0 : decode prog_13_method_27_code 0 = .ok (.aload_n 0, 1) := by decide +kernel
theorem dX11_chisel_1 : decode prog_13_method_27_code 1 = .ok (.getfield 7, 3) := by decide +kernel
theorem dX11_chisel_4 : decode prog_13_method_27_code 4 = .ok (.sipush 225, 3) := by decide +kernel
theorem dX11_chisel_7 : decode prog_13_method_27_code 7 = .ok (.iaload, 1) := by decide +kernel
theorem dX11_chisel_8 : decode prog_13_method_27_code 8 = .ok (.iconst 3, 1) := by decide +kernel
theorem dX11_chisel_9 : decode prog_13_method_27_code 9 = .ok (.if_icmp .ne 10, 3) := by decide +kernel
theorem dX11_chisel_12 : decode prog_13_method_27_code 12 = .ok (.aload_n 0, 1) := by decide +kernel
theorem dX11_chisel_13 : decode prog_13_method_27_code 13 = .ok (.iconst 2, 1) := by decide +kernel
theorem dX11_chisel_14 : decode prog_13_method_27_code 14 = .ok (.iconst 3, 1) := by decide +kernel
theorem dX11_chisel_15 : decode prog_13_method_27_code 15 = .ok (.invokevirtual 84, 3) := by decide +kernel
theorem dX11_chisel_18 : decode prog_13_method_27_code 18 = .ok (.ireturn, 1) := by decide +kernel
theorem dX11_chisel_19 : decode prog_13_method_27_code 19 = .ok (.aload_n 0, 1) := by decide +kernel
theorem dX11_chisel_20 : decode prog_13_method_27_code 20 = .ok (.aload_n 0, 1) := by decide +kernel
theorem dX11_chisel_21 : decode prog_13_method_27_code 21 = .ok (.getfield 7, 3) := by decide +kernel
theorem dX11_chisel_24 : decode prog_13_method_27_code 24 = .ok (.invokevirtual 87, 3) := by decide +kernel
theorem dX11_chisel_27 : decode prog_13_method_27_code 27 = .ok (.aload_n 0, 1) := by decide +kernel
theorem dX11_chisel_28 : decode prog_13_method_27_code 28 = .ok (.getfield 7, 3) := by decide +kernel
theorem dX11_chisel_31 : decode prog_13_method_27_code 31 = .ok (.sipush 226, 3) := by decide +kernel
theorem dX11_chisel_34 : decode prog_13_method_27_code 34 = .ok (.aload_n 0, 1) := by decide +kernel
theorem dX11_chisel_35 : decode prog_13_method_27_code 35 = .ok (.getfield 7, 3) := by decide +kernel
theorem dX11_chisel_38 : decode prog_13_method_27_code 38 = .ok (.sipush 225, 3) := by decide +kernel
theorem dX11_chisel_41 : decode prog_13_method_27_code 41 = .ok (.iaload, 1) := by decide +kernel
theorem dX11_chisel_42 : decode prog_13_method_27_code 42 = .ok (.iadd, 1) := by decide +kernel
theorem dX11_chisel_43 : decode prog_13_method_27_code 43 = .ok (.bipush 20, 2) := by decide +kernel
theorem dX11_chisel_45 : decode prog_13_method_27_code 45 = .ok (.iastore, 1) := by decide +kernel
theorem dX11_chisel_46 : decode prog_13_method_27_code 46 = .ok (.aload_n 0, 1) := by decide +kernel
theorem dX11_chisel_47 : decode prog_13_method_27_code 47 = .ok (.getfield 7, 3) := by decide +kernel
theorem dX11_chisel_50 : decode prog_13_method_27_code 50 = .ok (.sipush 225, 3) := by decide +kernel
theorem dX11_chisel_53 : decode prog_13_method_27_code 53 = .ok (.dup2, 1) := by decide +kernel
theorem dX11_chisel_54 : decode prog_13_method_27_code 54 = .ok (.iaload, 1) := by decide +kernel
theorem dX11_chisel_55 : decode prog_13_method_27_code 55 = .ok (.iconst 1, 1) := by decide +kernel
theorem dX11_chisel_56 : decode prog_13_method_27_code 56 = .ok (.iadd, 1) := by decide +kernel
theorem dX11_chisel_57 : decode prog_13_method_27_code 57 = .ok (.iastore, 1) := by decide +kernel
theorem dX11_chisel_58 : decode prog_13_method_27_code 58 = .ok (.aload_n 0, 1) := by decide +kernel
theorem dX11_chisel_59 : decode prog_13_method_27_code 59 = .ok (.getfield 7, 3) := by decide +kernel
theorem dX11_chisel_62 : decode prog_13_method_27_code 62 = .ok (.sipush 225, 3) := by decide +kernel
theorem dX11_chisel_65 : decode prog_13_method_27_code 65 = .ok (.iaload, 1) := by decide +kernel
theorem dX11_chisel_66 : decode prog_13_method_27_code 66 = .ok (.iconst 1, 1) := by decide +kernel
theorem dX11_chisel_67 : decode prog_13_method_27_code 67 = .ok (.isub, 1) := by decide +kernel
theorem dX11_chisel_68 : decode prog_13_method_27_code 68 = .ok (.ireturn, 1) := by decide +kernel
theorem nX11_cut : zDs yX11_cut 3 := ⟨by decide, by decide, by decide +kernel⟩
theorem dX11_cut_0 : decode prog_13_method_28_code 0 = .ok (.aload_n 0, 1) := by decide +kernel
theorem dX11_cut_1 : decode prog_13_method_28_code 1 = .ok (.iload_n 1, 1) := by decide +kernel
theorem dX11_cut_2 : decode prog_13_method_28_code 2 = .ok (.invokevirtual 101, 3) := by decide +kernel
theorem dX11_cut_5 : decode prog_13_method_28_code 5 = .ok (.ifCond .ne 10, 3) := by decide +kernel
theorem dX11_cut_8 : decode prog_13_method_28_code 8 = .ok (.aload_n 0, 1) := by decide +kernel
theorem dX11_cut_9 : decode prog_13_method_28_code 9 = .ok (.iconst 3, 1) := by decide +kernel
theorem dX11_cut_10 : decode prog_13_method_28_code 10 = .ok (.iload_n 1, 1) := by decide +kernel
theorem dX11_cut_11 : decode prog_13_method_28_code 11 = .ok (.invokevirtual 84, 3) := by decide +kernel
theorem dX11_cut_14 : decode prog_13_method_28_code 14 = .ok (.ireturn, 1) := by decide +kernel
theorem dX11_cut_15 : decode prog_13_method_28_code 15 = .ok (.aload_n 0, 1) := by decide +kernel
theorem dX11_cut_16 : decode prog_13_method_28_code 16 = .ok (.iload_n 2, 1) := by decide +kernel
theorem dX11_cut_17 : decode prog_13_method_28_code 17 = .ok (.invokevirtual 105, 3) := by decide +kernel
theorem dX11_cut_20 : decode prog_13_method_28_code 20 = .ok (.ifCond .ne 10, 3) := by decide +kernel
theorem dX11_cut_23 : decode prog_13_method_28_code 23 = .ok (.aload_n 0, 1) := by decide +kernel
theorem dX11_cut_24 : decode prog_13_method_28_code 24 = .ok (.iconst 3, 1) := by decide +kernel
theorem dX11_cut_25 : decode prog_13_method_28_code 25 = .ok (.iload_n 2, 1) := by decide +kernel
theorem dX11_cut_26 : decode prog_13_method_28_code 26 = .ok (.invokevirtual 84, 3) := by decide +kernel
theorem dX11_cut_29 : decode prog_13_method_28_code 29 = .ok (.ireturn, 1) := by decide +kernel
theorem dX11_cut_30 : decode prog_13_method_28_code 30 = .ok (.aload_n 0, 1) := by decide +kernel
theorem dX11_cut_31 : decode prog_13_method_28_code 31 = .ok (.iload_n 3, 1) := by decide +kernel
theorem dX11_cut_32 : decode prog_13_method_28_code 32 = .ok (.invokevirtual 108, 3) := by decide +kernel
theorem dX11_cut_35 : decode prog_13_method_28_code 35 = .ok (.ifCond .ne 10, 3) := by decide +kernel
theorem dX11_cut_38 : decode prog_13_method_28_code 38 = .ok (.aload_n 0, 1) := by decide +kernel
theorem dX11_cut_39 : decode prog_13_method_28_code 39 = .ok (.iconst 3, 1) := by decide +kernel
theorem dX11_cut_40 : decode prog_13_method_28_code 40 = .ok (.iload_n 3, 1) := by decide +kernel
theorem dX11_cut_41 : decode prog_13_method_28_code 41 = .ok (.invokevirtual 84, 3) := by decide +kernel
theorem dX11_cut_44 : decode prog_13_method_28_code 44 = .ok (.ireturn, 1) := by decide +kernel
theorem dX11_cut_45 : decode prog_13_method_28_code 45 = .ok (.aload_n 0, 1) := by decide +kernel
theorem dX11_cut_46 : decode prog_13_method_28_code 46 = .ok (.iload_n 1, 1) := by decide +kernel
theorem dX11_cut_47 : decode prog_13_method_28_code 47 = .ok (.iload_n 2, 1) := by decide +kernel
theorem dX11_cut_48 : decode prog_13_method_28_code 48 = .ok (.invokevirtual 111, 3) := by decide +kernel
theorem dX11_cut_51 : decode prog_13_method_28_code 51 = .ok (.istore 4, 2) := by decide +kernel
theorem dX11_cut_53 : decode prog_13_method_28_code 53 = .ok (.aload_n 0, 1) := by decide +kernel
theorem dX11_cut_54 : decode prog_13_method_28_code 54 = .ok (.iload_n 1, 1) := by decide +kernel
theorem dX11_cut_55 : decode prog_13_method_28_code 55 = .ok (.iload_n 2, 1) := by decide +kernel
theorem dX11_cut_56 : decode prog_13_method_28_code 56 = .ok (.invokevirtual 114, 3) := by decide +kernel
theorem dX11_cut_59 : decode prog_13_method_28_code 59 = .ok (.istore 5, 2) := by decide +kernel
theorem dX11_cut_61 : decode prog_13_method_28_code 61 = .ok (.aload_n 0, 1) := by decide +kernel
theorem dX11_cut_62 : decode prog_13_method_28_code 62 = .ok (.getfield 7, 3) := by decide +kernel
theorem dX11_cut_65 : decode prog_13_method_28_code 65 = .ok (.sipush 226, 3) := by decide +kernel
theorem dX11_cut_68 : decode prog_13_method_28_code 68 = .ok (.iload_n 3, 1) := by decide +kernel
theorem dX11_cut_69 : decode prog_13_method_28_code 69 = .ok (.iadd, 1) := by decide +kernel
theorem dX11_cut_70 : decode prog_13_method_28_code 70 = .ok (.iaload, 1) := by decide +kernel
theorem dX11_cut_71 : decode prog_13_method_28_code 71 = .ok (.istore 6, 2) := by decide +kernel
theorem dX11_cut_73 : decode prog_13_method_28_code 73 = .ok (.iload 4, 2) := by decide +kernel
theorem dX11_cut_75 : decode prog_13_method_28_code 75 = .ok (.ifCond .lt 17, 3) := by decide +kernel
theorem dX11_cut_78 : decode prog_13_method_28_code 78 = .ok (.aload_n 0, 1) := by decide +kernel
theorem dX11_cut_79 : decode prog_13_method_28_code 79 = .ok (.iconst 5, 1) := by decide +kernel
theorem dX11_cut_80 : decode prog_13_method_28_code 80 = .ok (.aload_n 0, 1) := by decide +kernel
theorem dX11_cut_81 : decode prog_13_method_28_code 81 = .ok (.iload_n 1, 1) := by decide +kernel
theorem dX11_cut_82 : decode prog_13_method_28_code 82 = .ok (.iload 4, 2) := by decide +kernel
theorem dX11_cut_84 : decode prog_13_method_28_code 84 = .ok (.iconst 1, 1) := by decide +kernel
theorem dX11_cut_85 : decode prog_13_method_28_code 85 = .ok (.invokevirtual 80, 3) := by decide +kernel
theorem dX11_cut_88 : decode prog_13_method_28_code 88 = .ok (.invokevirtual 84, 3) := by decide +kernel
theorem dX11_cut_91 : decode prog_13_method_28_code 91 = .ok (.ireturn, 1) := by decide +kernel
theorem dX11_cut_92 : decode prog_13_method_28_code 92 = .ok (.aload_n 0, 1) := by decide +kernel
theorem dX11_cut_93 : decode prog_13_method_28_code 93 = .ok (.iload_n 1, 1) := by decide +kernel
theorem dX11_cut_94 : decode prog_13_method_28_code 94 = .ok (.iload_n 2, 1) := by decide +kernel
theorem dX11_cut_95 : decode prog_13_method_28_code 95 = .ok (.invokevirtual 73, 3) := by decide +kernel
theorem dX11_cut_98 : decode prog_13_method_28_code 98 = .ok (.iconst 1, 1) := by decide +kernel
theorem dX11_cut_99 : decode prog_13_method_28_code 99 = .ok (.if_icmp .ge 18, 3) := by decide +kernel
theorem dX11_cut_102 : decode prog_13_method_28_code 102 = .ok (.aload_n 0, 1) := by decide +kernel
theorem dX11_cut_103 : decode prog_13_method_28_code 103 = .ok (.bipush 6, 2) := by decide +kernel
theorem dX11_cut_105 : decode prog_13_method_28_code 105 = .ok (.iconst 1, 1) := by decide +kernel
theorem dX11_cut_106 : decode prog_13_method_28_code 106 = .ok (.aload_n 0, 1) := by decide +kernel
theorem dX11_cut_107 : decode prog_13_method_28_code 107 = .ok (.iload_n 1, 1) := by decide +kernel
theorem dX11_cut_108 : decode prog_13_method_28_code 108 = .ok (.iload_n 2, 1) := by decide +kernel
theorem dX11_cut_109 : decode prog_13_method_28_code 109 = .ok (.invokevirtual 73, 3) := by decide +kernel
theorem dX11_cut_112 : decode prog_13_method_28_code 112 = .ok (.isub, 1) := by decide +kernel
theorem dX11_cut_113 : decode prog_13_method_28_code 113 = .ok (.invokevirtual 84, 3) := by decide +kernel
theorem dX11_cut_116 : decode prog_13_method_28_code 116 = .ok (.ireturn, 1) := by decide +kernel
theorem dX11_cut_117 : decode prog_13_method_28_code 117 = .ok (.iload 5, 2) := by decide +kernel
theorem dX11_cut_119 : decode prog_13_method_28_code 119 = .ok (.iconst 0, 1) := by decide +kernel
theorem dX11_cut_120 : decode prog_13_method_28_code 120 = .ok (.bipush 99, 2) := by decide +kernel
theorem dX11_cut_122 : decode prog_13_method_28_code 122 = .ok (.invokestatic 62, 3) := by decide +kernel
theorem dX11_cut_125 : decode prog_13_method_28_code 125 = .ok (.ifCond .ne 12, 3) := by decide +kernel
theorem dX11_cut_128 : decode prog_13_method_28_code 128 = .ok (.aload_n 0, 1) := by decide +kernel
theorem dX11_cut_129 : decode prog_13_method_28_code 129 = .ok (.bipush 7, 2) := by decide +kernel
theorem dX11_cut_131 : decode prog_13_method_28_code 131 = .ok (.iload 5, 2) := by decide +kernel
theorem dX11_cut_133 : decode prog_13_method_28_code 133 = .ok (.invokevirtual 84, 3) := by decide +kernel
theorem dX11_cut_136 : decode prog_13_method_28_code 136 = .ok (.ireturn, 1) := by decide +kernel
theorem dX11_cut_137 : decode prog_13_method_28_code 137 = .ok (.iload 6, 2) := by decide +kernel
theorem dX11_cut_139 : decode prog_13_method_28_code 139 = .ok (.aload_n 0, 1) := by decide +kernel
theorem dX11_cut_140 : decode prog_13_method_28_code 140 = .ok (.iload_n 1, 1) := by decide +kernel
theorem dX11_cut_141 : decode prog_13_method_28_code 141 = .ok (.iconst 2, 1) := by decide +kernel
theorem dX11_cut_142 : decode prog_13_method_28_code 142 = .ok (.invokevirtual 70, 3) := by decide +kernel
theorem dX11_cut_145 : decode prog_13_method_28_code 145 = .ok (.if_icmp .ge 12, 3) := by decide +kernel
theorem dX11_cut_148 : decode prog_13_method_28_code 148 = .ok (.aload_n 0, 1) := by decide +kernel
theorem dX11_cut_149 : decode prog_13_method_28_code 149 = .ok (.bipush 8, 2) := by decide +kernel
theorem dX11_cut_151 : decode prog_13_method_28_code 151 = .ok (.iload 6, 2) := by decide +kernel
theorem dX11_cut_153 : decode prog_13_method_28_code 153 = .ok (.invokevirtual 84, 3) := by decide +kernel
theorem dX11_cut_156 : decode prog_13_method_28_code 156 = .ok (.ireturn, 1) := by decide +kernel
theorem dX11_cut_157 : decode prog_13_method_28_code 157 = .ok (.aload_n 0, 1) := by decide +kernel
theorem dX11_cut_158 : decode prog_13_method_28_code 158 = .ok (.iload_n 1, 1) := by decide +kernel
theorem dX11_cut_159 : decode prog_13_method_28_code 159 = .ok (.iload 5, 2) := by decide +kernel
theorem dX11_cut_161 : decode prog_13_method_28_code 161 = .ok (.invokevirtual 117, 3) := by decide +kernel
theorem dX11_cut_164 : decode prog_13_method_28_code 164 = .ok (.ifCond .lt 23, 3) := by decide +kernel
theorem dX11_cut_167 : decode prog_13_method_28_code 167 = .ok (.aload_n 0, 1) := by decide +kernel
theorem dX11_cut_168 : decode prog_13_method_28_code 168 = .ok (.bipush 9, 2) := by decide +kernel
theorem dX11_cut_170 : decode prog_13_method_28_code 170 = .ok (.aload_n 0, 1) := by decide +kernel
theorem dX11_cut_171 : decode prog_13_method_28_code 171 = .ok (.iload_n 1, 1) := by decide +kernel
theorem dX11_cut_172 : decode prog_13_method_28_code 172 = .ok (.aload_n 0, 1) := by decide +kernel
theorem dX11_cut_173 : decode prog_13_method_28_code 173 = .ok (.iload_n 1, 1) := by decide +kernel
theorem dX11_cut_174 : decode prog_13_method_28_code 174 = .ok (.iload 5, 2) := by decide +kernel
theorem dX11_cut_176 : decode prog_13_method_28_code 176 = .ok (.invokevirtual 117, 3) := by decide +kernel
theorem dX11_cut_179 : decode prog_13_method_28_code 179 = .ok (.iconst 0, 1) := by decide +kernel
theorem dX11_cut_180 : decode prog_13_method_28_code 180 = .ok (.invokevirtual 80, 3) := by decide +kernel
theorem dX11_cut_183 : decode prog_13_method_28_code 183 = .ok (.invokevirtual 84, 3) := by decide +kernel
theorem dX11_cut_186 : decode prog_13_method_28_code 186 = .ok (.ireturn, 1) := by decide +kernel
theorem dX11_cut_187 : decode prog_13_method_28_code 187 = .ok (.aload_n 0, 1) := by decide +kernel
theorem dX11_cut_188 : decode prog_13_method_28_code 188 = .ok (.iload_n 1, 1) := by decide +kernel
theorem dX11_cut_189 : decode prog_13_method_28_code 189 = .ok (.iconst 4, 1) := by decide +kernel
theorem dX11_cut_190 : decode prog_13_method_28_code 190 = .ok (.invokevirtual 70, 3) := by decide +kernel
theorem dX11_cut_193 : decode prog_13_method_28_code 193 = .ok (.bipush 6, 2) := by decide +kernel
theorem dX11_cut_195 : decode prog_13_method_28_code 195 = .ok (.if_icmp .ne 11, 3) := by decide +kernel
theorem dX11_cut_198 : decode prog_13_method_28_code 198 = .ok (.aload_n 0, 1) := by decide +kernel
theorem dX11_cut_199 : decode prog_13_method_28_code 199 = .ok (.iconst 2, 1) := by decide +kernel
theorem dX11_cut_200 : decode prog_13_method_28_code 200 = .ok (.bipush 6, 2) := by decide +kernel
theorem dX11_cut_202 : decode prog_13_method_28_code 202 = .ok (.invokevirtual 84, 3) := by decide +kernel
theorem dX11_cut_205 : decode prog_13_method_28_code 205 = .ok (.ireturn, 1) := by decide +kernel
theorem dX11_cut_206 : decode prog_13_method_28_code 206 = .ok (.aload_n 0, 1) := by decide +kernel
theorem dX11_cut_207 : decode prog_13_method_28_code 207 = .ok (.aload_n 0, 1) := by decide +kernel
theorem dX11_cut_208 : decode prog_13_method_28_code 208 = .ok (.getfield 7, 3) := by decide +kernel
theorem dX11_cut_211 : decode prog_13_method_28_code 211 = .ok (.invokevirtual 87, 3) := by decide +kernel
theorem dX11_cut_214 : decode prog_13_method_28_code 214 = .ok (.iconst 5, 1) := by decide +kernel
theorem dX11_cut_215 : decode prog_13_method_28_code 215 = .ok (.bipush 29, 2) := by decide +kernel
theorem dX11_cut_217 : decode prog_13_method_28_code 217 = .ok (.iload_n 1, 1) := by decide +kernel
theorem dX11_cut_218 : decode prog_13_method_28_code 218 = .ok (.imul, 1) := by decide +kernel
theorem dX11_cut_219 : decode prog_13_method_28_code 219 = .ok (.iadd, 1) := by decide +kernel
theorem dX11_cut_220 : decode prog_13_method_28_code 220 = .ok (.iconst 5, 1) := by decide +kernel
theorem dX11_cut_221 : decode prog_13_method_28_code 221 = .ok (.iadd, 1) := by decide +kernel
theorem dX11_cut_222 : decode prog_13_method_28_code 222 = .ok (.iconst 4, 1) := by decide +kernel
theorem dX11_cut_223 : decode prog_13_method_28_code 223 = .ok (.aload_n 0, 1) := by decide +kernel
theorem dX11_cut_224 : decode prog_13_method_28_code 224 = .ok (.iload_n 1, 1) := by decide +kernel
theorem dX11_cut_225 : decode prog_13_method_28_code 225 = .ok (.iconst 4, 1) := by decide +kernel
theorem dX11_cut_226 : decode prog_13_method_28_code 226 = .ok (.invokevirtual 70, 3) := by decide +kernel
theorem dX11_cut_229 : decode prog_13_method_28_code 229 = .ok (.imul, 1) := by decide +kernel
theorem dX11_cut_230 : decode prog_13_method_28_code 230 = .ok (.iadd, 1) := by decide +kernel
theorem dX11_cut_231 : decode prog_13_method_28_code 231 = .ok (.istore 7, 2) := by decide +kernel
theorem dX11_cut_233 : decode prog_13_method_28_code 233 = .ok (.aload_n 0, 1) := by decide +kernel
theorem dX11_cut_234 : decode prog_13_method_28_code 234 = .ok (.getfield 7, 3) := by decide +kernel
theorem dX11_cut_237 : decode prog_13_method_28_code 237 = .ok (.iload 7, 2) := by decide +kernel
theorem dX11_cut_239 : decode prog_13_method_28_code 239 = .ok (.iload_n 2, 1) := by decide +kernel
theorem dX11_cut_240 : decode prog_13_method_28_code 240 = .ok (.iastore, 1) := by decide +kernel
theorem dX11_cut_241 : decode prog_13_method_28_code 241 = .ok (.aload_n 0, 1) := by decide +kernel
theorem dX11_cut_242 : decode prog_13_method_28_code 242 = .ok (.getfield 7, 3) := by decide +kernel
theorem dX11_cut_245 : decode prog_13_method_28_code 245 = .ok (.iload 7, 2) := by decide +kernel
theorem dX11_cut_247 : decode prog_13_method_28_code 247 = .ok (.iconst 1, 1) := by decide +kernel
theorem dX11_cut_248 : decode prog_13_method_28_code 248 = .ok (.iadd, 1) := by decide +kernel
theorem dX11_cut_249 : decode prog_13_method_28_code 249 = .ok (.iload 5, 2) := by decide +kernel
theorem dX11_cut_251 : decode prog_13_method_28_code 251 = .ok (.iastore, 1) := by decide +kernel
theorem dX11_cut_252 : decode prog_13_method_28_code 252 = .ok (.aload_n 0, 1) := by decide +kernel
theorem dX11_cut_253 : decode prog_13_method_28_code 253 = .ok (.getfield 7, 3) := by decide +kernel
theorem dX11_cut_256 : decode prog_13_method_28_code 256 = .ok (.iload 7, 2) := by decide +kernel
theorem dX11_cut_258 : decode prog_13_method_28_code 258 = .ok (.iconst 2, 1) := by decide +kernel
theorem dX11_cut_259 : decode prog_13_method_28_code 259 = .ok (.iadd, 1) := by decide +kernel
theorem dX11_cut_260 : decode prog_13_method_28_code 260 = .ok (.iload 6, 2) := by decide +kernel
theorem dX11_cut_262 : decode prog_13_method_28_code 262 = .ok (.iconst 2, 1) := by decide +kernel
theorem dX11_cut_263 : decode prog_13_method_28_code 263 = .ok (.idiv, 1) := by decide +kernel
theorem dX11_cut_264 : decode prog_13_method_28_code 264 = .ok (.iconst 1, 1) := by decide +kernel
theorem dX11_cut_265 : decode prog_13_method_28_code 265 = .ok (.iadd, 1) := by decide +kernel
theorem dX11_cut_266 : decode prog_13_method_28_code 266 = .ok (.iastore, 1) := by decide +kernel
theorem dX11_cut_267 : decode prog_13_method_28_code 267 = .ok (.aload_n 0, 1) := by decide +kernel
theorem dX11_cut_268 : decode prog_13_method_28_code 268 = .ok (.getfield 7, 3) := by decide +kernel
theorem dX11_cut_271 : decode prog_13_method_28_code 271 = .ok (.iload 7, 2) := by decide +kernel
theorem dX11_cut_273 : decode prog_13_method_28_code 273 = .ok (.iconst 3, 1) := by decide +kernel
theorem dX11_cut_274 : decode prog_13_method_28_code 274 = .ok (.iadd, 1) := by decide +kernel
theorem dX11_cut_275 : decode prog_13_method_28_code 275 = .ok (.aload_n 0, 1) := by decide +kernel
theorem dX11_cut_276 : decode prog_13_method_28_code 276 = .ok (.getfield 7, 3) := by decide +kernel
theorem dX11_cut_279 : decode prog_13_method_28_code 279 = .ok (.iconst 0, 1) := by decide +kernel
theorem dX11_cut_280 : decode prog_13_method_28_code 280 = .ok (.iaload, 1) := by decide +kernel
theorem dX11_cut_281 : decode prog_13_method_28_code 281 = .ok (.iastore, 1) := by decide +kernel
theorem dX11_cut_282 : decode prog_13_method_28_code 282 = .ok (.aload_n 0, 1) := by decide +kernel
theorem dX11_cut_283 : decode prog_13_method_28_code 283 = .ok (.iload_n 1, 1) := by decide +kernel
theorem dX11_cut_284 : decode prog_13_method_28_code 284 = .ok (.iconst 4, 1) := by decide +kernel
theorem dX11_cut_285 : decode prog_13_method_28_code 285 = .ok (.aload_n 0, 1) := by decide +kernel
theorem dX11_cut_286 : decode prog_13_method_28_code 286 = .ok (.iload_n 1, 1) := by decide +kernel
theorem dX11_cut_287 : decode prog_13_method_28_code 287 = .ok (.iconst 4, 1) := by decide +kernel
theorem dX11_cut_288 : decode prog_13_method_28_code 288 = .ok (.invokevirtual 70, 3) := by decide +kernel
theorem dX11_cut_291 : decode prog_13_method_28_code 291 = .ok (.iconst 1, 1) := by decide +kernel
theorem dX11_cut_292 : decode prog_13_method_28_code 292 = .ok (.iadd, 1) := by decide +kernel
theorem dX11_cut_293 : decode prog_13_method_28_code 293 = .ok (.invokevirtual 91, 3) := by decide +kernel
theorem dX11_cut_296 : decode prog_13_method_28_code 296 = .ok (.aload_n 0, 1) := by decide +kernel
theorem dX11_cut_297 : decode prog_13_method_28_code 297 = .ok (.getfield 7, 3) := by decide +kernel
theorem dX11_cut_300 : decode prog_13_method_28_code 300 = .ok (.sipush 226, 3) := by decide +kernel
theorem dX11_cut_303 : decode prog_13_method_28_code 303 = .ok (.iload_n 3, 1) := by decide +kernel
theorem dX11_cut_304 : decode prog_13_method_28_code 304 = .ok (.iadd, 1) := by decide +kernel
theorem dX11_cut_305 : decode prog_13_method_28_code 305 = .ok (.iload 6, 2) := by decide +kernel
theorem dX11_cut_307 : decode prog_13_method_28_code 307 = .ok (.aload_n 0, 1) := by decide +kernel
theorem dX11_cut_308 : decode prog_13_method_28_code 308 = .ok (.iload_n 1, 1) := by decide +kernel
theorem dX11_cut_309 : decode prog_13_method_28_code 309 = .ok (.iconst 2, 1) := by decide +kernel
theorem dX11_cut_310 : decode prog_13_method_28_code 310 = .ok (.invokevirtual 70, 3) := by decide +kernel
theorem dX11_cut_313 : decode prog_13_method_28_code 313 = .ok (.isub, 1) := by decide +kernel
theorem dX11_cut_314 : decode prog_13_method_28_code 314 = .ok (.iastore, 1) := by decide +kernel
theorem dX11_cut_315 : decode prog_13_method_28_code 315 = .ok (.aload_n 0, 1) := by decide +kernel
theorem dX11_cut_316 : decode prog_13_method_28_code 316 = .ok (.getfield 7, 3) := by decide +kernel
theorem dX11_cut_319 : decode prog_13_method_28_code 319 = .ok (.iconst 1, 1) := by decide +kernel
theorem dX11_cut_320 : decode prog_13_method_28_code 320 = .ok (.dup2, 1) := by decide +kernel
theorem dX11_cut_321 : decode prog_13_method_28_code 321 = .ok (.iaload, 1) := by decide +kernel
theorem dX11_cut_322 : decode prog_13_method_28_code 322 = .ok (.iconst 1, 1) := by decide +kernel
theorem dX11_cut_323 : decode prog_13_method_28_code 323 = .ok (.iadd, 1) := by decide +kernel
theorem dX11_cut_324 : decode prog_13_method_28_code 324 = .ok (.iastore, 1) := by decide +kernel
theorem dX11_cut_325 : decode prog_13_method_28_code 325 = .ok (.iload 5, 2) := by decide +kernel
theorem dX11_cut_327 : decode prog_13_method_28_code 327 = .ok (.ireturn, 1) := by decide +kernel
theorem nX11_drops : zDs yX11_drops 2 := ⟨by decide, by decide, by decide +kernel⟩
theorem dX11_drops_0 : decode prog_13_method_29_code 0 = .ok (.aload_n 0, 1) := by decide +kernel
theorem dX11_drops_1 : decode prog_13_method_29_code 1 = .ok (.iload_n 1, 1) := by decide +kernel
theorem dX11_drops_2 : decode prog_13_method_29_code 2 = .ok (.iconst 4, 1) := by decide +kernel
theorem dX11_drops_3 : decode prog_13_method_29_code 3 = .ok (.invokevirtual 70, 3) := by decide +kernel
theorem dX11_drops_6 : decode prog_13_method_29_code 6 = .ok (.iconst 1, 1) := by decide +kernel
theorem dX11_drops_7 : decode prog_13_method_29_code 7 = .ok (.isub, 1) := by decide +kernel
theorem dX11_drops_8 : decode prog_13_method_29_code 8 = .ok (.istore_n 3, 1) := by decide +kernel
theorem dX11_drops_9 : decode prog_13_method_29_code 9 = .ok (.iconst 4, 1) := by decide +kernel
theorem dX11_drops_10 : decode prog_13_method_29_code 10 = .ok (.iload_n 2, 1) := by decide +kernel
theorem dX11_drops_11 : decode prog_13_method_29_code 11 = .ok (.imul, 1) := by decide +kernel
theorem dX11_drops_12 : decode prog_13_method_29_code 12 = .ok (.istore 4, 2) := by decide +kernel
theorem dX11_drops_14 : decode prog_13_method_29_code 14 = .ok (.iload 4, 2) := by decide +kernel
theorem dX11_drops_16 : decode prog_13_method_29_code 16 = .ok (.iconst 4, 1) := by decide +kernel
theorem dX11_drops_17 : decode prog_13_method_29_code 17 = .ok (.iload_n 3, 1) := by decide +kernel
theorem dX11_drops_18 : decode prog_13_method_29_code 18 = .ok (.imul, 1) := by decide +kernel
theorem dX11_drops_19 : decode prog_13_method_29_code 19 = .ok (.if_icmp .ge 29, 3) := by decide +kernel
theorem dX11_drops_22 : decode prog_13_method_29_code 22 = .ok (.aload_n 0, 1) := by decide +kernel
theorem dX11_drops_23 : decode prog_13_method_29_code 23 = .ok (.iload_n 1, 1) := by decide +kernel
theorem dX11_drops_24 : decode prog_13_method_29_code 24 = .ok (.iconst 5, 1) := by decide +kernel
theorem dX11_drops_25 : decode prog_13_method_29_code 25 = .ok (.iload 4, 2) := by decide +kernel
theorem dX11_drops_27 : decode prog_13_method_29_code 27 = .ok (.iadd, 1) := by decide +kernel
theorem dX11_drops_28 : decode prog_13_method_29_code 28 = .ok (.aload_n 0, 1) := by decide +kernel
theorem dX11_drops_29 : decode prog_13_method_29_code 29 = .ok (.iload_n 1, 1) := by decide +kernel
theorem dX11_drops_30 : decode prog_13_method_29_code 30 = .ok (.iconst 5, 1) := by decide +kernel
theorem dX11_drops_31 : decode prog_13_method_29_code 31 = .ok (.iload 4, 2) := by decide +kernel
theorem dX11_drops_33 : decode prog_13_method_29_code 33 = .ok (.iadd, 1) := by decide +kernel
theorem dX11_drops_34 : decode prog_13_method_29_code 34 = .ok (.iconst 4, 1) := by decide +kernel
theorem dX11_drops_35 : decode prog_13_method_29_code 35 = .ok (.iadd, 1) := by decide +kernel
theorem dX11_drops_36 : decode prog_13_method_29_code 36 = .ok (.invokevirtual 70, 3) := by decide +kernel
theorem dX11_drops_39 : decode prog_13_method_29_code 39 = .ok (.invokevirtual 91, 3) := by decide +kernel
theorem dX11_drops_42 : decode prog_13_method_29_code 42 = .ok (.iinc 4 1, 3) := by decide +kernel
theorem dX11_drops_45 : decode prog_13_method_29_code 45 = .ok (.goto (-31), 3) := by decide +kernel
theorem dX11_drops_48 : decode prog_13_method_29_code 48 = .ok (.aload_n 0, 1) := by decide +kernel
theorem dX11_drops_49 : decode prog_13_method_29_code 49 = .ok (.iload_n 1, 1) := by decide +kernel
theorem dX11_drops_50 : decode prog_13_method_29_code 50 = .ok (.iconst 4, 1) := by decide +kernel
theorem dX11_drops_51 : decode prog_13_method_29_code 51 = .ok (.iload_n 3, 1) := by decide +kernel
theorem dX11_drops_52 : decode prog_13_method_29_code 52 = .ok (.invokevirtual 91, 3) := by decide +kernel
theorem dX11_drops_55 : decode prog_13_method_29_code 55 = .ok (.return_, 1) := by decide +kernel
theorem nX11_efface : zDs yX11_efface 2 := ⟨by decide, by decide, by decide +kernel⟩
theorem dX11_efface_0 : decode prog_13_method_30_code 0 = .ok (.aload_n 0, 1) := by decide +kernel
theorem dX11_efface_1 : decode prog_13_method_30_code 1 = .ok (.iload_n 1, 1) := by decide +kernel
theorem dX11_efface_2 : decode prog_13_method_30_code 2 = .ok (.invokevirtual 101, 3) := by decide +kernel
theorem dX11_efface_5 : decode prog_13_method_30_code 5 = .ok (.ifCond .ne 10, 3) := by decide +kernel
theorem dX11_efface_8 : decode prog_13_method_30_code 8 = .ok (.aload_n 0, 1) := by decide +kernel
theorem dX11_efface_9 : decode prog_13_method_30_code 9 = .ok (.iconst 3, 1) := by decide +kernel
theorem dX11_efface_10 : decode prog_13_method_30_code 10 = .ok (.iload_n 1, 1) := by decide +kernel
theorem dX11_efface_11 : decode prog_13_method_30_code 11 = .ok (.invokevirtual 84, 3) := by decide +kernel
theorem dX11_efface_14 : decode prog_13_method_30_code 14 = .ok (.ireturn, 1) := by decide +kernel
theorem dX11_efface_15 : decode prog_13_method_30_code 15 = .ok (.aload_n 0, 1) := by decide +kernel
theorem dX11_efface_16 : decode prog_13_method_30_code 16 = .ok (.iload_n 2, 1) := by decide +kernel
theorem dX11_efface_17 : decode prog_13_method_30_code 17 = .ok (.invokevirtual 105, 3) := by decide +kernel
theorem dX11_efface_20 : decode prog_13_method_30_code 20 = .ok (.ifCond .ne 10, 3) := by decide +kernel
theorem dX11_efface_23 : decode prog_13_method_30_code 23 = .ok (.aload_n 0, 1) := by decide +kernel
theorem dX11_efface_24 : decode prog_13_method_30_code 24 = .ok (.iconst 3, 1) := by decide +kernel
theorem dX11_efface_25 : decode prog_13_method_30_code 25 = .ok (.iload_n 2, 1) := by decide +kernel
theorem dX11_efface_26 : decode prog_13_method_30_code 26 = .ok (.invokevirtual 84, 3) := by decide +kernel
theorem dX11_efface_29 : decode prog_13_method_30_code 29 = .ok (.ireturn, 1) := by decide +kernel
theorem dX11_efface_30 : decode prog_13_method_30_code 30 = .ok (.aload_n 0, 1) := by decide +kernel
theorem dX11_efface_31 : decode prog_13_method_30_code 31 = .ok (.iload_n 1, 1) := by decide +kernel
theorem dX11_efface_32 : decode prog_13_method_30_code 32 = .ok (.iload_n 2, 1) := by decide +kernel
theorem dX11_efface_33 : decode prog_13_method_30_code 33 = .ok (.invokevirtual 111, 3) := by decide +kernel
theorem dX11_efface_36 : decode prog_13_method_30_code 36 = .ok (.istore_n 3, 1) := by decide +kernel
theorem dX11_efface_37 : decode prog_13_method_30_code 37 = .ok (.iload_n 3, 1) := by decide +kernel
theorem dX11_efface_38 : decode prog_13_method_30_code 38 = .ok (.ifCond .ge 11, 3) := by decide +kernel
theorem dX11_efface_41 : decode prog_13_method_30_code 41 = .ok (.aload_n 0, 1) := by decide +kernel
theorem dX11_efface_42 : decode prog_13_method_30_code 42 = .ok (.bipush 10, 2) := by decide +kernel
theorem dX11_efface_44 : decode prog_13_method_30_code 44 = .ok (.iload_n 2, 1) := by decide +kernel
theorem dX11_efface_45 : decode prog_13_method_30_code 45 = .ok (.invokevirtual 84, 3) := by decide +kernel
theorem dX11_efface_48 : decode prog_13_method_30_code 48 = .ok (.ireturn, 1) := by decide +kernel
theorem dX11_efface_49 : decode prog_13_method_30_code 49 = .ok (.aload_n 0, 1) := by decide +kernel
theorem dX11_efface_50 : decode prog_13_method_30_code 50 = .ok (.aload_n 0, 1) := by decide +kernel
theorem dX11_efface_51 : decode prog_13_method_30_code 51 = .ok (.getfield 7, 3) := by decide +kernel
theorem dX11_efface_54 : decode prog_13_method_30_code 54 = .ok (.invokevirtual 87, 3) := by decide +kernel
theorem dX11_efface_57 : decode prog_13_method_30_code 57 = .ok (.aload_n 0, 1) := by decide +kernel
theorem dX11_efface_58 : decode prog_13_method_30_code 58 = .ok (.iload_n 1, 1) := by decide +kernel
theorem dX11_efface_59 : decode prog_13_method_30_code 59 = .ok (.iload_n 3, 1) := by decide +kernel
theorem dX11_efface_60 : decode prog_13_method_30_code 60 = .ok (.iconst 1, 1) := by decide +kernel
theorem dX11_efface_61 : decode prog_13_method_30_code 61 = .ok (.invokevirtual 80, 3) := by decide +kernel
theorem dX11_efface_64 : decode prog_13_method_30_code 64 = .ok (.istore 4, 2) := by decide +kernel
theorem dX11_efface_66 : decode prog_13_method_30_code 66 = .ok (.aload_n 0, 1) := by decide +kernel
theorem dX11_efface_67 : decode prog_13_method_30_code 67 = .ok (.iload_n 1, 1) := by decide +kernel
theorem dX11_efface_68 : decode prog_13_method_30_code 68 = .ok (.iload_n 3, 1) := by decide +kernel
theorem dX11_efface_69 : decode prog_13_method_30_code 69 = .ok (.invokevirtual 120, 3) := by decide +kernel
theorem dX11_efface_72 : decode prog_13_method_30_code 72 = .ok (.aload_n 0, 1) := by decide +kernel
theorem dX11_efface_73 : decode prog_13_method_30_code 73 = .ok (.getfield 7, 3) := by decide +kernel
theorem dX11_efface_76 : decode prog_13_method_30_code 76 = .ok (.iconst 2, 1) := by decide +kernel
theorem dX11_efface_77 : decode prog_13_method_30_code 77 = .ok (.dup2, 1) := by decide +kernel
theorem dX11_efface_78 : decode prog_13_method_30_code 78 = .ok (.iaload, 1) := by decide +kernel
theorem dX11_efface_79 : decode prog_13_method_30_code 79 = .ok (.iconst 1, 1) := by decide +kernel
theorem dX11_efface_80 : decode prog_13_method_30_code 80 = .ok (.iadd, 1) := by decide +kernel
theorem dX11_efface_81 : decode prog_13_method_30_code 81 = .ok (.iastore, 1) := by decide +kernel
theorem dX11_efface_82 : decode prog_13_method_30_code 82 = .ok (.iload 4, 2) := by decide +kernel
theorem dX11_efface_84 : decode prog_13_method_30_code 84 = .ok (.ireturn, 1) := by decide +kernel
theorem nX11_sharpen : zDs yX11_sharpen 1 := ⟨by decide, by decide, by decide +kernel⟩
theorem dX11_sharpen_0 : decode prog_13_method_31_code 0 = .ok (.aload_n 0, 1) := by decide +kernel
theorem dX11_sharpen_1 : decode prog_13_method_31_code 1 = .ok (.iload_n 1, 1) := by decide +kernel
theorem dX11_sharpen_2 : decode prog_13_method_31_code 2 = .ok (.invokevirtual 108, 3) := by decide +kernel
theorem dX11_sharpen_5 : decode prog_13_method_31_code 5 = .ok (.ifCond .ne 10, 3) := by decide +kernel
theorem dX11_sharpen_8 : decode prog_13_method_31_code 8 = .ok (.aload_n 0, 1) := by decide +kernel
theorem dX11_sharpen_9 : decode prog_13_method_31_code 9 = .ok (.iconst 3, 1) := by decide +kernel
theorem dX11_sharpen_10 : decode prog_13_method_31_code 10 = .ok (.iload_n 1, 1) := by decide +kernel
theorem dX11_sharpen_11 : decode prog_13_method_31_code 11 = .ok (.invokevirtual 84, 3) := by decide +kernel
theorem dX11_sharpen_14 : decode prog_13_method_31_code 14 = .ok (.ireturn, 1) := by decide +kernel
theorem dX11_sharpen_15 : decode prog_13_method_31_code 15 = .ok (.aload_n 0, 1) := by decide +kernel
theorem dX11_sharpen_16 : decode prog_13_method_31_code 16 = .ok (.aload_n 0, 1) := by decide +kernel
theorem dX11_sharpen_17 : decode prog_13_method_31_code 17 = .ok (.getfield 7, 3) := by decide +kernel
theorem dX11_sharpen_20 : decode prog_13_method_31_code 20 = .ok (.invokevirtual 87, 3) := by decide +kernel
theorem dX11_sharpen_23 : decode prog_13_method_31_code 23 = .ok (.aload_n 0, 1) := by decide +kernel
theorem dX11_sharpen_24 : decode prog_13_method_31_code 24 = .ok (.getfield 7, 3) := by decide +kernel
theorem dX11_sharpen_27 : decode prog_13_method_31_code 27 = .ok (.sipush 226, 3) := by decide +kernel
theorem dX11_sharpen_30 : decode prog_13_method_31_code 30 = .ok (.iload_n 1, 1) := by decide +kernel
theorem dX11_sharpen_31 : decode prog_13_method_31_code 31 = .ok (.iadd, 1) := by decide +kernel
theorem dX11_sharpen_32 : decode prog_13_method_31_code 32 = .ok (.iaload, 1) := by decide +kernel
theorem dX11_sharpen_33 : decode prog_13_method_31_code 33 = .ok (.istore_n 2, 1) := by decide +kernel
theorem dX11_sharpen_34 : decode prog_13_method_31_code 34 = .ok (.aload_n 0, 1) := by decide +kernel
theorem dX11_sharpen_35 : decode prog_13_method_31_code 35 = .ok (.getfield 7, 3) := by decide +kernel
theorem dX11_sharpen_38 : decode prog_13_method_31_code 38 = .ok (.sipush 226, 3) := by decide +kernel
theorem dX11_sharpen_41 : decode prog_13_method_31_code 41 = .ok (.iload_n 1, 1) := by decide +kernel
theorem dX11_sharpen_42 : decode prog_13_method_31_code 42 = .ok (.iadd, 1) := by decide +kernel
theorem dX11_sharpen_43 : decode prog_13_method_31_code 43 = .ok (.bipush 20, 2) := by decide +kernel
theorem dX11_sharpen_45 : decode prog_13_method_31_code 45 = .ok (.iastore, 1) := by decide +kernel
theorem dX11_sharpen_46 : decode prog_13_method_31_code 46 = .ok (.iload_n 2, 1) := by decide +kernel
theorem dX11_sharpen_47 : decode prog_13_method_31_code 47 = .ok (.ireturn, 1) := by decide +kernel
theorem nX11_check : zDs yX11_check 1 := ⟨by decide, by decide, by decide +kernel⟩
theorem dX11_check_0 : decode prog_13_method_32_code 0 = .ok (.aload_n 0, 1) := by decide +kernel
theorem dX11_check_1 : decode prog_13_method_32_code 1 = .ok (.iload_n 1, 1) := by decide +kernel
theorem dX11_check_2 : decode prog_13_method_32_code 2 = .ok (.invokevirtual 101, 3) := by decide +kernel
theorem dX11_check_5 : decode prog_13_method_32_code 5 = .ok (.ifCond .ne 10, 3) := by decide +kernel
theorem dX11_check_8 : decode prog_13_method_32_code 8 = .ok (.aload_n 0, 1) := by decide +kernel
theorem dX11_check_9 : decode prog_13_method_32_code 9 = .ok (.iconst 3, 1) := by decide +kernel
theorem dX11_check_10 : decode prog_13_method_32_code 10 = .ok (.iload_n 1, 1) := by decide +kernel
theorem dX11_check_11 : decode prog_13_method_32_code 11 = .ok (.invokevirtual 84, 3) := by decide +kernel
theorem dX11_check_14 : decode prog_13_method_32_code 14 = .ok (.ireturn, 1) := by decide +kernel
theorem dX11_check_15 : decode prog_13_method_32_code 15 = .ok (.aload_n 0, 1) := by decide +kernel
theorem dX11_check_16 : decode prog_13_method_32_code 16 = .ok (.aload_n 0, 1) := by decide +kernel
theorem dX11_check_17 : decode prog_13_method_32_code 17 = .ok (.getfield 7, 3) := by decide +kernel
theorem dX11_check_20 : decode prog_13_method_32_code 20 = .ok (.invokevirtual 87, 3) := by decide +kernel
theorem dX11_check_23 : decode prog_13_method_32_code 23 = .ok (.aload_n 0, 1) := by decide +kernel
theorem dX11_check_24 : decode prog_13_method_32_code 24 = .ok (.iload_n 1, 1) := by decide +kernel
theorem dX11_check_25 : decode prog_13_method_32_code 25 = .ok (.iconst 3, 1) := by decide +kernel
theorem dX11_check_26 : decode prog_13_method_32_code 26 = .ok (.invokevirtual 70, 3) := by decide +kernel
theorem dX11_check_29 : decode prog_13_method_32_code 29 = .ok (.istore_n 2, 1) := by decide +kernel
theorem dX11_check_30 : decode prog_13_method_32_code 30 = .ok (.aload_n 0, 1) := by decide +kernel
theorem dX11_check_31 : decode prog_13_method_32_code 31 = .ok (.iload_n 1, 1) := by decide +kernel
theorem dX11_check_32 : decode prog_13_method_32_code 32 = .ok (.iconst 3, 1) := by decide +kernel
theorem dX11_check_33 : decode prog_13_method_32_code 33 = .ok (.iconst 0, 1) := by decide +kernel
theorem dX11_check_34 : decode prog_13_method_32_code 34 = .ok (.invokevirtual 91, 3) := by decide +kernel
theorem dX11_check_37 : decode prog_13_method_32_code 37 = .ok (.iload_n 2, 1) := by decide +kernel
theorem dX11_check_38 : decode prog_13_method_32_code 38 = .ok (.ireturn, 1) := by decide +kernel
theorem nX11_witness : zDs yX11_witness 2 := ⟨by decide, by decide, by decide +kernel⟩
theorem dX11_witness_0 : decode prog_13_method_33_code 0 = .ok (.aload_n 0, 1) := by decide +kernel
theorem dX11_witness_1 : decode prog_13_method_33_code 1 = .ok (.iload_n 1, 1) := by decide +kernel
theorem dX11_witness_2 : decode prog_13_method_33_code 2 = .ok (.invokevirtual 105, 3) := by decide +kernel
theorem dX11_witness_5 : decode prog_13_method_33_code 5 = .ok (.ifCond .ne 10, 3) := by decide +kernel
theorem dX11_witness_8 : decode prog_13_method_33_code 8 = .ok (.aload_n 0, 1) := by decide +kernel
theorem dX11_witness_9 : decode prog_13_method_33_code 9 = .ok (.iconst 3, 1) := by decide +kernel
theorem dX11_witness_10 : decode prog_13_method_33_code 10 = .ok (.iload_n 1, 1) := by decide +kernel
theorem dX11_witness_11 : decode prog_13_method_33_code 11 = .ok (.invokevirtual 84, 3) := by decide +kernel
theorem dX11_witness_14 : decode prog_13_method_33_code 14 = .ok (.ireturn, 1) := by decide +kernel
theorem dX11_witness_15 : decode prog_13_method_33_code 15 = .ok (.iload_n 2, 1) := by decide +kernel
theorem dX11_witness_16 : decode prog_13_method_33_code 16 = .ok (.iconst 1, 1) := by decide +kernel
theorem dX11_witness_17 : decode prog_13_method_33_code 17 = .ok (.bipush 9, 2) := by decide +kernel
theorem dX11_witness_19 : decode prog_13_method_33_code 19 = .ok (.invokestatic 62, 3) := by decide +kernel
theorem dX11_witness_22 : decode prog_13_method_33_code 22 = .ok (.ifCond .ne 10, 3) := by decide +kernel
theorem dX11_witness_25 : decode prog_13_method_33_code 25 = .ok (.aload_n 0, 1) := by decide +kernel
theorem dX11_witness_26 : decode prog_13_method_33_code 26 = .ok (.iconst 1, 1) := by decide +kernel
theorem dX11_witness_27 : decode prog_13_method_33_code 27 = .ok (.iconst 0, 1) := by decide +kernel
theorem dX11_witness_28 : decode prog_13_method_33_code 28 = .ok (.invokevirtual 84, 3) := by decide +kernel
theorem dX11_witness_31 : decode prog_13_method_33_code 31 = .ok (.ireturn, 1) := by decide +kernel
theorem dX11_witness_32 : decode prog_13_method_33_code 32 = .ok (.aload_n 0, 1) := by decide +kernel
theorem dX11_witness_33 : decode prog_13_method_33_code 33 = .ok (.iload_n 1, 1) := by decide +kernel
theorem dX11_witness_34 : decode prog_13_method_33_code 34 = .ok (.iconst 2, 1) := by decide +kernel
theorem dX11_witness_35 : decode prog_13_method_33_code 35 = .ok (.invokevirtual 66, 3) := by decide +kernel
theorem dX11_witness_38 : decode prog_13_method_33_code 38 = .ok (.iload_n 2, 1) := by decide +kernel
theorem dX11_witness_39 : decode prog_13_method_33_code 39 = .ok (.iadd, 1) := by decide +kernel
theorem dX11_witness_40 : decode prog_13_method_33_code 40 = .ok (.bipush 99, 2) := by decide +kernel
theorem dX11_witness_42 : decode prog_13_method_33_code 42 = .ok (.if_icmp .le 11, 3) := by decide +kernel
theorem dX11_witness_45 : decode prog_13_method_33_code 45 = .ok (.aload_n 0, 1) := by decide +kernel
theorem dX11_witness_46 : decode prog_13_method_33_code 46 = .ok (.iconst 2, 1) := by decide +kernel
theorem dX11_witness_47 : decode prog_13_method_33_code 47 = .ok (.bipush 99, 2) := by decide +kernel
theorem dX11_witness_49 : decode prog_13_method_33_code 49 = .ok (.invokevirtual 84, 3) := by decide +kernel
theorem dX11_witness_52 : decode prog_13_method_33_code 52 = .ok (.ireturn, 1) := by decide +kernel
theorem dX11_witness_53 : decode prog_13_method_33_code 53 = .ok (.aload_n 0, 1) := by decide +kernel
theorem dX11_witness_54 : decode prog_13_method_33_code 54 = .ok (.aload_n 0, 1) := by decide +kernel
theorem dX11_witness_55 : decode prog_13_method_33_code 55 = .ok (.getfield 7, 3) := by decide +kernel
theorem dX11_witness_58 : decode prog_13_method_33_code 58 = .ok (.invokevirtual 87, 3) := by decide +kernel
theorem dX11_witness_61 : decode prog_13_method_33_code 61 = .ok (.aload_n 0, 1) := by decide +kernel
theorem dX11_witness_62 : decode prog_13_method_33_code 62 = .ok (.getfield 7, 3) := by decide +kernel
theorem dX11_witness_65 : decode prog_13_method_33_code 65 = .ok (.sipush 180, 3) := by decide +kernel
theorem dX11_witness_68 : decode prog_13_method_33_code 68 = .ok (.iconst 3, 1) := by decide +kernel
theorem dX11_witness_69 : decode prog_13_method_33_code 69 = .ok (.iload_n 1, 1) := by decide +kernel
theorem dX11_witness_70 : decode prog_13_method_33_code 70 = .ok (.imul, 1) := by decide +kernel
theorem dX11_witness_71 : decode prog_13_method_33_code 71 = .ok (.iadd, 1) := by decide +kernel
theorem dX11_witness_72 : decode prog_13_method_33_code 72 = .ok (.iconst 2, 1) := by decide +kernel
theorem dX11_witness_73 : decode prog_13_method_33_code 73 = .ok (.iadd, 1) := by decide +kernel
theorem dX11_witness_74 : decode prog_13_method_33_code 74 = .ok (.dup2, 1) := by decide +kernel
theorem dX11_witness_75 : decode prog_13_method_33_code 75 = .ok (.iaload, 1) := by decide +kernel
theorem dX11_witness_76 : decode prog_13_method_33_code 76 = .ok (.iload_n 2, 1) := by decide +kernel
theorem dX11_witness_77 : decode prog_13_method_33_code 77 = .ok (.iadd, 1) := by decide +kernel
theorem dX11_witness_78 : decode prog_13_method_33_code 78 = .ok (.iastore, 1) := by decide +kernel
theorem dX11_witness_79 : decode prog_13_method_33_code 79 = .ok (.aload_n 0, 1) := by decide +kernel
theorem dX11_witness_80 : decode prog_13_method_33_code 80 = .ok (.iload_n 1, 1) := by decide +kernel
theorem dX11_witness_81 : decode prog_13_method_33_code 81 = .ok (.iconst 2, 1) := by decide +kernel
theorem dX11_witness_82 : decode prog_13_method_33_code 82 = .ok (.invokevirtual 66, 3) := by decide +kernel
theorem dX11_witness_85 : decode prog_13_method_33_code 85 = .ok (.ireturn, 1) := by decide +kernel
theorem nX11_errs : zDs yX11_errs 1 := ⟨by decide, by decide, by decide +kernel⟩
theorem dX11_errs_0 : decode prog_13_method_34_code 0 = .ok (.iload_n 0, 1) := by decide +kernel
theorem dX11_errs_1 : decode prog_13_method_34_code 1 = .ok (.ifCond .ge 14, 3) := by decide +kernel
theorem dX11_errs_4 : decode prog_13_method_34_code 4 = .ok (.bipush (-9), 2) := by decide +kernel
theorem dX11_errs_6 : decode prog_13_method_34_code 6 = .ok (.iload_n 0, 1) := by decide +kernel
theorem dX11_errs_7 : decode prog_13_method_34_code 7 = .ok (.iconst 1, 1) := by decide +kernel
theorem dX11_errs_8 : decode prog_13_method_34_code 8 = .ok (.isub, 1) := by decide +kernel
theorem dX11_errs_9 : decode prog_13_method_34_code 9 = .ok (.invokestatic 98, 3) := by decide +kernel
theorem dX11_errs_12 : decode prog_13_method_34_code 12 = .ok (.goto 11, 3) := by decide +kernel
theorem dX11_errs_15 : decode prog_13_method_34_code 15 = .ok (.bipush 9, 2) := by decide +kernel
theorem dX11_errs_17 : decode prog_13_method_34_code 17 = .ok (.iload_n 0, 1) := by decide +kernel
theorem dX11_errs_18 : decode prog_13_method_34_code 18 = .ok (.iconst 1, 1) := by decide +kernel
theorem dX11_errs_19 : decode prog_13_method_34_code 19 = .ok (.iadd, 1) := by decide +kernel
theorem dX11_errs_20 : decode prog_13_method_34_code 20 = .ok (.invokestatic 124, 3) := by decide +kernel
theorem dX11_errs_23 : decode prog_13_method_34_code 23 = .ok (.ireturn, 1) := by decide +kernel
theorem nX11_weathers : zDs yX11_weathers 1 := ⟨by decide, by decide, by decide +kernel⟩
theorem dX11_weathers_0 : decode prog_13_method_35_code 0 = .ok (.iconst 0, 1) := by decide +kernel
theorem dX11_weathers_1 : decode prog_13_method_35_code 1 = .ok (.istore_n 2, 1) := by decide +kernel
theorem dX11_weathers_2 : decode prog_13_method_35_code 2 = .ok (.aload_n 0, 1) := by decide +kernel
theorem dX11_weathers_3 : decode prog_13_method_35_code 3 = .ok (.iload_n 1, 1) := by decide +kernel
theorem dX11_weathers_4 : decode prog_13_method_35_code 4 = .ok (.iconst 4, 1) := by decide +kernel
theorem dX11_weathers_5 : decode prog_13_method_35_code 5 = .ok (.invokevirtual 70, 3) := by decide +kernel
theorem dX11_weathers_8 : decode prog_13_method_35_code 8 = .ok (.iconst 1, 1) := by decide +kernel
theorem dX11_weathers_9 : decode prog_13_method_35_code 9 = .ok (.isub, 1) := by decide +kernel
theorem dX11_weathers_10 : decode prog_13_method_35_code 10 = .ok (.istore_n 3, 1) := by decide +kernel
theorem dX11_weathers_11 : decode prog_13_method_35_code 11 = .ok (.iload_n 3, 1) := by decide +kernel
theorem dX11_weathers_12 : decode prog_13_method_35_code 12 = .ok (.ifCond .lt 54, 3) := by decide +kernel
theorem dX11_weathers_15 : decode prog_13_method_35_code 15 = .ok (.aload_n 0, 1) := by decide +kernel
theorem dX11_weathers_16 : decode prog_13_method_35_code 16 = .ok (.getfield 7, 3) := by decide +kernel
theorem dX11_weathers_19 : decode prog_13_method_35_code 19 = .ok (.iconst 5, 1) := by decide +kernel
theorem dX11_weathers_20 : decode prog_13_method_35_code 20 = .ok (.bipush 29, 2) := by decide +kernel
theorem dX11_weathers_22 : decode prog_13_method_35_code 22 = .ok (.iload_n 1, 1) := by decide +kernel
theorem dX11_weathers_23 : decode prog_13_method_35_code 23 = .ok (.imul, 1) := by decide +kernel
theorem dX11_weathers_24 : decode prog_13_method_35_code 24 = .ok (.iadd, 1) := by decide +kernel
theorem dX11_weathers_25 : decode prog_13_method_35_code 25 = .ok (.iconst 5, 1) := by decide +kernel
theorem dX11_weathers_26 : decode prog_13_method_35_code 26 = .ok (.iadd, 1) := by decide +kernel
theorem dX11_weathers_27 : decode prog_13_method_35_code 27 = .ok (.iconst 4, 1) := by decide +kernel
theorem dX11_weathers_28 : decode prog_13_method_35_code 28 = .ok (.iload_n 3, 1) := by decide +kernel
theorem dX11_weathers_29 : decode prog_13_method_35_code 29 = .ok (.imul, 1) := by decide +kernel
theorem dX11_weathers_30 : decode prog_13_method_35_code 30 = .ok (.iadd, 1) := by decide +kernel
theorem dX11_weathers_31 : decode prog_13_method_35_code 31 = .ok (.iconst 2, 1) := by decide +kernel
theorem dX11_weathers_32 : decode prog_13_method_35_code 32 = .ok (.iadd, 1) := by decide +kernel
theorem dX11_weathers_33 : decode prog_13_method_35_code 33 = .ok (.dup2, 1) := by decide +kernel
theorem dX11_weathers_34 : decode prog_13_method_35_code 34 = .ok (.iaload, 1) := by decide +kernel
theorem dX11_weathers_35 : decode prog_13_method_35_code 35 = .ok (.iconst 1, 1) := by decide +kernel
theorem dX11_weathers_36 : decode prog_13_method_35_code 36 = .ok (.isub, 1) := by decide +kernel
theorem dX11_weathers_37 : decode prog_13_method_35_code 37 = .ok (.iastore, 1) := by decide +kernel
theorem dX11_weathers_38 : decode prog_13_method_35_code 38 = .ok (.aload_n 0, 1) := by decide +kernel
theorem dX11_weathers_39 : decode prog_13_method_35_code 39 = .ok (.iload_n 1, 1) := by decide +kernel
theorem dX11_weathers_40 : decode prog_13_method_35_code 40 = .ok (.iload_n 3, 1) := by decide +kernel
theorem dX11_weathers_41 : decode prog_13_method_35_code 41 = .ok (.iconst 2, 1) := by decide +kernel
theorem dX11_weathers_42 : decode prog_13_method_35_code 42 = .ok (.invokevirtual 80, 3) := by decide +kernel
theorem dX11_weathers_45 : decode prog_13_method_35_code 45 = .ok (.ifCond .le 6, 3) := by decide +kernel
theorem dX11_weathers_48 : decode prog_13_method_35_code 48 = .ok (.goto 12, 3) := by decide +kernel
theorem dX11_weathers_51 : decode prog_13_method_35_code 51 = .ok (.aload_n 0, 1) := by decide +kernel
theorem dX11_weathers_52 : decode prog_13_method_35_code 52 = .ok (.iload_n 1, 1) := by decide +kernel
theorem dX11_weathers_53 : decode prog_13_method_35_code 53 = .ok (.iload_n 3, 1) := by decide +kernel
theorem dX11_weathers_54 : decode prog_13_method_35_code 54 = .ok (.invokevirtual 120, 3) := by decide +kernel
theorem dX11_weathers_57 : decode prog_13_method_35_code 57 = .ok (.iinc 2 1, 3) := by decide +kernel
theorem dX11_weathers_60 : decode prog_13_method_35_code 60 = .ok (.iinc 3 (-1), 3) := by decide +kernel
theorem dX11_weathers_63 : decode prog_13_method_35_code 63 = .ok (.goto (-52), 3) := by decide +kernel
theorem dX11_weathers_66 : decode prog_13_method_35_code 66 = .ok (.iload_n 2, 1) := by decide +kernel
theorem dX11_weathers_67 : decode prog_13_method_35_code 67 = .ok (.ireturn, 1) := by decide +kernel
theorem nX11_yearGoes : zDs yX11_yearGoes 0 := ⟨by decide, by decide, by decide +kernel⟩
theorem dX11_yearGoes_0 : decode prog_13_method_36_code 0 = .ok (.aload_n 0, 1) := by decide +kernel
theorem dX11_yearGoes_1 : decode prog_13_method_36_code 1 = .ok (.getfield 7, 3) := by decide +kernel
theorem dX11_yearGoes_4 : decode prog_13_method_36_code 4 = .ok (.iconst 0, 1) := by decide +kernel
theorem dX11_yearGoes_5 : decode prog_13_method_36_code 5 = .ok (.dup2, 1) := by decide +kernel
theorem dX11_yearGoes_6 : decode prog_13_method_36_code 6 = .ok (.iaload, 1) := by decide +kernel
theorem dX11_yearGoes_7 : decode prog_13_method_36_code 7 = .ok (.iconst 1, 1) := by decide +kernel
theorem dX11_yearGoes_8 : decode prog_13_method_36_code 8 = .ok (.iadd, 1) := by decide +kernel
theorem dX11_yearGoes_9 : decode prog_13_method_36_code 9 = .ok (.iastore, 1) := by decide +kernel
theorem dX11_yearGoes_10 : decode prog_13_method_36_code 10 = .ok (.iconst 0, 1) := by decide +kernel
theorem dX11_yearGoes_11 : decode prog_13_method_36_code 11 = .ok (.istore_n 1, 1) := by decide +kernel
theorem dX11_yearGoes_12 : decode prog_13_method_36_code 12 = .ok (.iconst 0, 1) := by decide +kernel
theorem dX11_yearGoes_13 : decode prog_13_method_36_code 13 = .ok (.istore_n 2, 1) := by decide +kernel
theorem dX11_yearGoes_14 : decode prog_13_method_36_code 14 = .ok (.iload_n 2, 1) := by decide +kernel
theorem dX11_yearGoes_15 : decode prog_13_method_36_code 15 = .ok (.aload_n 0, 1) := by decide +kernel
theorem dX11_yearGoes_16 : decode prog_13_method_36_code 16 = .ok (.getfield 7, 3) := by decide +kernel
theorem dX11_yearGoes_19 : decode prog_13_method_36_code 19 = .ok (.iconst 4, 1) := by decide +kernel
theorem dX11_yearGoes_20 : decode prog_13_method_36_code 20 = .ok (.iaload, 1) := by decide +kernel
theorem dX11_yearGoes_21 : decode prog_13_method_36_code 21 = .ok (.if_icmp .ge 58, 3) := by decide +kernel
theorem dX11_yearGoes_24 : decode prog_13_method_36_code 24 = .ok (.aload_n 0, 1) := by decide +kernel
theorem dX11_yearGoes_25 : decode prog_13_method_36_code 25 = .ok (.getfield 7, 3) := by decide +kernel
theorem dX11_yearGoes_28 : decode prog_13_method_36_code 28 = .ok (.iconst 0, 1) := by decide +kernel
theorem dX11_yearGoes_29 : decode prog_13_method_36_code 29 = .ok (.iaload, 1) := by decide +kernel
theorem dX11_yearGoes_30 : decode prog_13_method_36_code 30 = .ok (.iconst 3, 1) := by decide +kernel
theorem dX11_yearGoes_31 : decode prog_13_method_36_code 31 = .ok (.irem, 1) := by decide +kernel
theorem dX11_yearGoes_32 : decode prog_13_method_36_code 32 = .ok (.ifCond .ne 18, 3) := by decide +kernel
theorem dX11_yearGoes_35 : decode prog_13_method_36_code 35 = .ok (.aload_n 0, 1) := by decide +kernel
theorem dX11_yearGoes_36 : decode prog_13_method_36_code 36 = .ok (.iload_n 2, 1) := by decide +kernel
theorem dX11_yearGoes_37 : decode prog_13_method_36_code 37 = .ok (.iconst 3, 1) := by decide +kernel
theorem dX11_yearGoes_38 : decode prog_13_method_36_code 38 = .ok (.aload_n 0, 1) := by decide +kernel
theorem dX11_yearGoes_39 : decode prog_13_method_36_code 39 = .ok (.iload_n 2, 1) := by decide +kernel
theorem dX11_yearGoes_40 : decode prog_13_method_36_code 40 = .ok (.iconst 3, 1) := by decide +kernel
theorem dX11_yearGoes_41 : decode prog_13_method_36_code 41 = .ok (.invokevirtual 70, 3) := by decide +kernel
theorem dX11_yearGoes_44 : decode prog_13_method_36_code 44 = .ok (.invokestatic 127, 3) := by decide +kernel
theorem dX11_yearGoes_47 : decode prog_13_method_36_code 47 = .ok (.invokevirtual 91, 3) := by decide +kernel
theorem dX11_yearGoes_50 : decode prog_13_method_36_code 50 = .ok (.iload_n 1, 1) := by decide +kernel
theorem dX11_yearGoes_51 : decode prog_13_method_36_code 51 = .ok (.aload_n 0, 1) := by decide +kernel
theorem dX11_yearGoes_52 : decode prog_13_method_36_code 52 = .ok (.getfield 7, 3) := by decide +kernel
theorem dX11_yearGoes_55 : decode prog_13_method_36_code 55 = .ok (.iconst 0, 1) := by decide +kernel
theorem dX11_yearGoes_56 : decode prog_13_method_36_code 56 = .ok (.iaload, 1) := by decide +kernel
theorem dX11_yearGoes_57 : decode prog_13_method_36_code 57 = .ok (.iconst 5, 1) := by decide +kernel
theorem dX11_yearGoes_58 : decode prog_13_method_36_code 58 = .ok (.irem, 1) := by decide +kernel
theorem dX11_yearGoes_59 : decode prog_13_method_36_code 59 = .ok (.ifCond .ne 11, 3) := by decide +kernel
theorem dX11_yearGoes_62 : decode prog_13_method_36_code 62 = .ok (.aload_n 0, 1) := by decide +kernel
theorem dX11_yearGoes_63 : decode prog_13_method_36_code 63 = .ok (.iload_n 2, 1) := by decide +kernel
theorem dX11_yearGoes_64 : decode prog_13_method_36_code 64 = .ok (.invokevirtual 130, 3) := by decide +kernel
theorem dX11_yearGoes_67 : decode prog_13_method_36_code 67 = .ok (.goto 4, 3) := by decide +kernel
theorem dX11_yearGoes_70 : decode prog_13_method_36_code 70 = .ok (.iconst 0, 1) := by decide +kernel
theorem dX11_yearGoes_71 : decode prog_13_method_36_code 71 = .ok (.iadd, 1) := by decide +kernel
theorem dX11_yearGoes_72 : decode prog_13_method_36_code 72 = .ok (.istore_n 1, 1) := by decide +kernel
theorem dX11_yearGoes_73 : decode prog_13_method_36_code 73 = .ok (.iinc 2 1, 3) := by decide +kernel
theorem dX11_yearGoes_76 : decode prog_13_method_36_code 76 = .ok (.goto (-62), 3) := by decide +kernel
theorem dX11_yearGoes_79 : decode prog_13_method_36_code 79 = .ok (.aload_n 0, 1) := by decide +kernel
theorem dX11_yearGoes_80 : decode prog_13_method_36_code 80 = .ok (.getfield 7, 3) := by decide +kernel
theorem dX11_yearGoes_83 : decode prog_13_method_36_code 83 = .ok (.iconst 3, 1) := by decide +kernel
theorem dX11_yearGoes_84 : decode prog_13_method_36_code 84 = .ok (.dup2, 1) := by decide +kernel
theorem dX11_yearGoes_85 : decode prog_13_method_36_code 85 = .ok (.iaload, 1) := by decide +kernel
theorem dX11_yearGoes_86 : decode prog_13_method_36_code 86 = .ok (.iload_n 1, 1) := by decide +kernel
theorem dX11_yearGoes_87 : decode prog_13_method_36_code 87 = .ok (.iadd, 1) := by decide +kernel
theorem dX11_yearGoes_88 : decode prog_13_method_36_code 88 = .ok (.iastore, 1) := by decide +kernel
theorem dX11_yearGoes_89 : decode prog_13_method_36_code 89 = .ok (.iload_n 1, 1) := by decide +kernel
theorem dX11_yearGoes_90 : decode prog_13_method_36_code 90 = .ok (.ireturn, 1) := by decide +kernel
theorem nX11_years : zDs yX11_years 1 := ⟨by decide, by decide, by decide +kernel⟩
theorem dX11_years_0 : decode prog_13_method_37_code 0 = .ok (.iload_n 1, 1) := by decide +kernel
theorem dX11_years_1 : decode prog_13_method_37_code 1 = .ok (.iconst 1, 1) := by decide +kernel
theorem dX11_years_2 : decode prog_13_method_37_code 2 = .ok (.bipush 60, 2) := by decide +kernel
theorem dX11_years_4 : decode prog_13_method_37_code 4 = .ok (.invokestatic 62, 3) := by decide +kernel
theorem dX11_years_7 : decode prog_13_method_37_code 7 = .ok (.ifCond .ne 10, 3) := by decide +kernel
theorem dX11_years_10 : decode prog_13_method_37_code 10 = .ok (.aload_n 0, 1) := by decide +kernel
theorem dX11_years_11 : decode prog_13_method_37_code 11 = .ok (.iconst 1, 1) := by decide +kernel
theorem dX11_years_12 : decode prog_13_method_37_code 12 = .ok (.iconst 0, 1) := by decide +kernel
theorem dX11_years_13 : decode prog_13_method_37_code 13 = .ok (.invokevirtual 84, 3) := by decide +kernel
theorem dX11_years_16 : decode prog_13_method_37_code 16 = .ok (.ireturn, 1) := by decide +kernel
theorem dX11_years_17 : decode prog_13_method_37_code 17 = .ok (.aload_n 0, 1) := by decide +kernel
theorem dX11_years_18 : decode prog_13_method_37_code 18 = .ok (.aload_n 0, 1) := by decide +kernel
theorem dX11_years_19 : decode prog_13_method_37_code 19 = .ok (.getfield 7, 3) := by decide +kernel
theorem dX11_years_22 : decode prog_13_method_37_code 22 = .ok (.invokevirtual 87, 3) := by decide +kernel
theorem dX11_years_25 : decode prog_13_method_37_code 25 = .ok (.iconst 0, 1) := by decide +kernel
theorem dX11_years_26 : decode prog_13_method_37_code 26 = .ok (.istore_n 2, 1) := by decide +kernel
theorem dX11_years_27 : decode prog_13_method_37_code 27 = .ok (.iconst 0, 1) := by decide +kernel
theorem dX11_years_28 : decode prog_13_method_37_code 28 = .ok (.istore_n 3, 1) := by decide +kernel
theorem dX11_years_29 : decode prog_13_method_37_code 29 = .ok (.iload_n 3, 1) := by decide +kernel
theorem dX11_years_30 : decode prog_13_method_37_code 30 = .ok (.iload_n 1, 1) := by decide +kernel
theorem dX11_years_31 : decode prog_13_method_37_code 31 = .ok (.if_icmp .ge 16, 3) := by decide +kernel
theorem dX11_years_34 : decode prog_13_method_37_code 34 = .ok (.iload_n 2, 1) := by decide +kernel
theorem dX11_years_35 : decode prog_13_method_37_code 35 = .ok (.aload_n 0, 1) := by decide +kernel
theorem dX11_years_36 : decode prog_13_method_37_code 36 = .ok (.invokevirtual 133, 3) := by decide +kernel
theorem dX11_years_39 : decode prog_13_method_37_code 39 = .ok (.iadd, 1) := by decide +kernel
theorem dX11_years_40 : decode prog_13_method_37_code 40 = .ok (.istore_n 2, 1) := by decide +kernel
theorem dX11_years_41 : decode prog_13_method_37_code 41 = .ok (.iinc 3 1, 3) := by decide +kernel
theorem dX11_years_44 : decode prog_13_method_37_code 44 = .ok (.goto (-15), 3) := by decide +kernel
theorem dX11_years_47 : decode prog_13_method_37_code 47 = .ok (.iload_n 2, 1) := by decide +kernel
theorem dX11_years_48 : decode prog_13_method_37_code 48 = .ok (.ireturn, 1) := by decide +kernel
theorem nX11_areInDoubt : zDs yX11_areInDoubt 3 := ⟨by decide, by decide, by decide +kernel⟩
theorem dX11_areInDoubt_0 : decode prog_13_method_38_code 0 = .ok (.aload_n 0, 1) := by decide +kernel
theorem dX11_areInDoubt_1 : decode prog_13_method_38_code 1 = .ok (.aload_n 0, 1) := by decide +kernel
theorem dX11_areInDoubt_2 : decode prog_13_method_38_code 2 = .ok (.iload_n 1, 1) := by decide +kernel
theorem dX11_areInDoubt_3 : decode prog_13_method_38_code 3 = .ok (.iload_n 2, 1) := by decide +kernel
theorem dX11_areInDoubt_4 : decode prog_13_method_38_code 4 = .ok (.iconst 0, 1) := by decide +kernel
theorem dX11_areInDoubt_5 : decode prog_13_method_38_code 5 = .ok (.invokevirtual 80, 3) := by decide +kernel
theorem dX11_areInDoubt_8 : decode prog_13_method_38_code 8 = .ok (.iconst 1, 1) := by decide +kernel
theorem dX11_areInDoubt_9 : decode prog_13_method_38_code 9 = .ok (.invokevirtual 66, 3) := by decide +kernel
theorem dX11_areInDoubt_12 : decode prog_13_method_38_code 12 = .ok (.aload_n 0, 1) := by decide +kernel
theorem dX11_areInDoubt_13 : decode prog_13_method_38_code 13 = .ok (.aload_n 0, 1) := by decide +kernel
theorem dX11_areInDoubt_14 : decode prog_13_method_38_code 14 = .ok (.iload_n 1, 1) := by decide +kernel
theorem dX11_areInDoubt_15 : decode prog_13_method_38_code 15 = .ok (.iload_n 3, 1) := by decide +kernel
theorem dX11_areInDoubt_16 : decode prog_13_method_38_code 16 = .ok (.iconst 0, 1) := by decide +kernel
theorem dX11_areInDoubt_17 : decode prog_13_method_38_code 17 = .ok (.invokevirtual 80, 3) := by decide +kernel
theorem dX11_areInDoubt_20 : decode prog_13_method_38_code 20 = .ok (.iconst 1, 1) := by decide +kernel
theorem dX11_areInDoubt_21 : decode prog_13_method_38_code 21 = .ok (.invokevirtual 66, 3) := by decide +kernel
theorem dX11_areInDoubt_24 : decode prog_13_method_38_code 24 = .ok (.isub, 1) := by decide +kernel
theorem dX11_areInDoubt_25 : decode prog_13_method_38_code 25 = .ok (.istore 4, 2) := by decide +kernel
theorem dX11_areInDoubt_27 : decode prog_13_method_38_code 27 = .ok (.aload_n 0, 1) := by decide +kernel
theorem dX11_areInDoubt_28 : decode prog_13_method_38_code 28 = .ok (.iload_n 1, 1) := by decide +kernel
theorem dX11_areInDoubt_29 : decode prog_13_method_38_code 29 = .ok (.iload_n 2, 1) := by decide +kernel
theorem dX11_areInDoubt_30 : decode prog_13_method_38_code 30 = .ok (.invokevirtual 137, 3) := by decide +kernel
theorem dX11_areInDoubt_33 : decode prog_13_method_38_code 33 = .ok (.aload_n 0, 1) := by decide +kernel
theorem dX11_areInDoubt_34 : decode prog_13_method_38_code 34 = .ok (.iload_n 1, 1) := by decide +kernel
theorem dX11_areInDoubt_35 : decode prog_13_method_38_code 35 = .ok (.iload_n 3, 1) := by decide +kernel
theorem dX11_areInDoubt_36 : decode prog_13_method_38_code 36 = .ok (.invokevirtual 137, 3) := by decide +kernel
theorem dX11_areInDoubt_39 : decode prog_13_method_38_code 39 = .ok (.isub, 1) := by decide +kernel
theorem dX11_areInDoubt_40 : decode prog_13_method_38_code 40 = .ok (.istore 5, 2) := by decide +kernel
theorem dX11_areInDoubt_42 : decode prog_13_method_38_code 42 = .ok (.iload 4, 2) := by decide +kernel
theorem dX11_areInDoubt_44 : decode prog_13_method_38_code 44 = .ok (.ifCond .ne 14, 3) := by decide +kernel
theorem dX11_areInDoubt_47 : decode prog_13_method_38_code 47 = .ok (.iload 5, 2) := by decide +kernel
theorem dX11_areInDoubt_49 : decode prog_13_method_38_code 49 = .ok (.ifCond .eq 7, 3) := by decide +kernel
theorem dX11_areInDoubt_52 : decode prog_13_method_38_code 52 = .ok (.iconst 1, 1) := by decide +kernel
theorem dX11_areInDoubt_53 : decode prog_13_method_38_code 53 = .ok (.goto 4, 3) := by decide +kernel
theorem dX11_areInDoubt_56 : decode prog_13_method_38_code 56 = .ok (.iconst 0, 1) := by decide +kernel
theorem dX11_areInDoubt_57 : decode prog_13_method_38_code 57 = .ok (.ireturn, 1) := by decide +kernel
theorem dX11_areInDoubt_58 : decode prog_13_method_38_code 58 = .ok (.iload 4, 2) := by decide +kernel
theorem dX11_areInDoubt_60 : decode prog_13_method_38_code 60 = .ok (.ifCond .le 16, 3) := by decide +kernel
theorem dX11_areInDoubt_63 : decode prog_13_method_38_code 63 = .ok (.iload 5, 2) := by decide +kernel
theorem dX11_areInDoubt_65 : decode prog_13_method_38_code 65 = .ok (.ifCond .gt 7, 3) := by decide +kernel
theorem dX11_areInDoubt_68 : decode prog_13_method_38_code 68 = .ok (.iconst 1, 1) := by decide +kernel
theorem dX11_areInDoubt_69 : decode prog_13_method_38_code 69 = .ok (.goto 17, 3) := by decide +kernel
theorem dX11_areInDoubt_72 : decode prog_13_method_38_code 72 = .ok (.iconst 0, 1) := by decide +kernel
theorem dX11_areInDoubt_73 : decode prog_13_method_38_code 73 = .ok (.goto 13, 3) := by decide +kernel
theorem dX11_areInDoubt_76 : decode prog_13_method_38_code 76 = .ok (.iload 5, 2) := by decide +kernel
theorem dX11_areInDoubt_78 : decode prog_13_method_38_code 78 = .ok (.ifCond .lt 7, 3) := by decide +kernel
theorem dX11_areInDoubt_81 : decode prog_13_method_38_code 81 = .ok (.iconst 1, 1) := by decide +kernel
theorem dX11_areInDoubt_82 : decode prog_13_method_38_code 82 = .ok (.goto 4, 3) := by decide +kernel
theorem dX11_areInDoubt_85 : decode prog_13_method_38_code 85 = .ok (.iconst 0, 1) := by decide +kernel
theorem dX11_areInDoubt_86 : decode prog_13_method_38_code 86 = .ok (.ireturn, 1) := by decide +kernel
theorem nX11_doubtsOf : zDs yX11_doubtsOf 2 := ⟨by decide, by decide, by decide +kernel⟩
theorem dX11_doubtsOf_0 : decode prog_13_method_39_code 0 = .ok (.iconst 0, 1) := by decide +kernel
theorem dX11_doubtsOf_1 : decode prog_13_method_39_code 1 = .ok (.istore_n 3, 1) := by decide +kernel
theorem dX11_doubtsOf_2 : decode prog_13_method_39_code 2 = .ok (.iconst 0, 1) := by decide +kernel
theorem dX11_doubtsOf_3 : decode prog_13_method_39_code 3 = .ok (.istore 4, 2) := by decide +kernel
theorem dX11_doubtsOf_5 : decode prog_13_method_39_code 5 = .ok (.iload 4, 2) := by decide +kernel
theorem dX11_doubtsOf_7 : decode prog_13_method_39_code 7 = .ok (.aload_n 0, 1) := by decide +kernel
theorem dX11_doubtsOf_8 : decode prog_13_method_39_code 8 = .ok (.iload_n 1, 1) := by decide +kernel
theorem dX11_doubtsOf_9 : decode prog_13_method_39_code 9 = .ok (.iconst 4, 1) := by decide +kernel
theorem dX11_doubtsOf_10 : decode prog_13_method_39_code 10 = .ok (.invokevirtual 70, 3) := by decide +kernel
theorem dX11_doubtsOf_13 : decode prog_13_method_39_code 13 = .ok (.if_icmp .ge 34, 3) := by decide +kernel
theorem dX11_doubtsOf_16 : decode prog_13_method_39_code 16 = .ok (.iload_n 3, 1) := by decide +kernel
theorem dX11_doubtsOf_17 : decode prog_13_method_39_code 17 = .ok (.iload 4, 2) := by decide +kernel
theorem dX11_doubtsOf_19 : decode prog_13_method_39_code 19 = .ok (.iload_n 2, 1) := by decide +kernel
theorem dX11_doubtsOf_20 : decode prog_13_method_39_code 20 = .ok (.if_icmp .eq 18, 3) := by decide +kernel
theorem dX11_doubtsOf_23 : decode prog_13_method_39_code 23 = .ok (.aload_n 0, 1) := by decide +kernel
theorem dX11_doubtsOf_24 : decode prog_13_method_39_code 24 = .ok (.iload_n 1, 1) := by decide +kernel
theorem dX11_doubtsOf_25 : decode prog_13_method_39_code 25 = .ok (.iload_n 2, 1) := by decide +kernel
theorem dX11_doubtsOf_26 : decode prog_13_method_39_code 26 = .ok (.iload 4, 2) := by decide +kernel
theorem dX11_doubtsOf_28 : decode prog_13_method_39_code 28 = .ok (.invokevirtual 140, 3) := by decide +kernel
theorem dX11_doubtsOf_31 : decode prog_13_method_39_code 31 = .ok (.ifCond .eq 7, 3) := by decide +kernel
theorem dX11_doubtsOf_34 : decode prog_13_method_39_code 34 = .ok (.iconst 1, 1) := by decide +kernel
theorem dX11_doubtsOf_35 : decode prog_13_method_39_code 35 = .ok (.goto 4, 3) := by decide +kernel
theorem dX11_doubtsOf_38 : decode prog_13_method_39_code 38 = .ok (.iconst 0, 1) := by decide +kernel
theorem dX11_doubtsOf_39 : decode prog_13_method_39_code 39 = .ok (.iadd, 1) := by decide +kernel
theorem dX11_doubtsOf_40 : decode prog_13_method_39_code 40 = .ok (.istore_n 3, 1) := by decide +kernel
theorem dX11_doubtsOf_41 : decode prog_13_method_39_code 41 = .ok (.iinc 4 1, 3) := by decide +kernel
theorem dX11_doubtsOf_44 : decode prog_13_method_39_code 44 = .ok (.goto (-39), 3) := by decide +kernel
theorem dX11_doubtsOf_47 : decode prog_13_method_39_code 47 = .ok (.iload_n 3, 1) := by decide +kernel
theorem dX11_doubtsOf_48 : decode prog_13_method_39_code 48 = .ok (.ireturn, 1) := by decide +kernel
theorem nX11_doubtsOn : zDs yX11_doubtsOn 1 := ⟨by decide, by decide, by decide +kernel⟩
theorem dX11_doubtsOn_0 : decode prog_13_method_40_code 0 = .ok (.iconst 0, 1) := by decide +kernel
theorem dX11_doubtsOn_1 : decode prog_13_method_40_code 1 = .ok (.istore_n 2, 1) := by decide +kernel
theorem dX11_doubtsOn_2 : decode prog_13_method_40_code 2 = .ok (.iconst 0, 1) := by decide +kernel
theorem dX11_doubtsOn_3 : decode prog_13_method_40_code 3 = .ok (.istore_n 3, 1) := by decide +kernel
theorem dX11_doubtsOn_4 : decode prog_13_method_40_code 4 = .ok (.iload_n 3, 1) := by decide +kernel
theorem dX11_doubtsOn_5 : decode prog_13_method_40_code 5 = .ok (.aload_n 0, 1) := by decide +kernel
theorem dX11_doubtsOn_6 : decode prog_13_method_40_code 6 = .ok (.iload_n 1, 1) := by decide +kernel
theorem dX11_doubtsOn_7 : decode prog_13_method_40_code 7 = .ok (.iconst 4, 1) := by decide +kernel
theorem dX11_doubtsOn_8 : decode prog_13_method_40_code 8 = .ok (.invokevirtual 70, 3) := by decide +kernel
theorem dX11_doubtsOn_11 : decode prog_13_method_40_code 11 = .ok (.if_icmp .ge 18, 3) := by decide +kernel
theorem dX11_doubtsOn_14 : decode prog_13_method_40_code 14 = .ok (.iload_n 2, 1) := by decide +kernel
theorem dX11_doubtsOn_15 : decode prog_13_method_40_code 15 = .ok (.aload_n 0, 1) := by decide +kernel
theorem dX11_doubtsOn_16 : decode prog_13_method_40_code 16 = .ok (.iload_n 1, 1) := by decide +kernel
theorem dX11_doubtsOn_17 : decode prog_13_method_40_code 17 = .ok (.iload_n 3, 1) := by decide +kernel
theorem dX11_doubtsOn_18 : decode prog_13_method_40_code 18 = .ok (.invokevirtual 143, 3) := by decide +kernel
theorem dX11_doubtsOn_21 : decode prog_13_method_40_code 21 = .ok (.iadd, 1) := by decide +kernel
theorem dX11_doubtsOn_22 : decode prog_13_method_40_code 22 = .ok (.istore_n 2, 1) := by decide +kernel
theorem dX11_doubtsOn_23 : decode prog_13_method_40_code 23 = .ok (.iinc 3 1, 3) := by decide +kernel
theorem dX11_doubtsOn_26 : decode prog_13_method_40_code 26 = .ok (.goto (-22), 3) := by decide +kernel
theorem dX11_doubtsOn_29 : decode prog_13_method_40_code 29 = .ok (.iload_n 2, 1) := by decide +kernel
theorem dX11_doubtsOn_30 : decode prog_13_method_40_code 30 = .ok (.iconst 2, 1) := by decide +kernel
theorem dX11_doubtsOn_31 : decode prog_13_method_40_code 31 = .ok (.idiv, 1) := by decide +kernel
theorem dX11_doubtsOn_32 : decode prog_13_method_40_code 32 = .ok (.ireturn, 1) := by decide +kernel
theorem nX11_doubtsFor : zDs yX11_doubtsFor 1 := ⟨by decide, by decide, by decide +kernel⟩
theorem dX11_doubtsFor_0 : decode prog_13_method_41_code 0 = .ok (.iconst 0, 1) := by decide +kernel
theorem dX11_doubtsFor_1 : decode prog_13_method_41_code 1 = .ok (.istore_n 2, 1) := by decide +kernel
theorem dX11_doubtsFor_2 : decode prog_13_method_41_code 2 = .ok (.iconst 0, 1) := by decide +kernel
theorem dX11_doubtsFor_3 : decode prog_13_method_41_code 3 = .ok (.istore_n 3, 1) := by decide +kernel
theorem dX11_doubtsFor_4 : decode prog_13_method_41_code 4 = .ok (.iload_n 3, 1) := by decide +kernel
theorem dX11_doubtsFor_5 : decode prog_13_method_41_code 5 = .ok (.aload_n 0, 1) := by decide +kernel
theorem dX11_doubtsFor_6 : decode prog_13_method_41_code 6 = .ok (.getfield 7, 3) := by decide +kernel
theorem dX11_doubtsFor_9 : decode prog_13_method_41_code 9 = .ok (.iconst 4, 1) := by decide +kernel
theorem dX11_doubtsFor_10 : decode prog_13_method_41_code 10 = .ok (.iaload, 1) := by decide +kernel
theorem dX11_doubtsFor_11 : decode prog_13_method_41_code 11 = .ok (.if_icmp .ge 36, 3) := by decide +kernel
theorem dX11_doubtsFor_14 : decode prog_13_method_41_code 14 = .ok (.iload_n 2, 1) := by decide +kernel
theorem dX11_doubtsFor_15 : decode prog_13_method_41_code 15 = .ok (.aload_n 0, 1) := by decide +kernel
theorem dX11_doubtsFor_16 : decode prog_13_method_41_code 16 = .ok (.iload_n 3, 1) := by decide +kernel
theorem dX11_doubtsFor_17 : decode prog_13_method_41_code 17 = .ok (.iload_n 1, 1) := by decide +kernel
theorem dX11_doubtsFor_18 : decode prog_13_method_41_code 18 = .ok (.invokevirtual 111, 3) := by decide +kernel
theorem dX11_doubtsFor_21 : decode prog_13_method_41_code 21 = .ok (.ifCond .ge 7, 3) := by decide +kernel
theorem dX11_doubtsFor_24 : decode prog_13_method_41_code 24 = .ok (.iconst 0, 1) := by decide +kernel
theorem dX11_doubtsFor_25 : decode prog_13_method_41_code 25 = .ok (.goto 14, 3) := by decide +kernel
theorem dX11_doubtsFor_28 : decode prog_13_method_41_code 28 = .ok (.aload_n 0, 1) := by decide +kernel
theorem dX11_doubtsFor_29 : decode prog_13_method_41_code 29 = .ok (.iload_n 3, 1) := by decide +kernel
theorem dX11_doubtsFor_30 : decode prog_13_method_41_code 30 = .ok (.aload_n 0, 1) := by decide +kernel
theorem dX11_doubtsFor_31 : decode prog_13_method_41_code 31 = .ok (.iload_n 3, 1) := by decide +kernel
theorem dX11_doubtsFor_32 : decode prog_13_method_41_code 32 = .ok (.iload_n 1, 1) := by decide +kernel
theorem dX11_doubtsFor_33 : decode prog_13_method_41_code 33 = .ok (.invokevirtual 111, 3) := by decide +kernel
theorem dX11_doubtsFor_36 : decode prog_13_method_41_code 36 = .ok (.invokevirtual 143, 3) := by decide +kernel
theorem dX11_doubtsFor_39 : decode prog_13_method_41_code 39 = .ok (.iadd, 1) := by decide +kernel
theorem dX11_doubtsFor_40 : decode prog_13_method_41_code 40 = .ok (.istore_n 2, 1) := by decide +kernel
theorem dX11_doubtsFor_41 : decode prog_13_method_41_code 41 = .ok (.iinc 3 1, 3) := by decide +kernel
theorem dX11_doubtsFor_44 : decode prog_13_method_41_code 44 = .ok (.goto (-40), 3) := by decide +kernel
theorem dX11_doubtsFor_47 : decode prog_13_method_41_code 47 = .ok (.iload_n 2, 1) := by decide +kernel
theorem dX11_doubtsFor_48 : decode prog_13_method_41_code 48 = .ok (.ireturn, 1) := by decide +kernel
theorem nX11_marksFor : zDs yX11_marksFor 1 := ⟨by decide, by decide, by decide +kernel⟩
theorem dX11_marksFor_0 : decode prog_13_method_42_code 0 = .ok (.iconst 0, 1) := by decide +kernel
theorem dX11_marksFor_1 : decode prog_13_method_42_code 1 = .ok (.istore_n 2, 1) := by decide +kernel
theorem dX11_marksFor_2 : decode prog_13_method_42_code 2 = .ok (.iconst 0, 1) := by decide +kernel
theorem dX11_marksFor_3 : decode prog_13_method_42_code 3 = .ok (.istore_n 3, 1) := by decide +kernel
theorem dX11_marksFor_4 : decode prog_13_method_42_code 4 = .ok (.iload_n 3, 1) := by decide +kernel
theorem dX11_marksFor_5 : decode prog_13_method_42_code 5 = .ok (.aload_n 0, 1) := by decide +kernel
theorem dX11_marksFor_6 : decode prog_13_method_42_code 6 = .ok (.getfield 7, 3) := by decide +kernel
theorem dX11_marksFor_9 : decode prog_13_method_42_code 9 = .ok (.iconst 4, 1) := by decide +kernel
theorem dX11_marksFor_10 : decode prog_13_method_42_code 10 = .ok (.iaload, 1) := by decide +kernel
theorem dX11_marksFor_11 : decode prog_13_method_42_code 11 = .ok (.if_icmp .ge 26, 3) := by decide +kernel
theorem dX11_marksFor_14 : decode prog_13_method_42_code 14 = .ok (.iload_n 2, 1) := by decide +kernel
theorem dX11_marksFor_15 : decode prog_13_method_42_code 15 = .ok (.aload_n 0, 1) := by decide +kernel
theorem dX11_marksFor_16 : decode prog_13_method_42_code 16 = .ok (.iload_n 3, 1) := by decide +kernel
theorem dX11_marksFor_17 : decode prog_13_method_42_code 17 = .ok (.iload_n 1, 1) := by decide +kernel
theorem dX11_marksFor_18 : decode prog_13_method_42_code 18 = .ok (.invokevirtual 111, 3) := by decide +kernel
theorem dX11_marksFor_21 : decode prog_13_method_42_code 21 = .ok (.ifCond .ge 7, 3) := by decide +kernel
theorem dX11_marksFor_24 : decode prog_13_method_42_code 24 = .ok (.iconst 0, 1) := by decide +kernel
theorem dX11_marksFor_25 : decode prog_13_method_42_code 25 = .ok (.goto 4, 3) := by decide +kernel
theorem dX11_marksFor_28 : decode prog_13_method_42_code 28 = .ok (.iconst 1, 1) := by decide +kernel
theorem dX11_marksFor_29 : decode prog_13_method_42_code 29 = .ok (.iadd, 1) := by decide +kernel
theorem dX11_marksFor_30 : decode prog_13_method_42_code 30 = .ok (.istore_n 2, 1) := by decide +kernel
theorem dX11_marksFor_31 : decode prog_13_method_42_code 31 = .ok (.iinc 3 1, 3) := by decide +kernel
theorem dX11_marksFor_34 : decode prog_13_method_42_code 34 = .ok (.goto (-30), 3) := by decide +kernel
theorem dX11_marksFor_37 : decode prog_13_method_42_code 37 = .ok (.iload_n 2, 1) := by decide +kernel
theorem dX11_marksFor_38 : decode prog_13_method_42_code 38 = .ok (.ireturn, 1) := by decide +kernel
theorem nX11_credit : zDs yX11_credit 1 := ⟨by decide, by decide, by decide +kernel⟩
theorem dX11_credit_0 : decode prog_13_method_43_code 0 = .ok (.iconst 0, 1) := by decide +kernel
theorem dX11_credit_1 : decode prog_13_method_43_code 1 = .ok (.bipush 10, 2) := by decide +kernel
theorem dX11_credit_3 : decode prog_13_method_43_code 3 = .ok (.aload_n 0, 1) := by decide +kernel
theorem dX11_credit_4 : decode prog_13_method_43_code 4 = .ok (.iload_n 1, 1) := by decide +kernel
theorem dX11_credit_5 : decode prog_13_method_43_code 5 = .ok (.iconst 2, 1) := by decide +kernel
theorem dX11_credit_6 : decode prog_13_method_43_code 6 = .ok (.invokevirtual 66, 3) := by decide +kernel
theorem dX11_credit_9 : decode prog_13_method_43_code 9 = .ok (.imul, 1) := by decide +kernel
theorem dX11_credit_10 : decode prog_13_method_43_code 10 = .ok (.iconst 5, 1) := by decide +kernel
theorem dX11_credit_11 : decode prog_13_method_43_code 11 = .ok (.aload_n 0, 1) := by decide +kernel
theorem dX11_credit_12 : decode prog_13_method_43_code 12 = .ok (.iload_n 1, 1) := by decide +kernel
theorem dX11_credit_13 : decode prog_13_method_43_code 13 = .ok (.invokevirtual 146, 3) := by decide +kernel
theorem dX11_credit_16 : decode prog_13_method_43_code 16 = .ok (.imul, 1) := by decide +kernel
theorem dX11_credit_17 : decode prog_13_method_43_code 17 = .ok (.isub, 1) := by decide +kernel
theorem dX11_credit_18 : decode prog_13_method_43_code 18 = .ok (.invokestatic 98, 3) := by decide +kernel
theorem dX11_credit_21 : decode prog_13_method_43_code 21 = .ok (.ireturn, 1) := by decide +kernel
theorem nX11_stoneOf : zDs yX11_stoneOf 2 := ⟨by decide, by decide, by decide +kernel⟩
theorem dX11_stoneOf_0 : decode prog_13_method_44_code 0 = .ok (.aload_n 0, 1) := by decide +kernel
theorem dX11_stoneOf_1 : decode prog_13_method_44_code 1 = .ok (.aload_n 0, 1) := by decide +kernel
theorem dX11_stoneOf_2 : decode prog_13_method_44_code 2 = .ok (.iload_n 1, 1) := by decide +kernel
theorem dX11_stoneOf_3 : decode prog_13_method_44_code 3 = .ok (.invokevirtual 101, 3) := by decide +kernel
theorem dX11_stoneOf_6 : decode prog_13_method_44_code 6 = .ok (.ifCond .ne 7, 3) := by decide +kernel
theorem dX11_stoneOf_9 : decode prog_13_method_44_code 9 = .ok (.iconst 1, 1) := by decide +kernel
theorem dX11_stoneOf_10 : decode prog_13_method_44_code 10 = .ok (.goto 17, 3) := by decide +kernel
theorem dX11_stoneOf_13 : decode prog_13_method_44_code 13 = .ok (.iload_n 2, 1) := by decide +kernel
theorem dX11_stoneOf_14 : decode prog_13_method_44_code 14 = .ok (.iconst 0, 1) := by decide +kernel
theorem dX11_stoneOf_15 : decode prog_13_method_44_code 15 = .ok (.iconst 5, 1) := by decide +kernel
theorem dX11_stoneOf_16 : decode prog_13_method_44_code 16 = .ok (.invokestatic 62, 3) := by decide +kernel
theorem dX11_stoneOf_19 : decode prog_13_method_44_code 19 = .ok (.ifCond .eq 7, 3) := by decide +kernel
theorem dX11_stoneOf_22 : decode prog_13_method_44_code 22 = .ok (.iconst 0, 1) := by decide +kernel
theorem dX11_stoneOf_23 : decode prog_13_method_44_code 23 = .ok (.goto 4, 3) := by decide +kernel
theorem dX11_stoneOf_26 : decode prog_13_method_44_code 26 = .ok (.iconst 2, 1) := by decide +kernel
theorem dX11_stoneOf_27 : decode prog_13_method_44_code 27 = .ok (.invokevirtual 149, 3) := by decide +kernel
theorem dX11_stoneOf_30 : decode prog_13_method_44_code 30 = .ok (.ifCond .eq 5, 3) := by decide +kernel
theorem dX11_stoneOf_33 : decode prog_13_method_44_code 33 = .ok (.iconst 0, 1) := by decide +kernel
theorem dX11_stoneOf_34 : decode prog_13_method_44_code 34 = .ok (.ireturn, 1) := by decide +kernel
theorem dX11_stoneOf_35 : decode prog_13_method_44_code 35 = .ok (.iload_n 2, 1) := by decide +kernel
theorem dX11_stoneOf_36 : decode prog_13_method_44_code 36 = .ok (.iconst 5, 1) := by decide +kernel
theorem dX11_stoneOf_37 : decode prog_13_method_44_code 37 = .ok (.if_icmp .ge 12, 3) := by decide +kernel
theorem dX11_stoneOf_40 : decode prog_13_method_44_code 40 = .ok (.aload_n 0, 1) := by decide +kernel
theorem dX11_stoneOf_41 : decode prog_13_method_44_code 41 = .ok (.iload_n 1, 1) := by decide +kernel
theorem dX11_stoneOf_42 : decode prog_13_method_44_code 42 = .ok (.iload_n 2, 1) := by decide +kernel
theorem dX11_stoneOf_43 : decode prog_13_method_44_code 43 = .ok (.invokevirtual 70, 3) := by decide +kernel
theorem dX11_stoneOf_46 : decode prog_13_method_44_code 46 = .ok (.goto 8, 3) := by decide +kernel
theorem dX11_stoneOf_49 : decode prog_13_method_44_code 49 = .ok (.aload_n 0, 1) := by decide +kernel
theorem dX11_stoneOf_50 : decode prog_13_method_44_code 50 = .ok (.iload_n 1, 1) := by decide +kernel
theorem dX11_stoneOf_51 : decode prog_13_method_44_code 51 = .ok (.invokevirtual 152, 3) := by decide +kernel
theorem dX11_stoneOf_54 : decode prog_13_method_44_code 54 = .ok (.ireturn, 1) := by decide +kernel
theorem nX11_floodOf : zDs yX11_floodOf 2 := ⟨by decide, by decide, by decide +kernel⟩
theorem dX11_floodOf_0 : decode prog_13_method_45_code 0 = .ok (.aload_n 0, 1) := by decide +kernel
theorem dX11_floodOf_1 : decode prog_13_method_45_code 1 = .ok (.aload_n 0, 1) := by decide +kernel
theorem dX11_floodOf_2 : decode prog_13_method_45_code 2 = .ok (.iload_n 1, 1) := by decide +kernel
theorem dX11_floodOf_3 : decode prog_13_method_45_code 3 = .ok (.invokevirtual 105, 3) := by decide +kernel
theorem dX11_floodOf_6 : decode prog_13_method_45_code 6 = .ok (.ifCond .ne 7, 3) := by decide +kernel
theorem dX11_floodOf_9 : decode prog_13_method_45_code 9 = .ok (.iconst 1, 1) := by decide +kernel
theorem dX11_floodOf_10 : decode prog_13_method_45_code 10 = .ok (.goto 17, 3) := by decide +kernel
theorem dX11_floodOf_13 : decode prog_13_method_45_code 13 = .ok (.iload_n 2, 1) := by decide +kernel
theorem dX11_floodOf_14 : decode prog_13_method_45_code 14 = .ok (.iconst 0, 1) := by decide +kernel
theorem dX11_floodOf_15 : decode prog_13_method_45_code 15 = .ok (.iconst 5, 1) := by decide +kernel
theorem dX11_floodOf_16 : decode prog_13_method_45_code 16 = .ok (.invokestatic 62, 3) := by decide +kernel
theorem dX11_floodOf_19 : decode prog_13_method_45_code 19 = .ok (.ifCond .eq 7, 3) := by decide +kernel
theorem dX11_floodOf_22 : decode prog_13_method_45_code 22 = .ok (.iconst 0, 1) := by decide +kernel
theorem dX11_floodOf_23 : decode prog_13_method_45_code 23 = .ok (.goto 4, 3) := by decide +kernel
theorem dX11_floodOf_26 : decode prog_13_method_45_code 26 = .ok (.iconst 2, 1) := by decide +kernel
theorem dX11_floodOf_27 : decode prog_13_method_45_code 27 = .ok (.invokevirtual 149, 3) := by decide +kernel
theorem dX11_floodOf_30 : decode prog_13_method_45_code 30 = .ok (.ifCond .eq 5, 3) := by decide +kernel
theorem dX11_floodOf_33 : decode prog_13_method_45_code 33 = .ok (.iconst 0, 1) := by decide +kernel
theorem dX11_floodOf_34 : decode prog_13_method_45_code 34 = .ok (.ireturn, 1) := by decide +kernel
theorem dX11_floodOf_35 : decode prog_13_method_45_code 35 = .ok (.iload_n 2, 1) := by decide +kernel
theorem dX11_floodOf_36 : decode prog_13_method_45_code 36 = .ok (.tableswitch 55 0 4 #[36, 36, 36, 43, 49], 36) := by decide +kernel
theorem dX11_floodOf_72 : decode prog_13_method_45_code 72 = .ok (.aload_n 0, 1) := by decide +kernel
theorem dX11_floodOf_73 : decode prog_13_method_45_code 73 = .ok (.iload_n 1, 1) := by decide +kernel
theorem dX11_floodOf_74 : decode prog_13_method_45_code 74 = .ok (.iload_n 2, 1) := by decide +kernel
theorem dX11_floodOf_75 : decode prog_13_method_45_code 75 = .ok (.invokevirtual 66, 3) := by decide +kernel
theorem dX11_floodOf_78 : decode prog_13_method_45_code 78 = .ok (.ireturn, 1) := by decide +kernel
theorem dX11_floodOf_79 : decode prog_13_method_45_code 79 = .ok (.aload_n 0, 1) := by decide +kernel
theorem dX11_floodOf_80 : decode prog_13_method_45_code 80 = .ok (.iload_n 1, 1) := by decide +kernel
theorem dX11_floodOf_81 : decode prog_13_method_45_code 81 = .ok (.invokevirtual 155, 3) := by decide +kernel
theorem dX11_floodOf_84 : decode prog_13_method_45_code 84 = .ok (.ireturn, 1) := by decide +kernel
theorem dX11_floodOf_85 : decode prog_13_method_45_code 85 = .ok (.aload_n 0, 1) := by decide +kernel
theorem dX11_floodOf_86 : decode prog_13_method_45_code 86 = .ok (.iload_n 1, 1) := by decide +kernel
theorem dX11_floodOf_87 : decode prog_13_method_45_code 87 = .ok (.invokevirtual 146, 3) := by decide +kernel
theorem dX11_floodOf_90 : decode prog_13_method_45_code 90 = .ok (.ireturn, 1) := by decide +kernel
theorem dX11_floodOf_91 : decode prog_13_method_45_code 91 = .ok (.aload_n 0, 1) := by decide +kernel
theorem dX11_floodOf_92 : decode prog_13_method_45_code 92 = .ok (.iload_n 1, 1) := by decide +kernel
theorem dX11_floodOf_93 : decode prog_13_method_45_code 93 = .ok (.invokevirtual 158, 3) := by decide +kernel
theorem dX11_floodOf_96 : decode prog_13_method_45_code 96 = .ok (.ireturn, 1) := by decide +kernel
theorem nX11_floodIn : zDs yX11_floodIn 1 := ⟨by decide, by decide, by decide +kernel⟩
theorem dX11_floodIn_0 : decode prog_13_method_46_code 0 = .ok (.aload_n 0, 1) := by decide +kernel
theorem dX11_floodIn_1 : decode prog_13_method_46_code 1 = .ok (.aload_n 0, 1) := by decide +kernel
theorem dX11_floodIn_2 : decode prog_13_method_46_code 2 = .ok (.iload_n 1, 1) := by decide +kernel
theorem dX11_floodIn_3 : decode prog_13_method_46_code 3 = .ok (.invokevirtual 95, 3) := by decide +kernel
theorem dX11_floodIn_6 : decode prog_13_method_46_code 6 = .ok (.ifCond .ge 7, 3) := by decide +kernel
theorem dX11_floodIn_9 : decode prog_13_method_46_code 9 = .ok (.iconst 1, 1) := by decide +kernel
theorem dX11_floodIn_10 : decode prog_13_method_46_code 10 = .ok (.goto 4, 3) := by decide +kernel
theorem dX11_floodIn_13 : decode prog_13_method_46_code 13 = .ok (.iconst 0, 1) := by decide +kernel
theorem dX11_floodIn_14 : decode prog_13_method_46_code 14 = .ok (.invokevirtual 149, 3) := by decide +kernel
theorem dX11_floodIn_17 : decode prog_13_method_46_code 17 = .ok (.ifCond .eq 7, 3) := by decide +kernel
theorem dX11_floodIn_20 : decode prog_13_method_46_code 20 = .ok (.iconst 0, 1) := by decide +kernel
theorem dX11_floodIn_21 : decode prog_13_method_46_code 21 = .ok (.goto 8, 3) := by decide +kernel
theorem dX11_floodIn_24 : decode prog_13_method_46_code 24 = .ok (.aload_n 0, 1) := by decide +kernel
theorem dX11_floodIn_25 : decode prog_13_method_46_code 25 = .ok (.iload_n 1, 1) := by decide +kernel
theorem dX11_floodIn_26 : decode prog_13_method_46_code 26 = .ok (.invokevirtual 95, 3) := by decide +kernel
theorem dX11_floodIn_29 : decode prog_13_method_46_code 29 = .ok (.ireturn, 1) := by decide +kernel
theorem nX11_before : zDs yX11_before 1 := ⟨by decide, by decide, by decide +kernel⟩
theorem dX11_before_0 : decode prog_13_method_47_code 0 = .ok (.iconst (-1), 1) := by decide +kernel
theorem dX11_before_1 : decode prog_13_method_47_code 1 = .ok (.istore_n 2, 1) := by decide +kernel
theorem dX11_before_2 : decode prog_13_method_47_code 2 = .ok (.iconst 0, 1) := by decide +kernel
theorem dX11_before_3 : decode prog_13_method_47_code 3 = .ok (.istore_n 3, 1) := by decide +kernel
theorem dX11_before_4 : decode prog_13_method_47_code 4 = .ok (.iload_n 3, 1) := by decide +kernel
theorem dX11_before_5 : decode prog_13_method_47_code 5 = .ok (.aload_n 0, 1) := by decide +kernel
theorem dX11_before_6 : decode prog_13_method_47_code 6 = .ok (.getfield 7, 3) := by decide +kernel
theorem dX11_before_9 : decode prog_13_method_47_code 9 = .ok (.sipush 179, 3) := by decide +kernel
theorem dX11_before_12 : decode prog_13_method_47_code 12 = .ok (.iaload, 1) := by decide +kernel
theorem dX11_before_13 : decode prog_13_method_47_code 13 = .ok (.if_icmp .ge 40, 3) := by decide +kernel
theorem dX11_before_16 : decode prog_13_method_47_code 16 = .ok (.aload_n 0, 1) := by decide +kernel
theorem dX11_before_17 : decode prog_13_method_47_code 17 = .ok (.iload_n 3, 1) := by decide +kernel
theorem dX11_before_18 : decode prog_13_method_47_code 18 = .ok (.iconst 0, 1) := by decide +kernel
theorem dX11_before_19 : decode prog_13_method_47_code 19 = .ok (.invokevirtual 66, 3) := by decide +kernel
theorem dX11_before_22 : decode prog_13_method_47_code 22 = .ok (.iload_n 1, 1) := by decide +kernel
theorem dX11_before_23 : decode prog_13_method_47_code 23 = .ok (.if_icmp .ge 24, 3) := by decide +kernel
theorem dX11_before_26 : decode prog_13_method_47_code 26 = .ok (.iload_n 2, 1) := by decide +kernel
theorem dX11_before_27 : decode prog_13_method_47_code 27 = .ok (.ifCond .lt 18, 3) := by decide +kernel
theorem dX11_before_30 : decode prog_13_method_47_code 30 = .ok (.aload_n 0, 1) := by decide +kernel
theorem dX11_before_31 : decode prog_13_method_47_code 31 = .ok (.iload_n 3, 1) := by decide +kernel
theorem dX11_before_32 : decode prog_13_method_47_code 32 = .ok (.iconst 0, 1) := by decide +kernel
theorem dX11_before_33 : decode prog_13_method_47_code 33 = .ok (.invokevirtual 66, 3) := by decide +kernel
theorem dX11_before_36 : decode prog_13_method_47_code 36 = .ok (.aload_n 0, 1) := by decide +kernel
theorem dX11_before_37 : decode prog_13_method_47_code 37 = .ok (.iload_n 2, 1) := by decide +kernel
theorem dX11_before_38 : decode prog_13_method_47_code 38 = .ok (.iconst 0, 1) := by decide +kernel
theorem dX11_before_39 : decode prog_13_method_47_code 39 = .ok (.invokevirtual 66, 3) := by decide +kernel
theorem dX11_before_42 : decode prog_13_method_47_code 42 = .ok (.if_icmp .le 5, 3) := by decide +kernel
theorem dX11_before_45 : decode prog_13_method_47_code 45 = .ok (.iload_n 3, 1) := by decide +kernel
theorem dX11_before_46 : decode prog_13_method_47_code 46 = .ok (.istore_n 2, 1) := by decide +kernel
theorem dX11_before_47 : decode prog_13_method_47_code 47 = .ok (.iinc 3 1, 3) := by decide +kernel
theorem dX11_before_50 : decode prog_13_method_47_code 50 = .ok (.goto (-46), 3) := by decide +kernel
theorem dX11_before_53 : decode prog_13_method_47_code 53 = .ok (.aload_n 0, 1) := by decide +kernel
theorem dX11_before_54 : decode prog_13_method_47_code 54 = .ok (.iload_n 2, 1) := by decide +kernel
theorem dX11_before_55 : decode prog_13_method_47_code 55 = .ok (.ifCond .ge 7, 3) := by decide +kernel
theorem dX11_before_58 : decode prog_13_method_47_code 58 = .ok (.iconst 1, 1) := by decide +kernel
theorem dX11_before_59 : decode prog_13_method_47_code 59 = .ok (.goto 4, 3) := by decide +kernel
theorem dX11_before_62 : decode prog_13_method_47_code 62 = .ok (.iconst 0, 1) := by decide +kernel
theorem dX11_before_63 : decode prog_13_method_47_code 63 = .ok (.invokevirtual 149, 3) := by decide +kernel
theorem dX11_before_66 : decode prog_13_method_47_code 66 = .ok (.ifCond .eq 7, 3) := by decide +kernel
theorem dX11_before_69 : decode prog_13_method_47_code 69 = .ok (.iconst 0, 1) := by decide +kernel
theorem dX11_before_70 : decode prog_13_method_47_code 70 = .ok (.goto 4, 3) := by decide +kernel
theorem dX11_before_73 : decode prog_13_method_47_code 73 = .ok (.iload_n 2, 1) := by decide +kernel
theorem dX11_before_74 : decode prog_13_method_47_code 74 = .ok (.ireturn, 1) := by decide +kernel
theorem nX11_edge : zDs yX11_edge 1 := ⟨by decide, by decide, by decide +kernel⟩
theorem dX11_edge_0 : decode prog_13_method_48_code 0 = .ok (.aload_n 0, 1) := by decide +kernel
theorem dX11_edge_1 : decode prog_13_method_48_code 1 = .ok (.aload_n 0, 1) := by decide +kernel
theorem dX11_edge_2 : decode prog_13_method_48_code 2 = .ok (.iload_n 1, 1) := by decide +kernel
theorem dX11_edge_3 : decode prog_13_method_48_code 3 = .ok (.invokevirtual 108, 3) := by decide +kernel
theorem dX11_edge_6 : decode prog_13_method_48_code 6 = .ok (.ifCond .eq 7, 3) := by decide +kernel
theorem dX11_edge_9 : decode prog_13_method_48_code 9 = .ok (.iconst 0, 1) := by decide +kernel
theorem dX11_edge_10 : decode prog_13_method_48_code 10 = .ok (.goto 4, 3) := by decide +kernel
theorem dX11_edge_13 : decode prog_13_method_48_code 13 = .ok (.iconst 1, 1) := by decide +kernel
theorem dX11_edge_14 : decode prog_13_method_48_code 14 = .ok (.invokevirtual 149, 3) := by decide +kernel
theorem dX11_edge_17 : decode prog_13_method_48_code 17 = .ok (.ifCond .eq 7, 3) := by decide +kernel
theorem dX11_edge_20 : decode prog_13_method_48_code 20 = .ok (.iconst 0, 1) := by decide +kernel
theorem dX11_edge_21 : decode prog_13_method_48_code 21 = .ok (.goto 13, 3) := by decide +kernel
theorem dX11_edge_24 : decode prog_13_method_48_code 24 = .ok (.aload_n 0, 1) := by decide +kernel
theorem dX11_edge_25 : decode prog_13_method_48_code 25 = .ok (.getfield 7, 3) := by decide +kernel
theorem dX11_edge_28 : decode prog_13_method_48_code 28 = .ok (.sipush 226, 3) := by decide +kernel
theorem dX11_edge_31 : decode prog_13_method_48_code 31 = .ok (.iload_n 1, 1) := by decide +kernel
theorem dX11_edge_32 : decode prog_13_method_48_code 32 = .ok (.iadd, 1) := by decide +kernel
theorem dX11_edge_33 : decode prog_13_method_48_code 33 = .ok (.iaload, 1) := by decide +kernel
theorem dX11_edge_34 : decode prog_13_method_48_code 34 = .ok (.ireturn, 1) := by decide +kernel
theorem nX11_goneIn : zDs yX11_goneIn 1 := ⟨by decide, by decide, by decide +kernel⟩
theorem dX11_goneIn_0 : decode prog_13_method_49_code 0 = .ok (.iconst 5, 1) := by decide +kernel
theorem dX11_goneIn_1 : decode prog_13_method_49_code 1 = .ok (.aload_n 0, 1) := by decide +kernel
theorem dX11_goneIn_2 : decode prog_13_method_49_code 2 = .ok (.getfield 7, 3) := by decide +kernel
theorem dX11_goneIn_5 : decode prog_13_method_49_code 5 = .ok (.iconst 0, 1) := by decide +kernel
theorem dX11_goneIn_6 : decode prog_13_method_49_code 6 = .ok (.iaload, 1) := by decide +kernel
theorem dX11_goneIn_7 : decode prog_13_method_49_code 7 = .ok (.iconst 5, 1) := by decide +kernel
theorem dX11_goneIn_8 : decode prog_13_method_49_code 8 = .ok (.irem, 1) := by decide +kernel
theorem dX11_goneIn_9 : decode prog_13_method_49_code 9 = .ok (.isub, 1) := by decide +kernel
theorem dX11_goneIn_10 : decode prog_13_method_49_code 10 = .ok (.iconst 5, 1) := by decide +kernel
theorem dX11_goneIn_11 : decode prog_13_method_49_code 11 = .ok (.iload_n 1, 1) := by decide +kernel
theorem dX11_goneIn_12 : decode prog_13_method_49_code 12 = .ok (.iconst 1, 1) := by decide +kernel
theorem dX11_goneIn_13 : decode prog_13_method_49_code 13 = .ok (.isub, 1) := by decide +kernel
theorem dX11_goneIn_14 : decode prog_13_method_49_code 14 = .ok (.imul, 1) := by decide +kernel
theorem dX11_goneIn_15 : decode prog_13_method_49_code 15 = .ok (.iadd, 1) := by decide +kernel
theorem dX11_goneIn_16 : decode prog_13_method_49_code 16 = .ok (.ireturn, 1) := by decide +kernel
theorem nX11_markOf : zDs yX11_markOf 3 := ⟨by decide, by decide, by decide +kernel⟩
theorem dX11_markOf_0 : decode prog_13_method_50_code 0 = .ok (.aload_n 0, 1) := by decide +kernel
theorem dX11_markOf_1 : decode prog_13_method_50_code 1 = .ok (.aload_n 0, 1) := by decide +kernel
theorem dX11_markOf_2 : decode prog_13_method_50_code 2 = .ok (.iload_n 1, 1) := by decide +kernel
theorem dX11_markOf_3 : decode prog_13_method_50_code 3 = .ok (.invokevirtual 101, 3) := by decide +kernel
theorem dX11_markOf_6 : decode prog_13_method_50_code 6 = .ok (.ifCond .eq 11, 3) := by decide +kernel
theorem dX11_markOf_9 : decode prog_13_method_50_code 9 = .ok (.aload_n 0, 1) := by decide +kernel
theorem dX11_markOf_10 : decode prog_13_method_50_code 10 = .ok (.iload_n 2, 1) := by decide +kernel
theorem dX11_markOf_11 : decode prog_13_method_50_code 11 = .ok (.invokevirtual 105, 3) := by decide +kernel
theorem dX11_markOf_14 : decode prog_13_method_50_code 14 = .ok (.ifCond .ne 7, 3) := by decide +kernel
theorem dX11_markOf_17 : decode prog_13_method_50_code 17 = .ok (.iconst 1, 1) := by decide +kernel
theorem dX11_markOf_18 : decode prog_13_method_50_code 18 = .ok (.goto 30, 3) := by decide +kernel
theorem dX11_markOf_21 : decode prog_13_method_50_code 21 = .ok (.iload_n 3, 1) := by decide +kernel
theorem dX11_markOf_22 : decode prog_13_method_50_code 22 = .ok (.iconst 0, 1) := by decide +kernel
theorem dX11_markOf_23 : decode prog_13_method_50_code 23 = .ok (.iconst 4, 1) := by decide +kernel
theorem dX11_markOf_24 : decode prog_13_method_50_code 24 = .ok (.invokestatic 62, 3) := by decide +kernel
theorem dX11_markOf_27 : decode prog_13_method_50_code 27 = .ok (.ifCond .ne 7, 3) := by decide +kernel
theorem dX11_markOf_30 : decode prog_13_method_50_code 30 = .ok (.iconst 2, 1) := by decide +kernel
theorem dX11_markOf_31 : decode prog_13_method_50_code 31 = .ok (.goto 17, 3) := by decide +kernel
theorem dX11_markOf_34 : decode prog_13_method_50_code 34 = .ok (.aload_n 0, 1) := by decide +kernel
theorem dX11_markOf_35 : decode prog_13_method_50_code 35 = .ok (.iload_n 1, 1) := by decide +kernel
theorem dX11_markOf_36 : decode prog_13_method_50_code 36 = .ok (.iload_n 2, 1) := by decide +kernel
theorem dX11_markOf_37 : decode prog_13_method_50_code 37 = .ok (.invokevirtual 111, 3) := by decide +kernel
theorem dX11_markOf_40 : decode prog_13_method_50_code 40 = .ok (.ifCond .ge 7, 3) := by decide +kernel
theorem dX11_markOf_43 : decode prog_13_method_50_code 43 = .ok (.iconst 3, 1) := by decide +kernel
theorem dX11_markOf_44 : decode prog_13_method_50_code 44 = .ok (.goto 4, 3) := by decide +kernel
theorem dX11_markOf_47 : decode prog_13_method_50_code 47 = .ok (.iconst 0, 1) := by decide +kernel
theorem dX11_markOf_48 : decode prog_13_method_50_code 48 = .ok (.invokevirtual 149, 3) := by decide +kernel
theorem dX11_markOf_51 : decode prog_13_method_50_code 51 = .ok (.ifCond .eq 5, 3) := by decide +kernel
theorem dX11_markOf_54 : decode prog_13_method_50_code 54 = .ok (.iconst 0, 1) := by decide +kernel
theorem dX11_markOf_55 : decode prog_13_method_50_code 55 = .ok (.ireturn, 1) := by decide +kernel
theorem dX11_markOf_56 : decode prog_13_method_50_code 56 = .ok (.aload_n 0, 1) := by decide +kernel
theorem dX11_markOf_57 : decode prog_13_method_50_code 57 = .ok (.iload_n 1, 1) := by decide +kernel
theorem dX11_markOf_58 : decode prog_13_method_50_code 58 = .ok (.iload_n 2, 1) := by decide +kernel
theorem dX11_markOf_59 : decode prog_13_method_50_code 59 = .ok (.invokevirtual 111, 3) := by decide +kernel
theorem dX11_markOf_62 : decode prog_13_method_50_code 62 = .ok (.istore 4, 2) := by decide +kernel
theorem dX11_markOf_64 : decode prog_13_method_50_code 64 = .ok (.iload_n 3, 1) := by decide +kernel
theorem dX11_markOf_65 : decode prog_13_method_50_code 65 = .ok (.iconst 3, 1) := by decide +kernel
theorem dX11_markOf_66 : decode prog_13_method_50_code 66 = .ok (.if_icmp .ge 16, 3) := by decide +kernel
theorem dX11_markOf_69 : decode prog_13_method_50_code 69 = .ok (.aload_n 0, 1) := by decide +kernel
theorem dX11_markOf_70 : decode prog_13_method_50_code 70 = .ok (.iload_n 1, 1) := by decide +kernel
theorem dX11_markOf_71 : decode prog_13_method_50_code 71 = .ok (.iload 4, 2) := by decide +kernel
theorem dX11_markOf_73 : decode prog_13_method_50_code 73 = .ok (.iload_n 3, 1) := by decide +kernel
theorem dX11_markOf_74 : decode prog_13_method_50_code 74 = .ok (.iconst 1, 1) := by decide +kernel
theorem dX11_markOf_75 : decode prog_13_method_50_code 75 = .ok (.iadd, 1) := by decide +kernel
theorem dX11_markOf_76 : decode prog_13_method_50_code 76 = .ok (.invokevirtual 80, 3) := by decide +kernel
theorem dX11_markOf_79 : decode prog_13_method_50_code 79 = .ok (.goto 30, 3) := by decide +kernel
theorem dX11_markOf_82 : decode prog_13_method_50_code 82 = .ok (.iload_n 3, 1) := by decide +kernel
theorem dX11_markOf_83 : decode prog_13_method_50_code 83 = .ok (.iconst 3, 1) := by decide +kernel
theorem dX11_markOf_84 : decode prog_13_method_50_code 84 = .ok (.if_icmp .ne 13, 3) := by decide +kernel
theorem dX11_markOf_87 : decode prog_13_method_50_code 87 = .ok (.aload_n 0, 1) := by decide +kernel
theorem dX11_markOf_88 : decode prog_13_method_50_code 88 = .ok (.iload_n 1, 1) := by decide +kernel
theorem dX11_markOf_89 : decode prog_13_method_50_code 89 = .ok (.iload 4, 2) := by decide +kernel
theorem dX11_markOf_91 : decode prog_13_method_50_code 91 = .ok (.invokevirtual 137, 3) := by decide +kernel
theorem dX11_markOf_94 : decode prog_13_method_50_code 94 = .ok (.goto 15, 3) := by decide +kernel
theorem dX11_markOf_97 : decode prog_13_method_50_code 97 = .ok (.aload_n 0, 1) := by decide +kernel
theorem dX11_markOf_98 : decode prog_13_method_50_code 98 = .ok (.aload_n 0, 1) := by decide +kernel
theorem dX11_markOf_99 : decode prog_13_method_50_code 99 = .ok (.iload_n 1, 1) := by decide +kernel
theorem dX11_markOf_100 : decode prog_13_method_50_code 100 = .ok (.iload 4, 2) := by decide +kernel
theorem dX11_markOf_102 : decode prog_13_method_50_code 102 = .ok (.iconst 2, 1) := by decide +kernel
theorem dX11_markOf_103 : decode prog_13_method_50_code 103 = .ok (.invokevirtual 80, 3) := by decide +kernel
theorem dX11_markOf_106 : decode prog_13_method_50_code 106 = .ok (.invokevirtual 161, 3) := by decide +kernel
theorem dX11_markOf_109 : decode prog_13_method_50_code 109 = .ok (.ireturn, 1) := by decide +kernel
theorem nX11_below : zDs yX11_below 2 := ⟨by decide, by decide, by decide +kernel⟩
theorem dX11_below_0 : decode prog_13_method_51_code 0 = .ok (.iconst 0, 1) := by decide +kernel
theorem dX11_below_1 : decode prog_13_method_51_code 1 = .ok (.istore_n 3, 1) := by decide +kernel
theorem dX11_below_2 : decode prog_13_method_51_code 2 = .ok (.iconst 0, 1) := by decide +kernel
theorem dX11_below_3 : decode prog_13_method_51_code 3 = .ok (.istore 4, 2) := by decide +kernel
theorem dX11_below_5 : decode prog_13_method_51_code 5 = .ok (.iload 4, 2) := by decide +kernel
theorem dX11_below_7 : decode prog_13_method_51_code 7 = .ok (.aload_n 0, 1) := by decide +kernel
theorem dX11_below_8 : decode prog_13_method_51_code 8 = .ok (.iload_n 1, 1) := by decide +kernel
theorem dX11_below_9 : decode prog_13_method_51_code 9 = .ok (.iconst 4, 1) := by decide +kernel
theorem dX11_below_10 : decode prog_13_method_51_code 10 = .ok (.invokevirtual 70, 3) := by decide +kernel
theorem dX11_below_13 : decode prog_13_method_51_code 13 = .ok (.if_icmp .ge 35, 3) := by decide +kernel
theorem dX11_below_16 : decode prog_13_method_51_code 16 = .ok (.iload_n 3, 1) := by decide +kernel
theorem dX11_below_17 : decode prog_13_method_51_code 17 = .ok (.aload_n 0, 1) := by decide +kernel
theorem dX11_below_18 : decode prog_13_method_51_code 18 = .ok (.iload_n 1, 1) := by decide +kernel
theorem dX11_below_19 : decode prog_13_method_51_code 19 = .ok (.iload 4, 2) := by decide +kernel
theorem dX11_below_21 : decode prog_13_method_51_code 21 = .ok (.iconst 1, 1) := by decide +kernel
theorem dX11_below_22 : decode prog_13_method_51_code 22 = .ok (.invokevirtual 80, 3) := by decide +kernel
theorem dX11_below_25 : decode prog_13_method_51_code 25 = .ok (.aload_n 0, 1) := by decide +kernel
theorem dX11_below_26 : decode prog_13_method_51_code 26 = .ok (.iload_n 1, 1) := by decide +kernel
theorem dX11_below_27 : decode prog_13_method_51_code 27 = .ok (.iload_n 2, 1) := by decide +kernel
theorem dX11_below_28 : decode prog_13_method_51_code 28 = .ok (.iconst 1, 1) := by decide +kernel
theorem dX11_below_29 : decode prog_13_method_51_code 29 = .ok (.invokevirtual 80, 3) := by decide +kernel
theorem dX11_below_32 : decode prog_13_method_51_code 32 = .ok (.if_icmp .ge 7, 3) := by decide +kernel
theorem dX11_below_35 : decode prog_13_method_51_code 35 = .ok (.iconst 1, 1) := by decide +kernel
theorem dX11_below_36 : decode prog_13_method_51_code 36 = .ok (.goto 4, 3) := by decide +kernel
theorem dX11_below_39 : decode prog_13_method_51_code 39 = .ok (.iconst 0, 1) := by decide +kernel
theorem dX11_below_40 : decode prog_13_method_51_code 40 = .ok (.iadd, 1) := by decide +kernel
theorem dX11_below_41 : decode prog_13_method_51_code 41 = .ok (.istore_n 3, 1) := by decide +kernel
theorem dX11_below_42 : decode prog_13_method_51_code 42 = .ok (.iinc 4 1, 3) := by decide +kernel
theorem dX11_below_45 : decode prog_13_method_51_code 45 = .ok (.goto (-40), 3) := by decide +kernel
theorem dX11_below_48 : decode prog_13_method_51_code 48 = .ok (.iload_n 3, 1) := by decide +kernel
theorem dX11_below_49 : decode prog_13_method_51_code 49 = .ok (.ireturn, 1) := by decide +kernel
theorem nX11_nth : zDs yX11_nth 2 := ⟨by decide, by decide, by decide +kernel⟩
theorem dX11_nth_0 : decode prog_13_method_52_code 0 = .ok (.iconst 0, 1) := by decide +kernel
theorem dX11_nth_1 : decode prog_13_method_52_code 1 = .ok (.istore_n 3, 1) := by decide +kernel
theorem dX11_nth_2 : decode prog_13_method_52_code 2 = .ok (.aload_n 0, 1) := by decide +kernel
theorem dX11_nth_3 : decode prog_13_method_52_code 3 = .ok (.iload_n 1, 1) := by decide +kernel
theorem dX11_nth_4 : decode prog_13_method_52_code 4 = .ok (.iload_n 3, 1) := by decide +kernel
theorem dX11_nth_5 : decode prog_13_method_52_code 5 = .ok (.invokevirtual 164, 3) := by decide +kernel
theorem dX11_nth_8 : decode prog_13_method_52_code 8 = .ok (.iload_n 2, 1) := by decide +kernel
theorem dX11_nth_9 : decode prog_13_method_52_code 9 = .ok (.if_icmp .eq 9, 3) := by decide +kernel
theorem dX11_nth_12 : decode prog_13_method_52_code 12 = .ok (.iinc 3 1, 3) := by decide +kernel
theorem dX11_nth_15 : decode prog_13_method_52_code 15 = .ok (.goto (-13), 3) := by decide +kernel
theorem dX11_nth_18 : decode prog_13_method_52_code 18 = .ok (.iload_n 3, 1) := by decide +kernel
theorem dX11_nth_19 : decode prog_13_method_52_code 19 = .ok (.ireturn, 1) := by decide +kernel
theorem nX11_mark : zDs yX11_mark 2 := ⟨by decide, by decide, by decide +kernel⟩
theorem dX11_mark_0 : decode prog_13_method_53_code 0 = .ok (.aload_n 0, 1) := by decide +kernel
theorem dX11_mark_1 : decode prog_13_method_53_code 1 = .ok (.aload_n 0, 1) := by decide +kernel
theorem dX11_mark_2 : decode prog_13_method_53_code 2 = .ok (.iload_n 1, 1) := by decide +kernel
theorem dX11_mark_3 : decode prog_13_method_53_code 3 = .ok (.invokevirtual 101, 3) := by decide +kernel
theorem dX11_mark_6 : decode prog_13_method_53_code 6 = .ok (.ifCond .ne 7, 3) := by decide +kernel
theorem dX11_mark_9 : decode prog_13_method_53_code 9 = .ok (.iconst 1, 1) := by decide +kernel
theorem dX11_mark_10 : decode prog_13_method_53_code 10 = .ok (.goto 24, 3) := by decide +kernel
theorem dX11_mark_13 : decode prog_13_method_53_code 13 = .ok (.iload_n 2, 1) := by decide +kernel
theorem dX11_mark_14 : decode prog_13_method_53_code 14 = .ok (.iconst 0, 1) := by decide +kernel
theorem dX11_mark_15 : decode prog_13_method_53_code 15 = .ok (.aload_n 0, 1) := by decide +kernel
theorem dX11_mark_16 : decode prog_13_method_53_code 16 = .ok (.iload_n 1, 1) := by decide +kernel
theorem dX11_mark_17 : decode prog_13_method_53_code 17 = .ok (.iconst 4, 1) := by decide +kernel
theorem dX11_mark_18 : decode prog_13_method_53_code 18 = .ok (.invokevirtual 70, 3) := by decide +kernel
theorem dX11_mark_21 : decode prog_13_method_53_code 21 = .ok (.iconst 1, 1) := by decide +kernel
theorem dX11_mark_22 : decode prog_13_method_53_code 22 = .ok (.isub, 1) := by decide +kernel
theorem dX11_mark_23 : decode prog_13_method_53_code 23 = .ok (.invokestatic 62, 3) := by decide +kernel
theorem dX11_mark_26 : decode prog_13_method_53_code 26 = .ok (.ifCond .eq 7, 3) := by decide +kernel
theorem dX11_mark_29 : decode prog_13_method_53_code 29 = .ok (.iconst 0, 1) := by decide +kernel
theorem dX11_mark_30 : decode prog_13_method_53_code 30 = .ok (.goto 4, 3) := by decide +kernel
theorem dX11_mark_33 : decode prog_13_method_53_code 33 = .ok (.iconst 2, 1) := by decide +kernel
theorem dX11_mark_34 : decode prog_13_method_53_code 34 = .ok (.invokevirtual 149, 3) := by decide +kernel
theorem dX11_mark_37 : decode prog_13_method_53_code 37 = .ok (.ifCond .eq 7, 3) := by decide +kernel
theorem dX11_mark_40 : decode prog_13_method_53_code 40 = .ok (.iconst 0, 1) := by decide +kernel
theorem dX11_mark_41 : decode prog_13_method_53_code 41 = .ok (.goto 15, 3) := by decide +kernel
theorem dX11_mark_44 : decode prog_13_method_53_code 44 = .ok (.aload_n 0, 1) := by decide +kernel
theorem dX11_mark_45 : decode prog_13_method_53_code 45 = .ok (.iload_n 1, 1) := by decide +kernel
theorem dX11_mark_46 : decode prog_13_method_53_code 46 = .ok (.aload_n 0, 1) := by decide +kernel
theorem dX11_mark_47 : decode prog_13_method_53_code 47 = .ok (.iload_n 1, 1) := by decide +kernel
theorem dX11_mark_48 : decode prog_13_method_53_code 48 = .ok (.iload_n 2, 1) := by decide +kernel
theorem dX11_mark_49 : decode prog_13_method_53_code 49 = .ok (.invokevirtual 167, 3) := by decide +kernel
theorem dX11_mark_52 : decode prog_13_method_53_code 52 = .ok (.iconst 0, 1) := by decide +kernel
theorem dX11_mark_53 : decode prog_13_method_53_code 53 = .ok (.invokevirtual 80, 3) := by decide +kernel
theorem dX11_mark_56 : decode prog_13_method_53_code 56 = .ok (.ireturn, 1) := by decide +kernel
theorem nX11_level : zDs yX11_level 2 := ⟨by decide, by decide, by decide +kernel⟩
theorem dX11_level_0 : decode prog_13_method_54_code 0 = .ok (.aload_n 0, 1) := by decide +kernel
theorem dX11_level_1 : decode prog_13_method_54_code 1 = .ok (.aload_n 0, 1) := by decide +kernel
theorem dX11_level_2 : decode prog_13_method_54_code 2 = .ok (.iload_n 1, 1) := by decide +kernel
theorem dX11_level_3 : decode prog_13_method_54_code 3 = .ok (.invokevirtual 101, 3) := by decide +kernel
theorem dX11_level_6 : decode prog_13_method_54_code 6 = .ok (.ifCond .eq 15, 3) := by decide +kernel
theorem dX11_level_9 : decode prog_13_method_54_code 9 = .ok (.aload_n 0, 1) := by decide +kernel
theorem dX11_level_10 : decode prog_13_method_54_code 10 = .ok (.iload_n 2, 1) := by decide +kernel
theorem dX11_level_11 : decode prog_13_method_54_code 11 = .ok (.invokevirtual 105, 3) := by decide +kernel
theorem dX11_level_14 : decode prog_13_method_54_code 14 = .ok (.ifCond .eq 7, 3) := by decide +kernel
theorem dX11_level_17 : decode prog_13_method_54_code 17 = .ok (.iconst 0, 1) := by decide +kernel
theorem dX11_level_18 : decode prog_13_method_54_code 18 = .ok (.goto 4, 3) := by decide +kernel
theorem dX11_level_21 : decode prog_13_method_54_code 21 = .ok (.iconst 1, 1) := by decide +kernel
theorem dX11_level_22 : decode prog_13_method_54_code 22 = .ok (.invokevirtual 149, 3) := by decide +kernel
theorem dX11_level_25 : decode prog_13_method_54_code 25 = .ok (.ifCond .eq 7, 3) := by decide +kernel
theorem dX11_level_28 : decode prog_13_method_54_code 28 = .ok (.iconst 0, 1) := by decide +kernel
theorem dX11_level_29 : decode prog_13_method_54_code 29 = .ok (.goto 9, 3) := by decide +kernel
theorem dX11_level_32 : decode prog_13_method_54_code 32 = .ok (.aload_n 0, 1) := by decide +kernel
theorem dX11_level_33 : decode prog_13_method_54_code 33 = .ok (.iload_n 1, 1) := by decide +kernel
theorem dX11_level_34 : decode prog_13_method_54_code 34 = .ok (.iload_n 2, 1) := by decide +kernel
theorem dX11_level_35 : decode prog_13_method_54_code 35 = .ok (.invokevirtual 73, 3) := by decide +kernel
theorem dX11_level_38 : decode prog_13_method_54_code 38 = .ok (.ireturn, 1) := by decide +kernel
theorem nX11_reads : zDs yX11_reads 2 := ⟨by decide, by decide, by decide +kernel⟩
theorem dX11_reads_0 : decode prog_13_method_55_code 0 = .ok (.aload_n 0, 1) := by decide +kernel
theorem dX11_reads_1 : decode prog_13_method_55_code 1 = .ok (.aload_n 0, 1) := by decide +kernel
theorem dX11_reads_2 : decode prog_13_method_55_code 2 = .ok (.iload_n 1, 1) := by decide +kernel
theorem dX11_reads_3 : decode prog_13_method_55_code 3 = .ok (.invokevirtual 101, 3) := by decide +kernel
theorem dX11_reads_6 : decode prog_13_method_55_code 6 = .ok (.ifCond .eq 15, 3) := by decide +kernel
theorem dX11_reads_9 : decode prog_13_method_55_code 9 = .ok (.aload_n 0, 1) := by decide +kernel
theorem dX11_reads_10 : decode prog_13_method_55_code 10 = .ok (.iload_n 2, 1) := by decide +kernel
theorem dX11_reads_11 : decode prog_13_method_55_code 11 = .ok (.invokevirtual 105, 3) := by decide +kernel
theorem dX11_reads_14 : decode prog_13_method_55_code 14 = .ok (.ifCond .eq 7, 3) := by decide +kernel
theorem dX11_reads_17 : decode prog_13_method_55_code 17 = .ok (.iconst 0, 1) := by decide +kernel
theorem dX11_reads_18 : decode prog_13_method_55_code 18 = .ok (.goto 4, 3) := by decide +kernel
theorem dX11_reads_21 : decode prog_13_method_55_code 21 = .ok (.iconst 1, 1) := by decide +kernel
theorem dX11_reads_22 : decode prog_13_method_55_code 22 = .ok (.invokevirtual 149, 3) := by decide +kernel
theorem dX11_reads_25 : decode prog_13_method_55_code 25 = .ok (.ifCond .eq 7, 3) := by decide +kernel
theorem dX11_reads_28 : decode prog_13_method_55_code 28 = .ok (.iconst 0, 1) := by decide +kernel
theorem dX11_reads_29 : decode prog_13_method_55_code 29 = .ok (.goto 9, 3) := by decide +kernel
theorem dX11_reads_32 : decode prog_13_method_55_code 32 = .ok (.aload_n 0, 1) := by decide +kernel
theorem dX11_reads_33 : decode prog_13_method_55_code 33 = .ok (.iload_n 1, 1) := by decide +kernel
theorem dX11_reads_34 : decode prog_13_method_55_code 34 = .ok (.iload_n 2, 1) := by decide +kernel
theorem dX11_reads_35 : decode prog_13_method_55_code 35 = .ok (.invokevirtual 114, 3) := by decide +kernel
theorem dX11_reads_38 : decode prog_13_method_55_code 38 = .ok (.ireturn, 1) := by decide +kernel
theorem nX11_shift : zDs yX11_shift 1 := ⟨by decide, by decide, by decide +kernel⟩
theorem dX11_shift_0 : decode prog_13_method_56_code 0 = .ok (.aload_n 0, 1) := by decide +kernel
theorem dX11_shift_1 : decode prog_13_method_56_code 1 = .ok (.iload_n 1, 1) := by decide +kernel
theorem dX11_shift_2 : decode prog_13_method_56_code 2 = .ok (.iconst 0, 1) := by decide +kernel
theorem dX11_shift_3 : decode prog_13_method_56_code 3 = .ok (.sipush 999, 3) := by decide +kernel
theorem dX11_shift_6 : decode prog_13_method_56_code 6 = .ok (.invokestatic 62, 3) := by decide +kernel
theorem dX11_shift_9 : decode prog_13_method_56_code 9 = .ok (.ifCond .eq 7, 3) := by decide +kernel
theorem dX11_shift_12 : decode prog_13_method_56_code 12 = .ok (.iconst 0, 1) := by decide +kernel
theorem dX11_shift_13 : decode prog_13_method_56_code 13 = .ok (.goto 4, 3) := by decide +kernel
theorem dX11_shift_16 : decode prog_13_method_56_code 16 = .ok (.iconst 1, 1) := by decide +kernel
theorem dX11_shift_17 : decode prog_13_method_56_code 17 = .ok (.invokevirtual 149, 3) := by decide +kernel
theorem dX11_shift_20 : decode prog_13_method_56_code 20 = .ok (.ifCond .eq 7, 3) := by decide +kernel
theorem dX11_shift_23 : decode prog_13_method_56_code 23 = .ok (.iconst 0, 1) := by decide +kernel
theorem dX11_shift_24 : decode prog_13_method_56_code 24 = .ok (.goto 8, 3) := by decide +kernel
theorem dX11_shift_27 : decode prog_13_method_56_code 27 = .ok (.aload_n 0, 1) := by decide +kernel
theorem dX11_shift_28 : decode prog_13_method_56_code 28 = .ok (.iload_n 1, 1) := by decide +kernel
theorem dX11_shift_29 : decode prog_13_method_56_code 29 = .ok (.invokevirtual 76, 3) := by decide +kernel
theorem dX11_shift_32 : decode prog_13_method_56_code 32 = .ok (.ireturn, 1) := by decide +kernel
theorem nX11_errorIn : zDs yX11_errorIn 2 := ⟨by decide, by decide, by decide +kernel⟩
theorem dX11_errorIn_0 : decode prog_13_method_57_code 0 = .ok (.aload_n 0, 1) := by decide +kernel
theorem dX11_errorIn_1 : decode prog_13_method_57_code 1 = .ok (.aload_n 0, 1) := by decide +kernel
theorem dX11_errorIn_2 : decode prog_13_method_57_code 2 = .ok (.iload_n 1, 1) := by decide +kernel
theorem dX11_errorIn_3 : decode prog_13_method_57_code 3 = .ok (.invokevirtual 101, 3) := by decide +kernel
theorem dX11_errorIn_6 : decode prog_13_method_57_code 6 = .ok (.ifCond .ne 7, 3) := by decide +kernel
theorem dX11_errorIn_9 : decode prog_13_method_57_code 9 = .ok (.iconst 1, 1) := by decide +kernel
theorem dX11_errorIn_10 : decode prog_13_method_57_code 10 = .ok (.goto 18, 3) := by decide +kernel
theorem dX11_errorIn_13 : decode prog_13_method_57_code 13 = .ok (.iload_n 2, 1) := by decide +kernel
theorem dX11_errorIn_14 : decode prog_13_method_57_code 14 = .ok (.iconst 0, 1) := by decide +kernel
theorem dX11_errorIn_15 : decode prog_13_method_57_code 15 = .ok (.bipush 60, 2) := by decide +kernel
theorem dX11_errorIn_17 : decode prog_13_method_57_code 17 = .ok (.invokestatic 62, 3) := by decide +kernel
theorem dX11_errorIn_20 : decode prog_13_method_57_code 20 = .ok (.ifCond .eq 7, 3) := by decide +kernel
theorem dX11_errorIn_23 : decode prog_13_method_57_code 23 = .ok (.iconst 0, 1) := by decide +kernel
theorem dX11_errorIn_24 : decode prog_13_method_57_code 24 = .ok (.goto 4, 3) := by decide +kernel
theorem dX11_errorIn_27 : decode prog_13_method_57_code 27 = .ok (.iconst 2, 1) := by decide +kernel
theorem dX11_errorIn_28 : decode prog_13_method_57_code 28 = .ok (.invokevirtual 149, 3) := by decide +kernel
theorem dX11_errorIn_31 : decode prog_13_method_57_code 31 = .ok (.ifCond .eq 5, 3) := by decide +kernel
theorem dX11_errorIn_34 : decode prog_13_method_57_code 34 = .ok (.iconst 0, 1) := by decide +kernel
theorem dX11_errorIn_35 : decode prog_13_method_57_code 35 = .ok (.ireturn, 1) := by decide +kernel
theorem dX11_errorIn_36 : decode prog_13_method_57_code 36 = .ok (.aload_n 0, 1) := by decide +kernel
theorem dX11_errorIn_37 : decode prog_13_method_57_code 37 = .ok (.iload_n 1, 1) := by decide +kernel
theorem dX11_errorIn_38 : decode prog_13_method_57_code 38 = .ok (.iconst 3, 1) := by decide +kernel
theorem dX11_errorIn_39 : decode prog_13_method_57_code 39 = .ok (.invokevirtual 70, 3) := by decide +kernel
theorem dX11_errorIn_42 : decode prog_13_method_57_code 42 = .ok (.istore_n 3, 1) := by decide +kernel
theorem dX11_errorIn_43 : decode prog_13_method_57_code 43 = .ok (.aload_n 0, 1) := by decide +kernel
theorem dX11_errorIn_44 : decode prog_13_method_57_code 44 = .ok (.getfield 7, 3) := by decide +kernel
theorem dX11_errorIn_47 : decode prog_13_method_57_code 47 = .ok (.iconst 0, 1) := by decide +kernel
theorem dX11_errorIn_48 : decode prog_13_method_57_code 48 = .ok (.iaload, 1) := by decide +kernel
theorem dX11_errorIn_49 : decode prog_13_method_57_code 49 = .ok (.iconst 1, 1) := by decide +kernel
theorem dX11_errorIn_50 : decode prog_13_method_57_code 50 = .ok (.iadd, 1) := by decide +kernel
theorem dX11_errorIn_51 : decode prog_13_method_57_code 51 = .ok (.istore 4, 2) := by decide +kernel
theorem dX11_errorIn_53 : decode prog_13_method_57_code 53 = .ok (.iload 4, 2) := by decide +kernel
theorem dX11_errorIn_55 : decode prog_13_method_57_code 55 = .ok (.aload_n 0, 1) := by decide +kernel
theorem dX11_errorIn_56 : decode prog_13_method_57_code 56 = .ok (.getfield 7, 3) := by decide +kernel
theorem dX11_errorIn_59 : decode prog_13_method_57_code 59 = .ok (.iconst 0, 1) := by decide +kernel
theorem dX11_errorIn_60 : decode prog_13_method_57_code 60 = .ok (.iaload, 1) := by decide +kernel
theorem dX11_errorIn_61 : decode prog_13_method_57_code 61 = .ok (.iload_n 2, 1) := by decide +kernel
theorem dX11_errorIn_62 : decode prog_13_method_57_code 62 = .ok (.iadd, 1) := by decide +kernel
theorem dX11_errorIn_63 : decode prog_13_method_57_code 63 = .ok (.if_icmp .gt 21, 3) := by decide +kernel
theorem dX11_errorIn_66 : decode prog_13_method_57_code 66 = .ok (.iload 4, 2) := by decide +kernel
theorem dX11_errorIn_68 : decode prog_13_method_57_code 68 = .ok (.iconst 3, 1) := by decide +kernel
theorem dX11_errorIn_69 : decode prog_13_method_57_code 69 = .ok (.irem, 1) := by decide +kernel
theorem dX11_errorIn_70 : decode prog_13_method_57_code 70 = .ok (.ifCond .ne 8, 3) := by decide +kernel
theorem dX11_errorIn_73 : decode prog_13_method_57_code 73 = .ok (.iload_n 3, 1) := by decide +kernel
theorem dX11_errorIn_74 : decode prog_13_method_57_code 74 = .ok (.invokestatic 127, 3) := by decide +kernel
theorem dX11_errorIn_77 : decode prog_13_method_57_code 77 = .ok (.istore_n 3, 1) := by decide +kernel
theorem dX11_errorIn_78 : decode prog_13_method_57_code 78 = .ok (.iinc 4 1, 3) := by decide +kernel
theorem dX11_errorIn_81 : decode prog_13_method_57_code 81 = .ok (.goto (-28), 3) := by decide +kernel
theorem dX11_errorIn_84 : decode prog_13_method_57_code 84 = .ok (.iload_n 3, 1) := by decide +kernel
theorem dX11_errorIn_85 : decode prog_13_method_57_code 85 = .ok (.ireturn, 1) := by decide +kernel
theorem nX11_rises : zDs yX11_rises 1 := ⟨by decide, by decide, by decide +kernel⟩
theorem dX11_rises_0 : decode prog_13_method_58_code 0 = .ok (.aload_n 0, 1) := by decide +kernel
theorem dX11_rises_1 : decode prog_13_method_58_code 1 = .ok (.aload_n 0, 1) := by decide +kernel
theorem dX11_rises_2 : decode prog_13_method_58_code 2 = .ok (.iload_n 1, 1) := by decide +kernel
theorem dX11_rises_3 : decode prog_13_method_58_code 3 = .ok (.invokevirtual 101, 3) := by decide +kernel
theorem dX11_rises_6 : decode prog_13_method_58_code 6 = .ok (.ifCond .eq 7, 3) := by decide +kernel
theorem dX11_rises_9 : decode prog_13_method_58_code 9 = .ok (.iconst 0, 1) := by decide +kernel
theorem dX11_rises_10 : decode prog_13_method_58_code 10 = .ok (.goto 4, 3) := by decide +kernel
theorem dX11_rises_13 : decode prog_13_method_58_code 13 = .ok (.iconst 1, 1) := by decide +kernel
theorem dX11_rises_14 : decode prog_13_method_58_code 14 = .ok (.invokevirtual 149, 3) := by decide +kernel
theorem dX11_rises_17 : decode prog_13_method_58_code 17 = .ok (.ifCond .ne 15, 3) := by decide +kernel
theorem dX11_rises_20 : decode prog_13_method_58_code 20 = .ok (.aload_n 0, 1) := by decide +kernel
theorem dX11_rises_21 : decode prog_13_method_58_code 21 = .ok (.iload_n 1, 1) := by decide +kernel
theorem dX11_rises_22 : decode prog_13_method_58_code 22 = .ok (.invokevirtual 152, 3) := by decide +kernel
theorem dX11_rises_25 : decode prog_13_method_58_code 25 = .ok (.ifCond .ne 7, 3) := by decide +kernel
theorem dX11_rises_28 : decode prog_13_method_58_code 28 = .ok (.iconst 1, 1) := by decide +kernel
theorem dX11_rises_29 : decode prog_13_method_58_code 29 = .ok (.goto 4, 3) := by decide +kernel
theorem dX11_rises_32 : decode prog_13_method_58_code 32 = .ok (.iconst 0, 1) := by decide +kernel
theorem dX11_rises_33 : decode prog_13_method_58_code 33 = .ok (.ireturn, 1) := by decide +kernel
theorem nX11_isAhead : zDs yX11_isAhead 2 := ⟨by decide, by decide, by decide +kernel⟩
theorem dX11_isAhead_0 : decode prog_13_method_59_code 0 = .ok (.aload_n 0, 1) := by decide +kernel
theorem dX11_isAhead_1 : decode prog_13_method_59_code 1 = .ok (.iload_n 1, 1) := by decide +kernel
theorem dX11_isAhead_2 : decode prog_13_method_59_code 2 = .ok (.invokevirtual 158, 3) := by decide +kernel
theorem dX11_isAhead_5 : decode prog_13_method_59_code 5 = .ok (.aload_n 0, 1) := by decide +kernel
theorem dX11_isAhead_6 : decode prog_13_method_59_code 6 = .ok (.iload_n 2, 1) := by decide +kernel
theorem dX11_isAhead_7 : decode prog_13_method_59_code 7 = .ok (.invokevirtual 158, 3) := by decide +kernel
theorem dX11_isAhead_10 : decode prog_13_method_59_code 10 = .ok (.if_icmp .eq 22, 3) := by decide +kernel
theorem dX11_isAhead_13 : decode prog_13_method_59_code 13 = .ok (.aload_n 0, 1) := by decide +kernel
theorem dX11_isAhead_14 : decode prog_13_method_59_code 14 = .ok (.iload_n 1, 1) := by decide +kernel
theorem dX11_isAhead_15 : decode prog_13_method_59_code 15 = .ok (.invokevirtual 158, 3) := by decide +kernel
theorem dX11_isAhead_18 : decode prog_13_method_59_code 18 = .ok (.aload_n 0, 1) := by decide +kernel
theorem dX11_isAhead_19 : decode prog_13_method_59_code 19 = .ok (.iload_n 2, 1) := by decide +kernel
theorem dX11_isAhead_20 : decode prog_13_method_59_code 20 = .ok (.invokevirtual 158, 3) := by decide +kernel
theorem dX11_isAhead_23 : decode prog_13_method_59_code 23 = .ok (.if_icmp .le 7, 3) := by decide +kernel
theorem dX11_isAhead_26 : decode prog_13_method_59_code 26 = .ok (.iconst 1, 1) := by decide +kernel
theorem dX11_isAhead_27 : decode prog_13_method_59_code 27 = .ok (.goto 4, 3) := by decide +kernel
theorem dX11_isAhead_30 : decode prog_13_method_59_code 30 = .ok (.iconst 0, 1) := by decide +kernel
theorem dX11_isAhead_31 : decode prog_13_method_59_code 31 = .ok (.ireturn, 1) := by decide +kernel
theorem dX11_isAhead_32 : decode prog_13_method_59_code 32 = .ok (.aload_n 0, 1) := by decide +kernel
theorem dX11_isAhead_33 : decode prog_13_method_59_code 33 = .ok (.iload_n 1, 1) := by decide +kernel
theorem dX11_isAhead_34 : decode prog_13_method_59_code 34 = .ok (.iconst 1, 1) := by decide +kernel
theorem dX11_isAhead_35 : decode prog_13_method_59_code 35 = .ok (.invokevirtual 66, 3) := by decide +kernel
theorem dX11_isAhead_38 : decode prog_13_method_59_code 38 = .ok (.aload_n 0, 1) := by decide +kernel
theorem dX11_isAhead_39 : decode prog_13_method_59_code 39 = .ok (.iload_n 2, 1) := by decide +kernel
theorem dX11_isAhead_40 : decode prog_13_method_59_code 40 = .ok (.iconst 1, 1) := by decide +kernel
theorem dX11_isAhead_41 : decode prog_13_method_59_code 41 = .ok (.invokevirtual 66, 3) := by decide +kernel
theorem dX11_isAhead_44 : decode prog_13_method_59_code 44 = .ok (.if_icmp .eq 26, 3) := by decide +kernel
theorem dX11_isAhead_47 : decode prog_13_method_59_code 47 = .ok (.aload_n 0, 1) := by decide +kernel
theorem dX11_isAhead_48 : decode prog_13_method_59_code 48 = .ok (.iload_n 1, 1) := by decide +kernel
theorem dX11_isAhead_49 : decode prog_13_method_59_code 49 = .ok (.iconst 1, 1) := by decide +kernel
theorem dX11_isAhead_50 : decode prog_13_method_59_code 50 = .ok (.invokevirtual 66, 3) := by decide +kernel
theorem dX11_isAhead_53 : decode prog_13_method_59_code 53 = .ok (.aload_n 0, 1) := by decide +kernel
theorem dX11_isAhead_54 : decode prog_13_method_59_code 54 = .ok (.iload_n 2, 1) := by decide +kernel
theorem dX11_isAhead_55 : decode prog_13_method_59_code 55 = .ok (.iconst 1, 1) := by decide +kernel
theorem dX11_isAhead_56 : decode prog_13_method_59_code 56 = .ok (.invokevirtual 66, 3) := by decide +kernel
theorem dX11_isAhead_59 : decode prog_13_method_59_code 59 = .ok (.if_icmp .le 7, 3) := by decide +kernel
theorem dX11_isAhead_62 : decode prog_13_method_59_code 62 = .ok (.iconst 1, 1) := by decide +kernel
theorem dX11_isAhead_63 : decode prog_13_method_59_code 63 = .ok (.goto 27, 3) := by decide +kernel
theorem dX11_isAhead_66 : decode prog_13_method_59_code 66 = .ok (.iconst 0, 1) := by decide +kernel
theorem dX11_isAhead_67 : decode prog_13_method_59_code 67 = .ok (.goto 23, 3) := by decide +kernel
theorem dX11_isAhead_70 : decode prog_13_method_59_code 70 = .ok (.aload_n 0, 1) := by decide +kernel
theorem dX11_isAhead_71 : decode prog_13_method_59_code 71 = .ok (.iload_n 1, 1) := by decide +kernel
theorem dX11_isAhead_72 : decode prog_13_method_59_code 72 = .ok (.iconst 0, 1) := by decide +kernel
theorem dX11_isAhead_73 : decode prog_13_method_59_code 73 = .ok (.invokevirtual 66, 3) := by decide +kernel
theorem dX11_isAhead_76 : decode prog_13_method_59_code 76 = .ok (.aload_n 0, 1) := by decide +kernel
theorem dX11_isAhead_77 : decode prog_13_method_59_code 77 = .ok (.iload_n 2, 1) := by decide +kernel
theorem dX11_isAhead_78 : decode prog_13_method_59_code 78 = .ok (.iconst 0, 1) := by decide +kernel
theorem dX11_isAhead_79 : decode prog_13_method_59_code 79 = .ok (.invokevirtual 66, 3) := by decide +kernel
theorem dX11_isAhead_82 : decode prog_13_method_59_code 82 = .ok (.if_icmp .ge 7, 3) := by decide +kernel
theorem dX11_isAhead_85 : decode prog_13_method_59_code 85 = .ok (.iconst 1, 1) := by decide +kernel
theorem dX11_isAhead_86 : decode prog_13_method_59_code 86 = .ok (.goto 4, 3) := by decide +kernel
theorem dX11_isAhead_89 : decode prog_13_method_59_code 89 = .ok (.iconst 0, 1) := by decide +kernel
theorem dX11_isAhead_90 : decode prog_13_method_59_code 90 = .ok (.ireturn, 1) := by decide +kernel
theorem nX11_rankOf : zDs yX11_rankOf 1 := ⟨by decide, by decide, by decide +kernel⟩
theorem dX11_rankOf_0 : decode prog_13_method_60_code 0 = .ok (.iconst 0, 1) := by decide +kernel
theorem dX11_rankOf_1 : decode prog_13_method_60_code 1 = .ok (.istore_n 2, 1) := by decide +kernel
theorem dX11_rankOf_2 : decode prog_13_method_60_code 2 = .ok (.iconst 0, 1) := by decide +kernel
theorem dX11_rankOf_3 : decode prog_13_method_60_code 3 = .ok (.istore_n 3, 1) := by decide +kernel
theorem dX11_rankOf_4 : decode prog_13_method_60_code 4 = .ok (.iload_n 3, 1) := by decide +kernel
theorem dX11_rankOf_5 : decode prog_13_method_60_code 5 = .ok (.aload_n 0, 1) := by decide +kernel
theorem dX11_rankOf_6 : decode prog_13_method_60_code 6 = .ok (.getfield 7, 3) := by decide +kernel
theorem dX11_rankOf_9 : decode prog_13_method_60_code 9 = .ok (.sipush 179, 3) := by decide +kernel
theorem dX11_rankOf_12 : decode prog_13_method_60_code 12 = .ok (.iaload, 1) := by decide +kernel
theorem dX11_rankOf_13 : decode prog_13_method_60_code 13 = .ok (.if_icmp .ge 31, 3) := by decide +kernel
theorem dX11_rankOf_16 : decode prog_13_method_60_code 16 = .ok (.iload_n 2, 1) := by decide +kernel
theorem dX11_rankOf_17 : decode prog_13_method_60_code 17 = .ok (.iload_n 3, 1) := by decide +kernel
theorem dX11_rankOf_18 : decode prog_13_method_60_code 18 = .ok (.iload_n 1, 1) := by decide +kernel
theorem dX11_rankOf_19 : decode prog_13_method_60_code 19 = .ok (.if_icmp .eq 16, 3) := by decide +kernel
theorem dX11_rankOf_22 : decode prog_13_method_60_code 22 = .ok (.aload_n 0, 1) := by decide +kernel
theorem dX11_rankOf_23 : decode prog_13_method_60_code 23 = .ok (.iload_n 3, 1) := by decide +kernel
theorem dX11_rankOf_24 : decode prog_13_method_60_code 24 = .ok (.iload_n 1, 1) := by decide +kernel
theorem dX11_rankOf_25 : decode prog_13_method_60_code 25 = .ok (.invokevirtual 170, 3) := by decide +kernel
theorem dX11_rankOf_28 : decode prog_13_method_60_code 28 = .ok (.ifCond .eq 7, 3) := by decide +kernel
theorem dX11_rankOf_31 : decode prog_13_method_60_code 31 = .ok (.iconst 1, 1) := by decide +kernel
theorem dX11_rankOf_32 : decode prog_13_method_60_code 32 = .ok (.goto 4, 3) := by decide +kernel
theorem dX11_rankOf_35 : decode prog_13_method_60_code 35 = .ok (.iconst 0, 1) := by decide +kernel
theorem dX11_rankOf_36 : decode prog_13_method_60_code 36 = .ok (.iadd, 1) := by decide +kernel
theorem dX11_rankOf_37 : decode prog_13_method_60_code 37 = .ok (.istore_n 2, 1) := by decide +kernel
theorem dX11_rankOf_38 : decode prog_13_method_60_code 38 = .ok (.iinc 3 1, 3) := by decide +kernel
theorem dX11_rankOf_41 : decode prog_13_method_60_code 41 = .ok (.goto (-37), 3) := by decide +kernel
theorem dX11_rankOf_44 : decode prog_13_method_60_code 44 = .ok (.iload_n 2, 1) := by decide +kernel
theorem dX11_rankOf_45 : decode prog_13_method_60_code 45 = .ok (.ireturn, 1) := by decide +kernel
theorem nX11_ranked : zDs yX11_ranked 1 := ⟨by decide, by decide, by decide +kernel⟩
theorem dX11_ranked_0 : decode prog_13_method_61_code 0 = .ok (.iconst 0, 1) := by decide +kernel
theorem dX11_ranked_1 : decode prog_13_method_61_code 1 = .ok (.istore_n 2, 1) := by decide +kernel
theorem dX11_ranked_2 : decode prog_13_method_61_code 2 = .ok (.iload_n 2, 1) := by decide +kernel
theorem dX11_ranked_3 : decode prog_13_method_61_code 3 = .ok (.aload_n 0, 1) := by decide +kernel
theorem dX11_ranked_4 : decode prog_13_method_61_code 4 = .ok (.getfield 7, 3) := by decide +kernel
theorem dX11_ranked_7 : decode prog_13_method_61_code 7 = .ok (.sipush 179, 3) := by decide +kernel
theorem dX11_ranked_10 : decode prog_13_method_61_code 10 = .ok (.iaload, 1) := by decide +kernel
theorem dX11_ranked_11 : decode prog_13_method_61_code 11 = .ok (.if_icmp .ge 18, 3) := by decide +kernel
theorem dX11_ranked_14 : decode prog_13_method_61_code 14 = .ok (.aload_n 0, 1) := by decide +kernel
theorem dX11_ranked_15 : decode prog_13_method_61_code 15 = .ok (.iload_n 2, 1) := by decide +kernel
theorem dX11_ranked_16 : decode prog_13_method_61_code 16 = .ok (.invokevirtual 174, 3) := by decide +kernel
theorem dX11_ranked_19 : decode prog_13_method_61_code 19 = .ok (.iload_n 1, 1) := by decide +kernel
theorem dX11_ranked_20 : decode prog_13_method_61_code 20 = .ok (.if_icmp .eq 9, 3) := by decide +kernel
theorem dX11_ranked_23 : decode prog_13_method_61_code 23 = .ok (.iinc 2 1, 3) := by decide +kernel
theorem dX11_ranked_26 : decode prog_13_method_61_code 26 = .ok (.goto (-24), 3) := by decide +kernel
theorem dX11_ranked_29 : decode prog_13_method_61_code 29 = .ok (.aload_n 0, 1) := by decide +kernel
theorem dX11_ranked_30 : decode prog_13_method_61_code 30 = .ok (.iload_n 2, 1) := by decide +kernel
theorem dX11_ranked_31 : decode prog_13_method_61_code 31 = .ok (.aload_n 0, 1) := by decide +kernel
theorem dX11_ranked_32 : decode prog_13_method_61_code 32 = .ok (.getfield 7, 3) := by decide +kernel
theorem dX11_ranked_35 : decode prog_13_method_61_code 35 = .ok (.sipush 179, 3) := by decide +kernel
theorem dX11_ranked_38 : decode prog_13_method_61_code 38 = .ok (.iaload, 1) := by decide +kernel
theorem dX11_ranked_39 : decode prog_13_method_61_code 39 = .ok (.if_icmp .ne 7, 3) := by decide +kernel
theorem dX11_ranked_42 : decode prog_13_method_61_code 42 = .ok (.iconst 1, 1) := by decide +kernel
theorem dX11_ranked_43 : decode prog_13_method_61_code 43 = .ok (.goto 4, 3) := by decide +kernel
theorem dX11_ranked_46 : decode prog_13_method_61_code 46 = .ok (.iconst 0, 1) := by decide +kernel
theorem dX11_ranked_47 : decode prog_13_method_61_code 47 = .ok (.invokevirtual 149, 3) := by decide +kernel
theorem dX11_ranked_50 : decode prog_13_method_61_code 50 = .ok (.ifCond .eq 7, 3) := by decide +kernel
theorem dX11_ranked_53 : decode prog_13_method_61_code 53 = .ok (.iconst 0, 1) := by decide +kernel
theorem dX11_ranked_54 : decode prog_13_method_61_code 54 = .ok (.goto 4, 3) := by decide +kernel
theorem dX11_ranked_57 : decode prog_13_method_61_code 57 = .ok (.iload_n 2, 1) := by decide +kernel
theorem dX11_ranked_58 : decode prog_13_method_61_code 58 = .ok (.ireturn, 1) := by decide +kernel
theorem nX11_doubts : zDs yX11_doubts 0 := ⟨by decide, by decide, by decide +kernel⟩
theorem dX11_doubts_0 : decode prog_13_method_62_code 0 = .ok (.aload_n 0, 1) := by decide +kernel
theorem dX11_doubts_1 : decode prog_13_method_62_code 1 = .ok (.iconst 0, 1) := by decide +kernel
theorem dX11_doubts_2 : decode prog_13_method_62_code 2 = .ok (.putfield 36, 3) := by decide +kernel
theorem dX11_doubts_5 : decode prog_13_method_62_code 5 = .ok (.iconst 0, 1) := by decide +kernel
theorem dX11_doubts_6 : decode prog_13_method_62_code 6 = .ok (.istore_n 1, 1) := by decide +kernel
theorem dX11_doubts_7 : decode prog_13_method_62_code 7 = .ok (.iconst 0, 1) := by decide +kernel
theorem dX11_doubts_8 : decode prog_13_method_62_code 8 = .ok (.istore_n 2, 1) := by decide +kernel
theorem dX11_doubts_9 : decode prog_13_method_62_code 9 = .ok (.iload_n 2, 1) := by decide +kernel
theorem dX11_doubts_10 : decode prog_13_method_62_code 10 = .ok (.aload_n 0, 1) := by decide +kernel
theorem dX11_doubts_11 : decode prog_13_method_62_code 11 = .ok (.getfield 7, 3) := by decide +kernel
theorem dX11_doubts_14 : decode prog_13_method_62_code 14 = .ok (.iconst 4, 1) := by decide +kernel
theorem dX11_doubts_15 : decode prog_13_method_62_code 15 = .ok (.iaload, 1) := by decide +kernel
theorem dX11_doubts_16 : decode prog_13_method_62_code 16 = .ok (.if_icmp .ge 17, 3) := by decide +kernel
theorem dX11_doubts_19 : decode prog_13_method_62_code 19 = .ok (.iload_n 1, 1) := by decide +kernel
theorem dX11_doubts_20 : decode prog_13_method_62_code 20 = .ok (.aload_n 0, 1) := by decide +kernel
theorem dX11_doubts_21 : decode prog_13_method_62_code 21 = .ok (.iload_n 2, 1) := by decide +kernel
theorem dX11_doubts_22 : decode prog_13_method_62_code 22 = .ok (.invokevirtual 152, 3) := by decide +kernel
theorem dX11_doubts_25 : decode prog_13_method_62_code 25 = .ok (.iadd, 1) := by decide +kernel
theorem dX11_doubts_26 : decode prog_13_method_62_code 26 = .ok (.istore_n 1, 1) := by decide +kernel
theorem dX11_doubts_27 : decode prog_13_method_62_code 27 = .ok (.iinc 2 1, 3) := by decide +kernel
theorem dX11_doubts_30 : decode prog_13_method_62_code 30 = .ok (.goto (-21), 3) := by decide +kernel
theorem dX11_doubts_33 : decode prog_13_method_62_code 33 = .ok (.iload_n 1, 1) := by decide +kernel
theorem dX11_doubts_34 : decode prog_13_method_62_code 34 = .ok (.ireturn, 1) := by decide +kernel
theorem nX11_doubtsAgain : zDs yX11_doubtsAgain 0 := ⟨by decide, by decide, by decide +kernel⟩
theorem dX11_doubtsAgain_0 : decode prog_13_method_63_code 0 = .ok (.aload_n 0, 1) := by decide +kernel
theorem dX11_doubtsAgain_1 : decode prog_13_method_63_code 1 = .ok (.iconst 0, 1) := by decide +kernel
theorem dX11_doubtsAgain_2 : decode prog_13_method_63_code 2 = .ok (.putfield 36, 3) := by decide +kernel
theorem dX11_doubtsAgain_5 : decode prog_13_method_63_code 5 = .ok (.iconst 0, 1) := by decide +kernel
theorem dX11_doubtsAgain_6 : decode prog_13_method_63_code 6 = .ok (.istore_n 1, 1) := by decide +kernel
theorem dX11_doubtsAgain_7 : decode prog_13_method_63_code 7 = .ok (.iconst 0, 1) := by decide +kernel
theorem dX11_doubtsAgain_8 : decode prog_13_method_63_code 8 = .ok (.istore_n 2, 1) := by decide +kernel
theorem dX11_doubtsAgain_9 : decode prog_13_method_63_code 9 = .ok (.iload_n 2, 1) := by decide +kernel
theorem dX11_doubtsAgain_10 : decode prog_13_method_63_code 10 = .ok (.aload_n 0, 1) := by decide +kernel
theorem dX11_doubtsAgain_11 : decode prog_13_method_63_code 11 = .ok (.getfield 7, 3) := by decide +kernel
theorem dX11_doubtsAgain_14 : decode prog_13_method_63_code 14 = .ok (.sipush 179, 3) := by decide +kernel
theorem dX11_doubtsAgain_17 : decode prog_13_method_63_code 17 = .ok (.iaload, 1) := by decide +kernel
theorem dX11_doubtsAgain_18 : decode prog_13_method_63_code 18 = .ok (.if_icmp .ge 17, 3) := by decide +kernel
theorem dX11_doubtsAgain_21 : decode prog_13_method_63_code 21 = .ok (.iload_n 1, 1) := by decide +kernel
theorem dX11_doubtsAgain_22 : decode prog_13_method_63_code 22 = .ok (.aload_n 0, 1) := by decide +kernel
theorem dX11_doubtsAgain_23 : decode prog_13_method_63_code 23 = .ok (.iload_n 2, 1) := by decide +kernel
theorem dX11_doubtsAgain_24 : decode prog_13_method_63_code 24 = .ok (.invokevirtual 146, 3) := by decide +kernel
theorem dX11_doubtsAgain_27 : decode prog_13_method_63_code 27 = .ok (.iadd, 1) := by decide +kernel
theorem dX11_doubtsAgain_28 : decode prog_13_method_63_code 28 = .ok (.istore_n 1, 1) := by decide +kernel
theorem dX11_doubtsAgain_29 : decode prog_13_method_63_code 29 = .ok (.iinc 2 1, 3) := by decide +kernel
theorem dX11_doubtsAgain_32 : decode prog_13_method_63_code 32 = .ok (.goto (-23), 3) := by decide +kernel
theorem dX11_doubtsAgain_35 : decode prog_13_method_63_code 35 = .ok (.iload_n 1, 1) := by decide +kernel
theorem dX11_doubtsAgain_36 : decode prog_13_method_63_code 36 = .ok (.iconst 2, 1) := by decide +kernel
theorem dX11_doubtsAgain_37 : decode prog_13_method_63_code 37 = .ok (.idiv, 1) := by decide +kernel
theorem dX11_doubtsAgain_38 : decode prog_13_method_63_code 38 = .ok (.ireturn, 1) := by decide +kernel
theorem nX11_append : zDs yX11_append 1 := ⟨by decide, by decide, by decide +kernel⟩
theorem dX11_append_0 : decode prog_13_method_64_code 0 = .ok (.aload_n 0, 1) := by decide +kernel
theorem dX11_append_1 : decode prog_13_method_64_code 1 = .ok (.aload_n 0, 1) := by decide +kernel
theorem dX11_append_2 : decode prog_13_method_64_code 2 = .ok (.getfield 177, 3) := by decide +kernel
theorem dX11_append_5 : decode prog_13_method_64_code 5 = .ok (.bipush 60, 2) := by decide +kernel
theorem dX11_append_7 : decode prog_13_method_64_code 7 = .ok (.if_icmp .ne 7, 3) := by decide +kernel
theorem dX11_append_10 : decode prog_13_method_64_code 10 = .ok (.iconst 1, 1) := by decide +kernel
theorem dX11_append_11 : decode prog_13_method_64_code 11 = .ok (.goto 4, 3) := by decide +kernel
theorem dX11_append_14 : decode prog_13_method_64_code 14 = .ok (.iconst 0, 1) := by decide +kernel
theorem dX11_append_15 : decode prog_13_method_64_code 15 = .ok (.invokevirtual 149, 3) := by decide +kernel
theorem dX11_append_18 : decode prog_13_method_64_code 18 = .ok (.ifCond .eq 5, 3) := by decide +kernel
theorem dX11_append_21 : decode prog_13_method_64_code 21 = .ok (.iconst 0, 1) := by decide +kernel
theorem dX11_append_22 : decode prog_13_method_64_code 22 = .ok (.ireturn, 1) := by decide +kernel
theorem dX11_append_23 : decode prog_13_method_64_code 23 = .ok (.aload_n 0, 1) := by decide +kernel
theorem dX11_append_24 : decode prog_13_method_64_code 24 = .ok (.getfield 22, 3) := by decide +kernel
theorem dX11_append_27 : decode prog_13_method_64_code 27 = .ok (.aload_n 0, 1) := by decide +kernel
theorem dX11_append_28 : decode prog_13_method_64_code 28 = .ok (.getfield 177, 3) := by decide +kernel
theorem dX11_append_31 : decode prog_13_method_64_code 31 = .ok (.iload_n 1, 1) := by decide +kernel
theorem dX11_append_32 : decode prog_13_method_64_code 32 = .ok (.iastore, 1) := by decide +kernel
theorem dX11_append_33 : decode prog_13_method_64_code 33 = .ok (.aload_n 0, 1) := by decide +kernel
theorem dX11_append_34 : decode prog_13_method_64_code 34 = .ok (.dup, 1) := by decide +kernel
theorem dX11_append_35 : decode prog_13_method_64_code 35 = .ok (.getfield 177, 3) := by decide +kernel
theorem dX11_append_38 : decode prog_13_method_64_code 38 = .ok (.iconst 1, 1) := by decide +kernel
theorem dX11_append_39 : decode prog_13_method_64_code 39 = .ok (.iadd, 1) := by decide +kernel
theorem dX11_append_40 : decode prog_13_method_64_code 40 = .ok (.putfield 177, 3) := by decide +kernel
theorem dX11_append_43 : decode prog_13_method_64_code 43 = .ok (.aload_n 0, 1) := by decide +kernel
theorem dX11_append_44 : decode prog_13_method_64_code 44 = .ok (.getfield 177, 3) := by decide +kernel
theorem dX11_append_47 : decode prog_13_method_64_code 47 = .ok (.ireturn, 1) := by decide +kernel
theorem nX11_here : zDs yX11_here 0 := ⟨by decide, by decide, by decide +kernel⟩
theorem dX11_here_0 : decode prog_13_method_65_code 0 = .ok (.aload_n 0, 1) := by decide +kernel
theorem dX11_here_1 : decode prog_13_method_65_code 1 = .ok (.getfield 180, 3) := by decide +kernel
theorem dX11_here_4 : decode prog_13_method_65_code 4 = .ok (.aload_n 0, 1) := by decide +kernel
theorem dX11_here_5 : decode prog_13_method_65_code 5 = .ok (.getfield 177, 3) := by decide +kernel
theorem dX11_here_8 : decode prog_13_method_65_code 8 = .ok (.if_icmp .ge 15, 3) := by decide +kernel
theorem dX11_here_11 : decode prog_13_method_65_code 11 = .ok (.aload_n 0, 1) := by decide +kernel
theorem dX11_here_12 : decode prog_13_method_65_code 12 = .ok (.getfield 22, 3) := by decide +kernel
theorem dX11_here_15 : decode prog_13_method_65_code 15 = .ok (.aload_n 0, 1) := by decide +kernel
theorem dX11_here_16 : decode prog_13_method_65_code 16 = .ok (.getfield 180, 3) := by decide +kernel
theorem dX11_here_19 : decode prog_13_method_65_code 19 = .ok (.iaload, 1) := by decide +kernel
theorem dX11_here_20 : decode prog_13_method_65_code 20 = .ok (.goto 4, 3) := by decide +kernel
theorem dX11_here_23 : decode prog_13_method_65_code 23 = .ok (.iconst (-1), 1) := by decide +kernel
theorem dX11_here_24 : decode prog_13_method_65_code 24 = .ok (.ireturn, 1) := by decide +kernel
theorem nX11_skips : zDs yX11_skips 1 := ⟨by decide, by decide, by decide +kernel⟩
theorem dX11_skips_0 : decode prog_13_method_66_code 0 = .ok (.aload_n 0, 1) := by decide +kernel
theorem dX11_skips_1 : decode prog_13_method_66_code 1 = .ok (.invokevirtual 183, 3) := by decide +kernel
theorem dX11_skips_4 : decode prog_13_method_66_code 4 = .ok (.iload_n 1, 1) := by decide +kernel
theorem dX11_skips_5 : decode prog_13_method_66_code 5 = .ok (.if_icmp .eq 5, 3) := by decide +kernel
theorem dX11_skips_8 : decode prog_13_method_66_code 8 = .ok (.iconst 0, 1) := by decide +kernel
theorem dX11_skips_9 : decode prog_13_method_66_code 9 = .ok (.ireturn, 1) := by decide +kernel
theorem dX11_skips_10 : decode prog_13_method_66_code 10 = .ok (.aload_n 0, 1) := by decide +kernel
theorem dX11_skips_11 : decode prog_13_method_66_code 11 = .ok (.dup, 1) := by decide +kernel
theorem dX11_skips_12 : decode prog_13_method_66_code 12 = .ok (.getfield 180, 3) := by decide +kernel
theorem dX11_skips_15 : decode prog_13_method_66_code 15 = .ok (.iconst 1, 1) := by decide +kernel
theorem dX11_skips_16 : decode prog_13_method_66_code 16 = .ok (.iadd, 1) := by decide +kernel
theorem dX11_skips_17 : decode prog_13_method_66_code 17 = .ok (.putfield 180, 3) := by decide +kernel
theorem dX11_skips_20 : decode prog_13_method_66_code 20 = .ok (.iconst 1, 1) := by decide +kernel
theorem dX11_skips_21 : decode prog_13_method_66_code 21 = .ok (.ireturn, 1) := by decide +kernel
theorem nX11_number : zDs yX11_number 2 := ⟨by decide, by decide, by decide +kernel⟩
theorem dX11_number_0 : decode prog_13_method_67_code 0 = .ok (.aload_n 0, 1) := by decide +kernel
theorem dX11_number_1 : decode prog_13_method_67_code 1 = .ok (.invokevirtual 183, 3) := by decide +kernel
theorem dX11_number_4 : decode prog_13_method_67_code 4 = .ok (.bipush 48, 2) := by decide +kernel
theorem dX11_number_6 : decode prog_13_method_67_code 6 = .ok (.bipush 57, 2) := by decide +kernel
theorem dX11_number_8 : decode prog_13_method_67_code 8 = .ok (.invokestatic 62, 3) := by decide +kernel
theorem dX11_number_11 : decode prog_13_method_67_code 11 = .ok (.ifCond .ne 5, 3) := by decide +kernel
theorem dX11_number_14 : decode prog_13_method_67_code 14 = .ok (.iconst 0, 1) := by decide +kernel
theorem dX11_number_15 : decode prog_13_method_67_code 15 = .ok (.ireturn, 1) := by decide +kernel
theorem dX11_number_16 : decode prog_13_method_67_code 16 = .ok (.aload_n 0, 1) := by decide +kernel
theorem dX11_number_17 : decode prog_13_method_67_code 17 = .ok (.getfield 33, 3) := by decide +kernel
theorem dX11_number_20 : decode prog_13_method_67_code 20 = .ok (.iload_n 1, 1) := by decide +kernel
theorem dX11_number_21 : decode prog_13_method_67_code 21 = .ok (.iconst 0, 1) := by decide +kernel
theorem dX11_number_22 : decode prog_13_method_67_code 22 = .ok (.iastore, 1) := by decide +kernel
theorem dX11_number_23 : decode prog_13_method_67_code 23 = .ok (.iconst 0, 1) := by decide +kernel
theorem dX11_number_24 : decode prog_13_method_67_code 24 = .ok (.istore_n 3, 1) := by decide +kernel
theorem dX11_number_25 : decode prog_13_method_67_code 25 = .ok (.iload_n 3, 1) := by decide +kernel
theorem dX11_number_26 : decode prog_13_method_67_code 26 = .ok (.iload_n 2, 1) := by decide +kernel
theorem dX11_number_27 : decode prog_13_method_67_code 27 = .ok (.if_icmp .ge 56, 3) := by decide +kernel
theorem dX11_number_30 : decode prog_13_method_67_code 30 = .ok (.aload_n 0, 1) := by decide +kernel
theorem dX11_number_31 : decode prog_13_method_67_code 31 = .ok (.invokevirtual 183, 3) := by decide +kernel
theorem dX11_number_34 : decode prog_13_method_67_code 34 = .ok (.bipush 48, 2) := by decide +kernel
theorem dX11_number_36 : decode prog_13_method_67_code 36 = .ok (.bipush 57, 2) := by decide +kernel
theorem dX11_number_38 : decode prog_13_method_67_code 38 = .ok (.invokestatic 62, 3) := by decide +kernel
theorem dX11_number_41 : decode prog_13_method_67_code 41 = .ok (.ifCond .eq 42, 3) := by decide +kernel
theorem dX11_number_44 : decode prog_13_method_67_code 44 = .ok (.aload_n 0, 1) := by decide +kernel
theorem dX11_number_45 : decode prog_13_method_67_code 45 = .ok (.getfield 33, 3) := by decide +kernel
theorem dX11_number_48 : decode prog_13_method_67_code 48 = .ok (.iload_n 1, 1) := by decide +kernel
theorem dX11_number_49 : decode prog_13_method_67_code 49 = .ok (.bipush 10, 2) := by decide +kernel
theorem dX11_number_51 : decode prog_13_method_67_code 51 = .ok (.aload_n 0, 1) := by decide +kernel
theorem dX11_number_52 : decode prog_13_method_67_code 52 = .ok (.getfield 33, 3) := by decide +kernel
theorem dX11_number_55 : decode prog_13_method_67_code 55 = .ok (.iload_n 1, 1) := by decide +kernel
theorem dX11_number_56 : decode prog_13_method_67_code 56 = .ok (.iaload, 1) := by decide +kernel
theorem dX11_number_57 : decode prog_13_method_67_code 57 = .ok (.imul, 1) := by decide +kernel
theorem dX11_number_58 : decode prog_13_method_67_code 58 = .ok (.aload_n 0, 1) := by decide +kernel
theorem dX11_number_59 : decode prog_13_method_67_code 59 = .ok (.invokevirtual 183, 3) := by decide +kernel
theorem dX11_number_62 : decode prog_13_method_67_code 62 = .ok (.iadd, 1) := by decide +kernel
theorem dX11_number_63 : decode prog_13_method_67_code 63 = .ok (.bipush 48, 2) := by decide +kernel
theorem dX11_number_65 : decode prog_13_method_67_code 65 = .ok (.isub, 1) := by decide +kernel
theorem dX11_number_66 : decode prog_13_method_67_code 66 = .ok (.iastore, 1) := by decide +kernel
theorem dX11_number_67 : decode prog_13_method_67_code 67 = .ok (.aload_n 0, 1) := by decide +kernel
theorem dX11_number_68 : decode prog_13_method_67_code 68 = .ok (.dup, 1) := by decide +kernel
theorem dX11_number_69 : decode prog_13_method_67_code 69 = .ok (.getfield 180, 3) := by decide +kernel
theorem dX11_number_72 : decode prog_13_method_67_code 72 = .ok (.iconst 1, 1) := by decide +kernel
theorem dX11_number_73 : decode prog_13_method_67_code 73 = .ok (.iadd, 1) := by decide +kernel
theorem dX11_number_74 : decode prog_13_method_67_code 74 = .ok (.putfield 180, 3) := by decide +kernel
theorem dX11_number_77 : decode prog_13_method_67_code 77 = .ok (.iinc 3 1, 3) := by decide +kernel
theorem dX11_number_80 : decode prog_13_method_67_code 80 = .ok (.goto (-55), 3) := by decide +kernel
theorem dX11_number_83 : decode prog_13_method_67_code 83 = .ok (.iconst 1, 1) := by decide +kernel
theorem dX11_number_84 : decode prog_13_method_67_code 84 = .ok (.ireturn, 1) := by decide +kernel
theorem nX11_commandHere : zDs yX11_commandHere 0 := ⟨by decide, by decide, by decide +kernel⟩
theorem dX11_commandHere_0 : decode prog_13_method_68_code 0 = .ok (.iconst 4, 1) := by decide +kernel
theorem dX11_commandHere_1 : decode prog_13_method_68_code 1 = .ok (.aload_n 0, 1) := by decide +kernel
theorem dX11_commandHere_2 : decode prog_13_method_68_code 2 = .ok (.getfield 186, 3) := by decide +kernel
theorem dX11_commandHere_5 : decode prog_13_method_68_code 5 = .ok (.imul, 1) := by decide +kernel
theorem dX11_commandHere_6 : decode prog_13_method_68_code 6 = .ok (.istore_n 1, 1) := by decide +kernel
theorem dX11_commandHere_7 : decode prog_13_method_68_code 7 = .ok (.aload_n 0, 1) := by decide +kernel
theorem dX11_commandHere_8 : decode prog_13_method_68_code 8 = .ok (.getfield 33, 3) := by decide +kernel
theorem dX11_commandHere_11 : decode prog_13_method_68_code 11 = .ok (.iload_n 1, 1) := by decide +kernel
theorem dX11_commandHere_12 : decode prog_13_method_68_code 12 = .ok (.aload_n 0, 1) := by decide +kernel
theorem dX11_commandHere_13 : decode prog_13_method_68_code 13 = .ok (.invokevirtual 183, 3) := by decide +kernel
theorem dX11_commandHere_16 : decode prog_13_method_68_code 16 = .ok (.iastore, 1) := by decide +kernel
theorem dX11_commandHere_17 : decode prog_13_method_68_code 17 = .ok (.aload_n 0, 1) := by decide +kernel
theorem dX11_commandHere_18 : decode prog_13_method_68_code 18 = .ok (.bipush 109, 2) := by decide +kernel
theorem dX11_commandHere_20 : decode prog_13_method_68_code 20 = .ok (.invokevirtual 189, 3) := by decide +kernel
theorem dX11_commandHere_23 : decode prog_13_method_68_code 23 = .ok (.ifCond .eq 60, 3) := by decide +kernel
theorem dX11_commandHere_26 : decode prog_13_method_68_code 26 = .ok (.aload_n 0, 1) := by decide +kernel
theorem dX11_commandHere_27 : decode prog_13_method_68_code 27 = .ok (.iload_n 1, 1) := by decide +kernel
theorem dX11_commandHere_28 : decode prog_13_method_68_code 28 = .ok (.iconst 1, 1) := by decide +kernel
theorem dX11_commandHere_29 : decode prog_13_method_68_code 29 = .ok (.iadd, 1) := by decide +kernel
theorem dX11_commandHere_30 : decode prog_13_method_68_code 30 = .ok (.iconst 1, 1) := by decide +kernel
theorem dX11_commandHere_31 : decode prog_13_method_68_code 31 = .ok (.invokevirtual 192, 3) := by decide +kernel
theorem dX11_commandHere_34 : decode prog_13_method_68_code 34 = .ok (.ifCond .eq 47, 3) := by decide +kernel
theorem dX11_commandHere_37 : decode prog_13_method_68_code 37 = .ok (.aload_n 0, 1) := by decide +kernel
theorem dX11_commandHere_38 : decode prog_13_method_68_code 38 = .ok (.bipush 58, 2) := by decide +kernel
theorem dX11_commandHere_40 : decode prog_13_method_68_code 40 = .ok (.invokevirtual 189, 3) := by decide +kernel
theorem dX11_commandHere_43 : decode prog_13_method_68_code 43 = .ok (.ifCond .eq 38, 3) := by decide +kernel
theorem dX11_commandHere_46 : decode prog_13_method_68_code 46 = .ok (.aload_n 0, 1) := by decide +kernel
theorem dX11_commandHere_47 : decode prog_13_method_68_code 47 = .ok (.iload_n 1, 1) := by decide +kernel
theorem dX11_commandHere_48 : decode prog_13_method_68_code 48 = .ok (.iconst 2, 1) := by decide +kernel
theorem dX11_commandHere_49 : decode prog_13_method_68_code 49 = .ok (.iadd, 1) := by decide +kernel
theorem dX11_commandHere_50 : decode prog_13_method_68_code 50 = .ok (.iconst 2, 1) := by decide +kernel
theorem dX11_commandHere_51 : decode prog_13_method_68_code 51 = .ok (.invokevirtual 192, 3) := by decide +kernel
theorem dX11_commandHere_54 : decode prog_13_method_68_code 54 = .ok (.ifCond .eq 27, 3) := by decide +kernel
theorem dX11_commandHere_57 : decode prog_13_method_68_code 57 = .ok (.aload_n 0, 1) := by decide +kernel
theorem dX11_commandHere_58 : decode prog_13_method_68_code 58 = .ok (.bipush 47, 2) := by decide +kernel
theorem dX11_commandHere_60 : decode prog_13_method_68_code 60 = .ok (.invokevirtual 189, 3) := by decide +kernel
theorem dX11_commandHere_63 : decode prog_13_method_68_code 63 = .ok (.ifCond .eq 18, 3) := by decide +kernel
theorem dX11_commandHere_66 : decode prog_13_method_68_code 66 = .ok (.aload_n 0, 1) := by decide +kernel
theorem dX11_commandHere_67 : decode prog_13_method_68_code 67 = .ok (.iload_n 1, 1) := by decide +kernel
theorem dX11_commandHere_68 : decode prog_13_method_68_code 68 = .ok (.iconst 3, 1) := by decide +kernel
theorem dX11_commandHere_69 : decode prog_13_method_68_code 69 = .ok (.iadd, 1) := by decide +kernel
theorem dX11_commandHere_70 : decode prog_13_method_68_code 70 = .ok (.iconst 1, 1) := by decide +kernel
theorem dX11_commandHere_71 : decode prog_13_method_68_code 71 = .ok (.invokevirtual 192, 3) := by decide +kernel
theorem dX11_commandHere_74 : decode prog_13_method_68_code 74 = .ok (.ifCond .eq 7, 3) := by decide +kernel
theorem dX11_commandHere_77 : decode prog_13_method_68_code 77 = .ok (.iconst 1, 1) := by decide +kernel
theorem dX11_commandHere_78 : decode prog_13_method_68_code 78 = .ok (.goto 4, 3) := by decide +kernel
theorem dX11_commandHere_81 : decode prog_13_method_68_code 81 = .ok (.iconst 0, 1) := by decide +kernel
theorem dX11_commandHere_82 : decode prog_13_method_68_code 82 = .ok (.ireturn, 1) := by decide +kernel
theorem dX11_commandHere_83 : decode prog_13_method_68_code 83 = .ok (.aload_n 0, 1) := by decide +kernel
theorem dX11_commandHere_84 : decode prog_13_method_68_code 84 = .ok (.bipush 120, 2) := by decide +kernel
theorem dX11_commandHere_86 : decode prog_13_method_68_code 86 = .ok (.invokevirtual 189, 3) := by decide +kernel
theorem dX11_commandHere_89 : decode prog_13_method_68_code 89 = .ok (.ifCond .eq 40, 3) := by decide +kernel
theorem dX11_commandHere_92 : decode prog_13_method_68_code 92 = .ok (.aload_n 0, 1) := by decide +kernel
theorem dX11_commandHere_93 : decode prog_13_method_68_code 93 = .ok (.iload_n 1, 1) := by decide +kernel
theorem dX11_commandHere_94 : decode prog_13_method_68_code 94 = .ok (.iconst 1, 1) := by decide +kernel
theorem dX11_commandHere_95 : decode prog_13_method_68_code 95 = .ok (.iadd, 1) := by decide +kernel
theorem dX11_commandHere_96 : decode prog_13_method_68_code 96 = .ok (.iconst 1, 1) := by decide +kernel
theorem dX11_commandHere_97 : decode prog_13_method_68_code 97 = .ok (.invokevirtual 192, 3) := by decide +kernel
theorem dX11_commandHere_100 : decode prog_13_method_68_code 100 = .ok (.ifCond .eq 27, 3) := by decide +kernel
theorem dX11_commandHere_103 : decode prog_13_method_68_code 103 = .ok (.aload_n 0, 1) := by decide +kernel
theorem dX11_commandHere_104 : decode prog_13_method_68_code 104 = .ok (.bipush 58, 2) := by decide +kernel
theorem dX11_commandHere_106 : decode prog_13_method_68_code 106 = .ok (.invokevirtual 189, 3) := by decide +kernel
theorem dX11_commandHere_109 : decode prog_13_method_68_code 109 = .ok (.ifCond .eq 18, 3) := by decide +kernel
theorem dX11_commandHere_112 : decode prog_13_method_68_code 112 = .ok (.aload_n 0, 1) := by decide +kernel
theorem dX11_commandHere_113 : decode prog_13_method_68_code 113 = .ok (.iload_n 1, 1) := by decide +kernel
theorem dX11_commandHere_114 : decode prog_13_method_68_code 114 = .ok (.iconst 2, 1) := by decide +kernel
theorem dX11_commandHere_115 : decode prog_13_method_68_code 115 = .ok (.iadd, 1) := by decide +kernel
theorem dX11_commandHere_116 : decode prog_13_method_68_code 116 = .ok (.iconst 2, 1) := by decide +kernel
theorem dX11_commandHere_117 : decode prog_13_method_68_code 117 = .ok (.invokevirtual 192, 3) := by decide +kernel
theorem dX11_commandHere_120 : decode prog_13_method_68_code 120 = .ok (.ifCond .eq 7, 3) := by decide +kernel
theorem dX11_commandHere_123 : decode prog_13_method_68_code 123 = .ok (.iconst 1, 1) := by decide +kernel
theorem dX11_commandHere_124 : decode prog_13_method_68_code 124 = .ok (.goto 4, 3) := by decide +kernel
theorem dX11_commandHere_127 : decode prog_13_method_68_code 127 = .ok (.iconst 0, 1) := by decide +kernel
theorem dX11_commandHere_128 : decode prog_13_method_68_code 128 = .ok (.ireturn, 1) := by decide +kernel
theorem dX11_commandHere_129 : decode prog_13_method_68_code 129 = .ok (.aload_n 0, 1) := by decide +kernel
theorem dX11_commandHere_130 : decode prog_13_method_68_code 130 = .ok (.bipush 107, 2) := by decide +kernel
theorem dX11_commandHere_132 : decode prog_13_method_68_code 132 = .ok (.invokevirtual 189, 3) := by decide +kernel
theorem dX11_commandHere_135 : decode prog_13_method_68_code 135 = .ok (.ifCond .ne 12, 3) := by decide +kernel
theorem dX11_commandHere_138 : decode prog_13_method_68_code 138 = .ok (.aload_n 0, 1) := by decide +kernel
theorem dX11_commandHere_139 : decode prog_13_method_68_code 139 = .ok (.bipush 115, 2) := by decide +kernel
theorem dX11_commandHere_141 : decode prog_13_method_68_code 141 = .ok (.invokevirtual 189, 3) := by decide +kernel
theorem dX11_commandHere_144 : decode prog_13_method_68_code 144 = .ok (.ifCond .eq 12, 3) := by decide +kernel
theorem dX11_commandHere_147 : decode prog_13_method_68_code 147 = .ok (.aload_n 0, 1) := by decide +kernel
theorem dX11_commandHere_148 : decode prog_13_method_68_code 148 = .ok (.iload_n 1, 1) := by decide +kernel
theorem dX11_commandHere_149 : decode prog_13_method_68_code 149 = .ok (.iconst 1, 1) := by decide +kernel
theorem dX11_commandHere_150 : decode prog_13_method_68_code 150 = .ok (.iadd, 1) := by decide +kernel
theorem dX11_commandHere_151 : decode prog_13_method_68_code 151 = .ok (.iconst 1, 1) := by decide +kernel
theorem dX11_commandHere_152 : decode prog_13_method_68_code 152 = .ok (.invokevirtual 192, 3) := by decide +kernel
theorem dX11_commandHere_155 : decode prog_13_method_68_code 155 = .ok (.ireturn, 1) := by decide +kernel
theorem dX11_commandHere_156 : decode prog_13_method_68_code 156 = .ok (.aload_n 0, 1) := by decide +kernel
theorem dX11_commandHere_157 : decode prog_13_method_68_code 157 = .ok (.bipush 119, 2) := by decide +kernel
theorem dX11_commandHere_159 : decode prog_13_method_68_code 159 = .ok (.invokevirtual 189, 3) := by decide +kernel
theorem dX11_commandHere_162 : decode prog_13_method_68_code 162 = .ok (.ifCond .eq 40, 3) := by decide +kernel
theorem dX11_commandHere_165 : decode prog_13_method_68_code 165 = .ok (.aload_n 0, 1) := by decide +kernel
theorem dX11_commandHere_166 : decode prog_13_method_68_code 166 = .ok (.iload_n 1, 1) := by decide +kernel
theorem dX11_commandHere_167 : decode prog_13_method_68_code 167 = .ok (.iconst 1, 1) := by decide +kernel
theorem dX11_commandHere_168 : decode prog_13_method_68_code 168 = .ok (.iadd, 1) := by decide +kernel
theorem dX11_commandHere_169 : decode prog_13_method_68_code 169 = .ok (.iconst 2, 1) := by decide +kernel
theorem dX11_commandHere_170 : decode prog_13_method_68_code 170 = .ok (.invokevirtual 192, 3) := by decide +kernel
theorem dX11_commandHere_173 : decode prog_13_method_68_code 173 = .ok (.ifCond .eq 27, 3) := by decide +kernel
theorem dX11_commandHere_176 : decode prog_13_method_68_code 176 = .ok (.aload_n 0, 1) := by decide +kernel
theorem dX11_commandHere_177 : decode prog_13_method_68_code 177 = .ok (.bipush 43, 2) := by decide +kernel
theorem dX11_commandHere_179 : decode prog_13_method_68_code 179 = .ok (.invokevirtual 189, 3) := by decide +kernel
theorem dX11_commandHere_182 : decode prog_13_method_68_code 182 = .ok (.ifCond .eq 18, 3) := by decide +kernel
theorem dX11_commandHere_185 : decode prog_13_method_68_code 185 = .ok (.aload_n 0, 1) := by decide +kernel
theorem dX11_commandHere_186 : decode prog_13_method_68_code 186 = .ok (.iload_n 1, 1) := by decide +kernel
theorem dX11_commandHere_187 : decode prog_13_method_68_code 187 = .ok (.iconst 2, 1) := by decide +kernel
theorem dX11_commandHere_188 : decode prog_13_method_68_code 188 = .ok (.iadd, 1) := by decide +kernel
theorem dX11_commandHere_189 : decode prog_13_method_68_code 189 = .ok (.iconst 1, 1) := by decide +kernel
theorem dX11_commandHere_190 : decode prog_13_method_68_code 190 = .ok (.invokevirtual 192, 3) := by decide +kernel
theorem dX11_commandHere_193 : decode prog_13_method_68_code 193 = .ok (.ifCond .eq 7, 3) := by decide +kernel
theorem dX11_commandHere_196 : decode prog_13_method_68_code 196 = .ok (.iconst 1, 1) := by decide +kernel
theorem dX11_commandHere_197 : decode prog_13_method_68_code 197 = .ok (.goto 4, 3) := by decide +kernel
theorem dX11_commandHere_200 : decode prog_13_method_68_code 200 = .ok (.iconst 0, 1) := by decide +kernel
theorem dX11_commandHere_201 : decode prog_13_method_68_code 201 = .ok (.ireturn, 1) := by decide +kernel
theorem dX11_commandHere_202 : decode prog_13_method_68_code 202 = .ok (.aload_n 0, 1) := by decide +kernel
theorem dX11_commandHere_203 : decode prog_13_method_68_code 203 = .ok (.bipush 121, 2) := by decide +kernel
theorem dX11_commandHere_205 : decode prog_13_method_68_code 205 = .ok (.invokevirtual 189, 3) := by decide +kernel
theorem dX11_commandHere_208 : decode prog_13_method_68_code 208 = .ok (.ifCond .eq 18, 3) := by decide +kernel
theorem dX11_commandHere_211 : decode prog_13_method_68_code 211 = .ok (.aload_n 0, 1) := by decide +kernel
theorem dX11_commandHere_212 : decode prog_13_method_68_code 212 = .ok (.iload_n 1, 1) := by decide +kernel
theorem dX11_commandHere_213 : decode prog_13_method_68_code 213 = .ok (.iconst 1, 1) := by decide +kernel
theorem dX11_commandHere_214 : decode prog_13_method_68_code 214 = .ok (.iadd, 1) := by decide +kernel
theorem dX11_commandHere_215 : decode prog_13_method_68_code 215 = .ok (.iconst 2, 1) := by decide +kernel
theorem dX11_commandHere_216 : decode prog_13_method_68_code 216 = .ok (.invokevirtual 192, 3) := by decide +kernel
theorem dX11_commandHere_219 : decode prog_13_method_68_code 219 = .ok (.ifCond .eq 7, 3) := by decide +kernel
theorem dX11_commandHere_222 : decode prog_13_method_68_code 222 = .ok (.iconst 1, 1) := by decide +kernel
theorem dX11_commandHere_223 : decode prog_13_method_68_code 223 = .ok (.goto 4, 3) := by decide +kernel
theorem dX11_commandHere_226 : decode prog_13_method_68_code 226 = .ok (.iconst 0, 1) := by decide +kernel
theorem dX11_commandHere_227 : decode prog_13_method_68_code 227 = .ok (.ireturn, 1) := by decide +kernel
theorem nX11_isText : zDs yX11_isText 0 := ⟨by decide, by decide, by decide +kernel⟩
theorem dX11_isText_0 : decode prog_13_method_69_code 0 = .ok (.aload_n 0, 1) := by decide +kernel
theorem dX11_isText_1 : decode prog_13_method_69_code 1 = .ok (.iconst 0, 1) := by decide +kernel
theorem dX11_isText_2 : decode prog_13_method_69_code 2 = .ok (.putfield 180, 3) := by decide +kernel
theorem dX11_isText_5 : decode prog_13_method_69_code 5 = .ok (.aload_n 0, 1) := by decide +kernel
theorem dX11_isText_6 : decode prog_13_method_69_code 6 = .ok (.iconst 0, 1) := by decide +kernel
theorem dX11_isText_7 : decode prog_13_method_69_code 7 = .ok (.putfield 186, 3) := by decide +kernel
theorem dX11_isText_10 : decode prog_13_method_69_code 10 = .ok (.aload_n 0, 1) := by decide +kernel
theorem dX11_isText_11 : decode prog_13_method_69_code 11 = .ok (.invokevirtual 195, 3) := by decide +kernel
theorem dX11_isText_14 : decode prog_13_method_69_code 14 = .ok (.ifCond .ne 5, 3) := by decide +kernel
theorem dX11_isText_17 : decode prog_13_method_69_code 17 = .ok (.iconst 0, 1) := by decide +kernel
theorem dX11_isText_18 : decode prog_13_method_69_code 18 = .ok (.ireturn, 1) := by decide +kernel
theorem dX11_isText_19 : decode prog_13_method_69_code 19 = .ok (.aload_n 0, 1) := by decide +kernel
theorem dX11_isText_20 : decode prog_13_method_69_code 20 = .ok (.dup, 1) := by decide +kernel
theorem dX11_isText_21 : decode prog_13_method_69_code 21 = .ok (.getfield 186, 3) := by decide +kernel
theorem dX11_isText_24 : decode prog_13_method_69_code 24 = .ok (.iconst 1, 1) := by decide +kernel
theorem dX11_isText_25 : decode prog_13_method_69_code 25 = .ok (.iadd, 1) := by decide +kernel
theorem dX11_isText_26 : decode prog_13_method_69_code 26 = .ok (.putfield 186, 3) := by decide +kernel
theorem dX11_isText_29 : decode prog_13_method_69_code 29 = .ok (.aload_n 0, 1) := by decide +kernel
theorem dX11_isText_30 : decode prog_13_method_69_code 30 = .ok (.bipush 59, 2) := by decide +kernel
theorem dX11_isText_32 : decode prog_13_method_69_code 32 = .ok (.invokevirtual 189, 3) := by decide +kernel
theorem dX11_isText_35 : decode prog_13_method_69_code 35 = .ok (.ifCond .ne (-25), 3) := by decide +kernel
theorem dX11_isText_38 : decode prog_13_method_69_code 38 = .ok (.aload_n 0, 1) := by decide +kernel
theorem dX11_isText_39 : decode prog_13_method_69_code 39 = .ok (.getfield 180, 3) := by decide +kernel
theorem dX11_isText_42 : decode prog_13_method_69_code 42 = .ok (.aload_n 0, 1) := by decide +kernel
theorem dX11_isText_43 : decode prog_13_method_69_code 43 = .ok (.getfield 177, 3) := by decide +kernel
theorem dX11_isText_46 : decode prog_13_method_69_code 46 = .ok (.if_icmp .ne 7, 3) := by decide +kernel
theorem dX11_isText_49 : decode prog_13_method_69_code 49 = .ok (.iconst 1, 1) := by decide +kernel
theorem dX11_isText_50 : decode prog_13_method_69_code 50 = .ok (.goto 4, 3) := by decide +kernel
theorem dX11_isText_53 : decode prog_13_method_69_code 53 = .ok (.iconst 0, 1) := by decide +kernel
theorem dX11_isText_54 : decode prog_13_method_69_code 54 = .ok (.ireturn, 1) := by decide +kernel
theorem nX11_carries : zDs yX11_carries 1 := ⟨by decide, by decide, by decide +kernel⟩
theorem dX11_carries_0 : decode prog_13_method_70_code 0 = .ok (.aload_n 0, 1) := by decide +kernel
theorem dX11_carries_1 : decode prog_13_method_70_code 1 = .ok (.getfield 33, 3) := by decide +kernel
theorem dX11_carries_4 : decode prog_13_method_70_code 4 = .ok (.iload_n 1, 1) := by decide +kernel
theorem dX11_carries_5 : decode prog_13_method_70_code 5 = .ok (.iaload, 1) := by decide +kernel
theorem dX11_carries_6 : decode prog_13_method_70_code 6 = .ok (.tableswitch 167 107 120 #[120, 167, 70, 167, 167, 167, 167, 167, 133, 167, 167, 167, 146, 99], 70) := by decide +kernel
theorem dX11_carries_76 : decode prog_13_method_70_code 76 = .ok (.aload_n 0, 1) := by decide +kernel
theorem dX11_carries_77 : decode prog_13_method_70_code 77 = .ok (.aload_n 0, 1) := by decide +kernel
theorem dX11_carries_78 : decode prog_13_method_70_code 78 = .ok (.getfield 33, 3) := by decide +kernel
theorem dX11_carries_81 : decode prog_13_method_70_code 81 = .ok (.iload_n 1, 1) := by decide +kernel
theorem dX11_carries_82 : decode prog_13_method_70_code 82 = .ok (.iconst 1, 1) := by decide +kernel
theorem dX11_carries_83 : decode prog_13_method_70_code 83 = .ok (.iadd, 1) := by decide +kernel
theorem dX11_carries_84 : decode prog_13_method_70_code 84 = .ok (.iaload, 1) := by decide +kernel
theorem dX11_carries_85 : decode prog_13_method_70_code 85 = .ok (.aload_n 0, 1) := by decide +kernel
theorem dX11_carries_86 : decode prog_13_method_70_code 86 = .ok (.getfield 33, 3) := by decide +kernel
theorem dX11_carries_89 : decode prog_13_method_70_code 89 = .ok (.iload_n 1, 1) := by decide +kernel
theorem dX11_carries_90 : decode prog_13_method_70_code 90 = .ok (.iconst 2, 1) := by decide +kernel
theorem dX11_carries_91 : decode prog_13_method_70_code 91 = .ok (.iadd, 1) := by decide +kernel
theorem dX11_carries_92 : decode prog_13_method_70_code 92 = .ok (.iaload, 1) := by decide +kernel
theorem dX11_carries_93 : decode prog_13_method_70_code 93 = .ok (.aload_n 0, 1) := by decide +kernel
theorem dX11_carries_94 : decode prog_13_method_70_code 94 = .ok (.getfield 33, 3) := by decide +kernel
theorem dX11_carries_97 : decode prog_13_method_70_code 97 = .ok (.iload_n 1, 1) := by decide +kernel
theorem dX11_carries_98 : decode prog_13_method_70_code 98 = .ok (.iconst 3, 1) := by decide +kernel
theorem dX11_carries_99 : decode prog_13_method_70_code 99 = .ok (.iadd, 1) := by decide +kernel
theorem dX11_carries_100 : decode prog_13_method_70_code 100 = .ok (.iaload, 1) := by decide +kernel
theorem dX11_carries_101 : decode prog_13_method_70_code 101 = .ok (.invokevirtual 199, 3) := by decide +kernel
theorem dX11_carries_104 : decode prog_13_method_70_code 104 = .ok (.ireturn, 1) := by decide +kernel
theorem dX11_carries_105 : decode prog_13_method_70_code 105 = .ok (.aload_n 0, 1) := by decide +kernel
theorem dX11_carries_106 : decode prog_13_method_70_code 106 = .ok (.aload_n 0, 1) := by decide +kernel
theorem dX11_carries_107 : decode prog_13_method_70_code 107 = .ok (.getfield 33, 3) := by decide +kernel
theorem dX11_carries_110 : decode prog_13_method_70_code 110 = .ok (.iload_n 1, 1) := by decide +kernel
theorem dX11_carries_111 : decode prog_13_method_70_code 111 = .ok (.iconst 1, 1) := by decide +kernel
theorem dX11_carries_112 : decode prog_13_method_70_code 112 = .ok (.iadd, 1) := by decide +kernel
theorem dX11_carries_113 : decode prog_13_method_70_code 113 = .ok (.iaload, 1) := by decide +kernel
theorem dX11_carries_114 : decode prog_13_method_70_code 114 = .ok (.aload_n 0, 1) := by decide +kernel
theorem dX11_carries_115 : decode prog_13_method_70_code 115 = .ok (.getfield 33, 3) := by decide +kernel
theorem dX11_carries_118 : decode prog_13_method_70_code 118 = .ok (.iload_n 1, 1) := by decide +kernel
theorem dX11_carries_119 : decode prog_13_method_70_code 119 = .ok (.iconst 2, 1) := by decide +kernel
theorem dX11_carries_120 : decode prog_13_method_70_code 120 = .ok (.iadd, 1) := by decide +kernel
theorem dX11_carries_121 : decode prog_13_method_70_code 121 = .ok (.iaload, 1) := by decide +kernel
theorem dX11_carries_122 : decode prog_13_method_70_code 122 = .ok (.invokevirtual 202, 3) := by decide +kernel
theorem dX11_carries_125 : decode prog_13_method_70_code 125 = .ok (.ireturn, 1) := by decide +kernel
theorem dX11_carries_126 : decode prog_13_method_70_code 126 = .ok (.aload_n 0, 1) := by decide +kernel
theorem dX11_carries_127 : decode prog_13_method_70_code 127 = .ok (.aload_n 0, 1) := by decide +kernel
theorem dX11_carries_128 : decode prog_13_method_70_code 128 = .ok (.getfield 33, 3) := by decide +kernel
theorem dX11_carries_131 : decode prog_13_method_70_code 131 = .ok (.iload_n 1, 1) := by decide +kernel
theorem dX11_carries_132 : decode prog_13_method_70_code 132 = .ok (.iconst 1, 1) := by decide +kernel
theorem dX11_carries_133 : decode prog_13_method_70_code 133 = .ok (.iadd, 1) := by decide +kernel
theorem dX11_carries_134 : decode prog_13_method_70_code 134 = .ok (.iaload, 1) := by decide +kernel
theorem dX11_carries_135 : decode prog_13_method_70_code 135 = .ok (.invokevirtual 205, 3) := by decide +kernel
theorem dX11_carries_138 : decode prog_13_method_70_code 138 = .ok (.ireturn, 1) := by decide +kernel
theorem dX11_carries_139 : decode prog_13_method_70_code 139 = .ok (.aload_n 0, 1) := by decide +kernel
theorem dX11_carries_140 : decode prog_13_method_70_code 140 = .ok (.aload_n 0, 1) := by decide +kernel
theorem dX11_carries_141 : decode prog_13_method_70_code 141 = .ok (.getfield 33, 3) := by decide +kernel
theorem dX11_carries_144 : decode prog_13_method_70_code 144 = .ok (.iload_n 1, 1) := by decide +kernel
theorem dX11_carries_145 : decode prog_13_method_70_code 145 = .ok (.iconst 1, 1) := by decide +kernel
theorem dX11_carries_146 : decode prog_13_method_70_code 146 = .ok (.iadd, 1) := by decide +kernel
theorem dX11_carries_147 : decode prog_13_method_70_code 147 = .ok (.iaload, 1) := by decide +kernel
theorem dX11_carries_148 : decode prog_13_method_70_code 148 = .ok (.invokevirtual 208, 3) := by decide +kernel
theorem dX11_carries_151 : decode prog_13_method_70_code 151 = .ok (.ireturn, 1) := by decide +kernel
theorem dX11_carries_152 : decode prog_13_method_70_code 152 = .ok (.aload_n 0, 1) := by decide +kernel
theorem dX11_carries_153 : decode prog_13_method_70_code 153 = .ok (.aload_n 0, 1) := by decide +kernel
theorem dX11_carries_154 : decode prog_13_method_70_code 154 = .ok (.getfield 33, 3) := by decide +kernel
theorem dX11_carries_157 : decode prog_13_method_70_code 157 = .ok (.iload_n 1, 1) := by decide +kernel
theorem dX11_carries_158 : decode prog_13_method_70_code 158 = .ok (.iconst 1, 1) := by decide +kernel
theorem dX11_carries_159 : decode prog_13_method_70_code 159 = .ok (.iadd, 1) := by decide +kernel
theorem dX11_carries_160 : decode prog_13_method_70_code 160 = .ok (.iaload, 1) := by decide +kernel
theorem dX11_carries_161 : decode prog_13_method_70_code 161 = .ok (.aload_n 0, 1) := by decide +kernel
theorem dX11_carries_162 : decode prog_13_method_70_code 162 = .ok (.getfield 33, 3) := by decide +kernel
theorem dX11_carries_165 : decode prog_13_method_70_code 165 = .ok (.iload_n 1, 1) := by decide +kernel
theorem dX11_carries_166 : decode prog_13_method_70_code 166 = .ok (.iconst 2, 1) := by decide +kernel
theorem dX11_carries_167 : decode prog_13_method_70_code 167 = .ok (.iadd, 1) := by decide +kernel
theorem dX11_carries_168 : decode prog_13_method_70_code 168 = .ok (.iaload, 1) := by decide +kernel
theorem dX11_carries_169 : decode prog_13_method_70_code 169 = .ok (.invokevirtual 211, 3) := by decide +kernel
theorem dX11_carries_172 : decode prog_13_method_70_code 172 = .ok (.ireturn, 1) := by decide +kernel
theorem dX11_carries_173 : decode prog_13_method_70_code 173 = .ok (.aload_n 0, 1) := by decide +kernel
theorem dX11_carries_174 : decode prog_13_method_70_code 174 = .ok (.aload_n 0, 1) := by decide +kernel
theorem dX11_carries_175 : decode prog_13_method_70_code 175 = .ok (.getfield 33, 3) := by decide +kernel
theorem dX11_carries_178 : decode prog_13_method_70_code 178 = .ok (.iload_n 1, 1) := by decide +kernel
theorem dX11_carries_179 : decode prog_13_method_70_code 179 = .ok (.iconst 1, 1) := by decide +kernel
theorem dX11_carries_180 : decode prog_13_method_70_code 180 = .ok (.iadd, 1) := by decide +kernel
theorem dX11_carries_181 : decode prog_13_method_70_code 181 = .ok (.iaload, 1) := by decide +kernel
theorem dX11_carries_182 : decode prog_13_method_70_code 182 = .ok (.invokevirtual 214, 3) := by decide +kernel
theorem dX11_carries_185 : decode prog_13_method_70_code 185 = .ok (.ireturn, 1) := by decide +kernel
theorem nX11_commands : zDs yX11_commands 0 := ⟨by decide, by decide, by decide +kernel⟩
theorem dX11_commands_0 : decode prog_13_method_71_code 0 = .ok (.aload_n 0, 1) := by decide +kernel
theorem dX11_commands_1 : decode prog_13_method_71_code 1 = .ok (.invokevirtual 217, 3) := by decide +kernel
theorem dX11_commands_4 : decode prog_13_method_71_code 4 = .ok (.istore_n 1, 1) := by decide +kernel
theorem dX11_commands_5 : decode prog_13_method_71_code 5 = .ok (.aload_n 0, 1) := by decide +kernel
theorem dX11_commands_6 : decode prog_13_method_71_code 6 = .ok (.iload_n 1, 1) := by decide +kernel
theorem dX11_commands_7 : decode prog_13_method_71_code 7 = .ok (.ifCond .eq 7, 3) := by decide +kernel
theorem dX11_commands_10 : decode prog_13_method_71_code 10 = .ok (.iconst (-1), 1) := by decide +kernel
theorem dX11_commands_11 : decode prog_13_method_71_code 11 = .ok (.goto 7, 3) := by decide +kernel
theorem dX11_commands_14 : decode prog_13_method_71_code 14 = .ok (.aload_n 0, 1) := by decide +kernel
theorem dX11_commands_15 : decode prog_13_method_71_code 15 = .ok (.getfield 180, 3) := by decide +kernel
theorem dX11_commands_18 : decode prog_13_method_71_code 18 = .ok (.putfield 25, 3) := by decide +kernel
theorem dX11_commands_21 : decode prog_13_method_71_code 21 = .ok (.aload_n 0, 1) := by decide +kernel
theorem dX11_commands_22 : decode prog_13_method_71_code 22 = .ok (.iconst 0, 1) := by decide +kernel
theorem dX11_commands_23 : decode prog_13_method_71_code 23 = .ok (.putfield 177, 3) := by decide +kernel
theorem dX11_commands_26 : decode prog_13_method_71_code 26 = .ok (.aload_n 0, 1) := by decide +kernel
theorem dX11_commands_27 : decode prog_13_method_71_code 27 = .ok (.iload_n 1, 1) := by decide +kernel
theorem dX11_commands_28 : decode prog_13_method_71_code 28 = .ok (.ifCond .eq 7, 3) := by decide +kernel
theorem dX11_commands_31 : decode prog_13_method_71_code 31 = .ok (.iconst 0, 1) := by decide +kernel
theorem dX11_commands_32 : decode prog_13_method_71_code 32 = .ok (.goto 4, 3) := by decide +kernel
theorem dX11_commands_35 : decode prog_13_method_71_code 35 = .ok (.iconst 1, 1) := by decide +kernel
theorem dX11_commands_36 : decode prog_13_method_71_code 36 = .ok (.invokevirtual 149, 3) := by decide +kernel
theorem dX11_commands_39 : decode prog_13_method_71_code 39 = .ok (.ifCond .eq 5, 3) := by decide +kernel
theorem dX11_commands_42 : decode prog_13_method_71_code 42 = .ok (.iconst 0, 1) := by decide +kernel
theorem dX11_commands_43 : decode prog_13_method_71_code 43 = .ok (.ireturn, 1) := by decide +kernel
theorem dX11_commands_44 : decode prog_13_method_71_code 44 = .ok (.aload_n 0, 1) := by decide +kernel
theorem dX11_commands_45 : decode prog_13_method_71_code 45 = .ok (.getfield 7, 3) := by decide +kernel
theorem dX11_commands_48 : decode prog_13_method_71_code 48 = .ok (.iconst 0, 1) := by decide +kernel
theorem dX11_commands_49 : decode prog_13_method_71_code 49 = .ok (.aload_n 0, 1) := by decide +kernel
theorem dX11_commands_50 : decode prog_13_method_71_code 50 = .ok (.getfield 19, 3) := by decide +kernel
theorem dX11_commands_53 : decode prog_13_method_71_code 53 = .ok (.iconst 0, 1) := by decide +kernel
theorem dX11_commands_54 : decode prog_13_method_71_code 54 = .ok (.invokestatic 58, 3) := by decide +kernel
theorem dX11_commands_57 : decode prog_13_method_71_code 57 = .ok (.aload_n 0, 1) := by decide +kernel
theorem dX11_commands_58 : decode prog_13_method_71_code 58 = .ok (.iconst 1, 1) := by decide +kernel
theorem dX11_commands_59 : decode prog_13_method_71_code 59 = .ok (.putfield 45, 3) := by decide +kernel
theorem dX11_commands_62 : decode prog_13_method_71_code 62 = .ok (.aload_n 0, 1) := by decide +kernel
theorem dX11_commands_63 : decode prog_13_method_71_code 63 = .ok (.iconst 0, 1) := by decide +kernel
theorem dX11_commands_64 : decode prog_13_method_71_code 64 = .ok (.putfield 49, 3) := by decide +kernel
theorem dX11_commands_67 : decode prog_13_method_71_code 67 = .ok (.iconst 0, 1) := by decide +kernel
theorem dX11_commands_68 : decode prog_13_method_71_code 68 = .ok (.istore_n 2, 1) := by decide +kernel
theorem dX11_commands_69 : decode prog_13_method_71_code 69 = .ok (.aload_n 0, 1) := by decide +kernel
theorem dX11_commands_70 : decode prog_13_method_71_code 70 = .ok (.getfield 49, 3) := by decide +kernel
theorem dX11_commands_73 : decode prog_13_method_71_code 73 = .ok (.aload_n 0, 1) := by decide +kernel
theorem dX11_commands_74 : decode prog_13_method_71_code 74 = .ok (.getfield 186, 3) := by decide +kernel
theorem dX11_commands_77 : decode prog_13_method_71_code 77 = .ok (.if_icmp .ge 51, 3) := by decide +kernel
theorem dX11_commands_80 : decode prog_13_method_71_code 80 = .ok (.aload_n 0, 1) := by decide +kernel
theorem dX11_commands_81 : decode prog_13_method_71_code 81 = .ok (.getfield 36, 3) := by decide +kernel
theorem dX11_commands_84 : decode prog_13_method_71_code 84 = .ok (.ifCond .ne 44, 3) := by decide +kernel
theorem dX11_commands_87 : decode prog_13_method_71_code 87 = .ok (.aload_n 0, 1) := by decide +kernel
theorem dX11_commands_88 : decode prog_13_method_71_code 88 = .ok (.iconst 4, 1) := by decide +kernel
theorem dX11_commands_89 : decode prog_13_method_71_code 89 = .ok (.aload_n 0, 1) := by decide +kernel
theorem dX11_commands_90 : decode prog_13_method_71_code 90 = .ok (.getfield 49, 3) := by decide +kernel
theorem dX11_commands_93 : decode prog_13_method_71_code 93 = .ok (.imul, 1) := by decide +kernel
theorem dX11_commands_94 : decode prog_13_method_71_code 94 = .ok (.invokevirtual 220, 3) := by decide +kernel
theorem dX11_commands_97 : decode prog_13_method_71_code 97 = .ok (.istore_n 2, 1) := by decide +kernel
theorem dX11_commands_98 : decode prog_13_method_71_code 98 = .ok (.aload_n 0, 1) := by decide +kernel
theorem dX11_commands_99 : decode prog_13_method_71_code 99 = .ok (.dup, 1) := by decide +kernel
theorem dX11_commands_100 : decode prog_13_method_71_code 100 = .ok (.getfield 49, 3) := by decide +kernel
theorem dX11_commands_103 : decode prog_13_method_71_code 103 = .ok (.iconst 1, 1) := by decide +kernel
theorem dX11_commands_104 : decode prog_13_method_71_code 104 = .ok (.iadd, 1) := by decide +kernel
theorem dX11_commands_105 : decode prog_13_method_71_code 105 = .ok (.putfield 49, 3) := by decide +kernel
theorem dX11_commands_108 : decode prog_13_method_71_code 108 = .ok (.aload_n 0, 1) := by decide +kernel
theorem dX11_commands_109 : decode prog_13_method_71_code 109 = .ok (.getfield 36, 3) := by decide +kernel
theorem dX11_commands_112 : decode prog_13_method_71_code 112 = .ok (.ifCond .le (-43), 3) := by decide +kernel
theorem dX11_commands_115 : decode prog_13_method_71_code 115 = .ok (.aload_n 0, 1) := by decide +kernel
theorem dX11_commands_116 : decode prog_13_method_71_code 116 = .ok (.aload_n 0, 1) := by decide +kernel
theorem dX11_commands_117 : decode prog_13_method_71_code 117 = .ok (.getfield 49, 3) := by decide +kernel
theorem dX11_commands_120 : decode prog_13_method_71_code 120 = .ok (.iconst 1, 1) := by decide +kernel
theorem dX11_commands_121 : decode prog_13_method_71_code 121 = .ok (.isub, 1) := by decide +kernel
theorem dX11_commands_122 : decode prog_13_method_71_code 122 = .ok (.putfield 52, 3) := by decide +kernel
theorem dX11_commands_125 : decode prog_13_method_71_code 125 = .ok (.goto (-56), 3) := by decide +kernel
theorem dX11_commands_128 : decode prog_13_method_71_code 128 = .ok (.aload_n 0, 1) := by decide +kernel
theorem dX11_commands_129 : decode prog_13_method_71_code 129 = .ok (.iconst 0, 1) := by decide +kernel
theorem dX11_commands_130 : decode prog_13_method_71_code 130 = .ok (.putfield 45, 3) := by decide +kernel
theorem dX11_commands_133 : decode prog_13_method_71_code 133 = .ok (.aload_n 0, 1) := by decide +kernel
theorem dX11_commands_134 : decode prog_13_method_71_code 134 = .ok (.getfield 36, 3) := by decide +kernel
theorem dX11_commands_137 : decode prog_13_method_71_code 137 = .ok (.ifCond .le 31, 3) := by decide +kernel
theorem dX11_commands_140 : decode prog_13_method_71_code 140 = .ok (.aload_n 0, 1) := by decide +kernel
theorem dX11_commands_141 : decode prog_13_method_71_code 141 = .ok (.getfield 19, 3) := by decide +kernel
theorem dX11_commands_144 : decode prog_13_method_71_code 144 = .ok (.iconst 0, 1) := by decide +kernel
theorem dX11_commands_145 : decode prog_13_method_71_code 145 = .ok (.aload_n 0, 1) := by decide +kernel
theorem dX11_commands_146 : decode prog_13_method_71_code 146 = .ok (.getfield 7, 3) := by decide +kernel
theorem dX11_commands_149 : decode prog_13_method_71_code 149 = .ok (.iconst 0, 1) := by decide +kernel
theorem dX11_commands_150 : decode prog_13_method_71_code 150 = .ok (.invokestatic 58, 3) := by decide +kernel
theorem dX11_commands_153 : decode prog_13_method_71_code 153 = .ok (.aload_n 0, 1) := by decide +kernel
theorem dX11_commands_154 : decode prog_13_method_71_code 154 = .ok (.iconst 2, 1) := by decide +kernel
theorem dX11_commands_155 : decode prog_13_method_71_code 155 = .ok (.putfield 36, 3) := by decide +kernel
theorem dX11_commands_158 : decode prog_13_method_71_code 158 = .ok (.iload_n 2, 1) := by decide +kernel
theorem dX11_commands_159 : decode prog_13_method_71_code 159 = .ok (.ifCond .ge 7, 3) := by decide +kernel
theorem dX11_commands_162 : decode prog_13_method_71_code 162 = .ok (.iload_n 2, 1) := by decide +kernel
theorem dX11_commands_163 : decode prog_13_method_71_code 163 = .ok (.goto 4, 3) := by decide +kernel
theorem dX11_commands_166 : decode prog_13_method_71_code 166 = .ok (.iconst 0, 1) := by decide +kernel
theorem dX11_commands_167 : decode prog_13_method_71_code 167 = .ok (.ireturn, 1) := by decide +kernel
theorem dX11_commands_168 : decode prog_13_method_71_code 168 = .ok (.aload_n 0, 1) := by decide +kernel
theorem dX11_commands_169 : decode prog_13_method_71_code 169 = .ok (.aload_n 0, 1) := by decide +kernel
theorem dX11_commands_170 : decode prog_13_method_71_code 170 = .ok (.getfield 19, 3) := by decide +kernel
theorem dX11_commands_173 : decode prog_13_method_71_code 173 = .ok (.invokevirtual 87, 3) := by decide +kernel
theorem dX11_commands_176 : decode prog_13_method_71_code 176 = .ok (.aload_n 0, 1) := by decide +kernel
theorem dX11_commands_177 : decode prog_13_method_71_code 177 = .ok (.getfield 186, 3) := by decide +kernel
theorem dX11_commands_180 : decode prog_13_method_71_code 180 = .ok (.ireturn, 1) := by decide +kernel
theorem nX11_faultPosition : zDs yX11_faultPosition 0 := ⟨by decide, by decide, by decide +kernel⟩
theorem dX11_faultPosition_0 : decode prog_13_method_72_code 0 = .ok (.aload_n 0, 1) := by decide +kernel
theorem dX11_faultPosition_1 : decode prog_13_method_72_code 1 = .ok (.iconst 0, 1) := by decide +kernel
theorem dX11_faultPosition_2 : decode prog_13_method_72_code 2 = .ok (.putfield 36, 3) := by decide +kernel
theorem dX11_faultPosition_5 : decode prog_13_method_72_code 5 = .ok (.aload_n 0, 1) := by decide +kernel
theorem dX11_faultPosition_6 : decode prog_13_method_72_code 6 = .ok (.getfield 25, 3) := by decide +kernel
theorem dX11_faultPosition_9 : decode prog_13_method_72_code 9 = .ok (.ireturn, 1) := by decide +kernel
theorem nX11_reason : zDs yX11_reason 1 := ⟨by decide, by decide, by decide +kernel⟩
theorem dX11_reason_0 : decode prog_13_method_73_code 0 = .ok (.aload_n 0, 1) := by decide +kernel
theorem dX11_reason_1 : decode prog_13_method_73_code 1 = .ok (.iload_n 1, 1) := by decide +kernel
theorem dX11_reason_2 : decode prog_13_method_73_code 2 = .ok (.iconst 0, 1) := by decide +kernel
theorem dX11_reason_3 : decode prog_13_method_73_code 3 = .ok (.iconst 2, 1) := by decide +kernel
theorem dX11_reason_4 : decode prog_13_method_73_code 4 = .ok (.invokestatic 62, 3) := by decide +kernel
theorem dX11_reason_7 : decode prog_13_method_73_code 7 = .ok (.ifCond .ne 7, 3) := by decide +kernel
theorem dX11_reason_10 : decode prog_13_method_73_code 10 = .ok (.iconst 1, 1) := by decide +kernel
theorem dX11_reason_11 : decode prog_13_method_73_code 11 = .ok (.goto 15, 3) := by decide +kernel
theorem dX11_reason_14 : decode prog_13_method_73_code 14 = .ok (.aload_n 0, 1) := by decide +kernel
theorem dX11_reason_15 : decode prog_13_method_73_code 15 = .ok (.getfield 39, 3) := by decide +kernel
theorem dX11_reason_18 : decode prog_13_method_73_code 18 = .ok (.ifCond .ne 7, 3) := by decide +kernel
theorem dX11_reason_21 : decode prog_13_method_73_code 21 = .ok (.iconst 2, 1) := by decide +kernel
theorem dX11_reason_22 : decode prog_13_method_73_code 22 = .ok (.goto 4, 3) := by decide +kernel
theorem dX11_reason_25 : decode prog_13_method_73_code 25 = .ok (.iconst 0, 1) := by decide +kernel
theorem dX11_reason_26 : decode prog_13_method_73_code 26 = .ok (.invokevirtual 149, 3) := by decide +kernel
theorem dX11_reason_29 : decode prog_13_method_73_code 29 = .ok (.ifCond .eq 7, 3) := by decide +kernel
theorem dX11_reason_32 : decode prog_13_method_73_code 32 = .ok (.iconst 0, 1) := by decide +kernel
theorem dX11_reason_33 : decode prog_13_method_73_code 33 = .ok (.goto 30, 3) := by decide +kernel
theorem dX11_reason_36 : decode prog_13_method_73_code 36 = .ok (.iload_n 1, 1) := by decide +kernel
theorem dX11_reason_37 : decode prog_13_method_73_code 37 = .ok (.ifCond .ne 10, 3) := by decide +kernel
theorem dX11_reason_40 : decode prog_13_method_73_code 40 = .ok (.aload_n 0, 1) := by decide +kernel
theorem dX11_reason_41 : decode prog_13_method_73_code 41 = .ok (.getfield 39, 3) := by decide +kernel
theorem dX11_reason_44 : decode prog_13_method_73_code 44 = .ok (.goto 19, 3) := by decide +kernel
theorem dX11_reason_47 : decode prog_13_method_73_code 47 = .ok (.iload_n 1, 1) := by decide +kernel
theorem dX11_reason_48 : decode prog_13_method_73_code 48 = .ok (.iconst 1, 1) := by decide +kernel
theorem dX11_reason_49 : decode prog_13_method_73_code 49 = .ok (.if_icmp .ne 10, 3) := by decide +kernel
theorem dX11_reason_52 : decode prog_13_method_73_code 52 = .ok (.aload_n 0, 1) := by decide +kernel
theorem dX11_reason_53 : decode prog_13_method_73_code 53 = .ok (.getfield 42, 3) := by decide +kernel
theorem dX11_reason_56 : decode prog_13_method_73_code 56 = .ok (.goto 7, 3) := by decide +kernel
theorem dX11_reason_59 : decode prog_13_method_73_code 59 = .ok (.aload_n 0, 1) := by decide +kernel
theorem dX11_reason_60 : decode prog_13_method_73_code 60 = .ok (.getfield 52, 3) := by decide +kernel
theorem dX11_reason_63 : decode prog_13_method_73_code 63 = .ok (.ireturn, 1) := by decide +kernel
theorem nX11_writes : zDs yX11_writes 1 := ⟨by decide, by decide, by decide +kernel⟩
theorem dX11_writes_0 : decode prog_13_method_74_code 0 = .ok (.aload_n 0, 1) := by decide +kernel
theorem dX11_writes_1 : decode prog_13_method_74_code 1 = .ok (.getfield 29, 3) := by decide +kernel
theorem dX11_writes_4 : decode prog_13_method_74_code 4 = .ok (.aload_n 0, 1) := by decide +kernel
theorem dX11_writes_5 : decode prog_13_method_74_code 5 = .ok (.getfield 223, 3) := by decide +kernel
theorem dX11_writes_8 : decode prog_13_method_74_code 8 = .ok (.iload_n 1, 1) := by decide +kernel
theorem dX11_writes_9 : decode prog_13_method_74_code 9 = .ok (.i2c, 1) := by decide +kernel
theorem dX11_writes_10 : decode prog_13_method_74_code 10 = .ok (.castore, 1) := by decide +kernel
theorem dX11_writes_11 : decode prog_13_method_74_code 11 = .ok (.aload_n 0, 1) := by decide +kernel
theorem dX11_writes_12 : decode prog_13_method_74_code 12 = .ok (.dup, 1) := by decide +kernel
theorem dX11_writes_13 : decode prog_13_method_74_code 13 = .ok (.getfield 223, 3) := by decide +kernel
theorem dX11_writes_16 : decode prog_13_method_74_code 16 = .ok (.iconst 1, 1) := by decide +kernel
theorem dX11_writes_17 : decode prog_13_method_74_code 17 = .ok (.iadd, 1) := by decide +kernel
theorem dX11_writes_18 : decode prog_13_method_74_code 18 = .ok (.putfield 223, 3) := by decide +kernel
theorem dX11_writes_21 : decode prog_13_method_74_code 21 = .ok (.return_, 1) := by decide +kernel
theorem nX11_writesNumber : zDs yX11_writesNumber 1 := ⟨by decide, by decide, by decide +kernel⟩
theorem dX11_writesNumber_0 : decode prog_13_method_75_code 0 = .ok (.iload_n 1, 1) := by decide +kernel
theorem dX11_writesNumber_1 : decode prog_13_method_75_code 1 = .ok (.bipush 9, 2) := by decide +kernel
theorem dX11_writesNumber_3 : decode prog_13_method_75_code 3 = .ok (.if_icmp .le 11, 3) := by decide +kernel
theorem dX11_writesNumber_6 : decode prog_13_method_75_code 6 = .ok (.aload_n 0, 1) := by decide +kernel
theorem dX11_writesNumber_7 : decode prog_13_method_75_code 7 = .ok (.iload_n 1, 1) := by decide +kernel
theorem dX11_writesNumber_8 : decode prog_13_method_75_code 8 = .ok (.bipush 10, 2) := by decide +kernel
theorem dX11_writesNumber_10 : decode prog_13_method_75_code 10 = .ok (.idiv, 1) := by decide +kernel
theorem dX11_writesNumber_11 : decode prog_13_method_75_code 11 = .ok (.invokevirtual 226, 3) := by decide +kernel
theorem dX11_writesNumber_14 : decode prog_13_method_75_code 14 = .ok (.aload_n 0, 1) := by decide +kernel
theorem dX11_writesNumber_15 : decode prog_13_method_75_code 15 = .ok (.bipush 48, 2) := by decide +kernel
theorem dX11_writesNumber_17 : decode prog_13_method_75_code 17 = .ok (.iload_n 1, 1) := by decide +kernel
theorem dX11_writesNumber_18 : decode prog_13_method_75_code 18 = .ok (.bipush 10, 2) := by decide +kernel
theorem dX11_writesNumber_20 : decode prog_13_method_75_code 20 = .ok (.irem, 1) := by decide +kernel
theorem dX11_writesNumber_21 : decode prog_13_method_75_code 21 = .ok (.iadd, 1) := by decide +kernel
theorem dX11_writesNumber_22 : decode prog_13_method_75_code 22 = .ok (.invokevirtual 230, 3) := by decide +kernel
theorem dX11_writesNumber_25 : decode prog_13_method_75_code 25 = .ok (.return_, 1) := by decide +kernel
theorem nX11_line : zDs yX11_line 1 := ⟨by decide, by decide, by decide +kernel⟩
theorem dX11_line_0 : decode prog_13_method_76_code 0 = .ok (.aload_n 0, 1) := by decide +kernel
theorem dX11_line_1 : decode prog_13_method_76_code 1 = .ok (.aload_n 0, 1) := by decide +kernel
theorem dX11_line_2 : decode prog_13_method_76_code 2 = .ok (.iload_n 1, 1) := by decide +kernel
theorem dX11_line_3 : decode prog_13_method_76_code 3 = .ok (.invokevirtual 101, 3) := by decide +kernel
theorem dX11_line_6 : decode prog_13_method_76_code 6 = .ok (.ifCond .eq 7, 3) := by decide +kernel
theorem dX11_line_9 : decode prog_13_method_76_code 9 = .ok (.iconst 0, 1) := by decide +kernel
theorem dX11_line_10 : decode prog_13_method_76_code 10 = .ok (.goto 4, 3) := by decide +kernel
theorem dX11_line_13 : decode prog_13_method_76_code 13 = .ok (.iconst 1, 1) := by decide +kernel
theorem dX11_line_14 : decode prog_13_method_76_code 14 = .ok (.invokevirtual 149, 3) := by decide +kernel
theorem dX11_line_17 : decode prog_13_method_76_code 17 = .ok (.ifCond .eq 5, 3) := by decide +kernel
theorem dX11_line_20 : decode prog_13_method_76_code 20 = .ok (.iconst 0, 1) := by decide +kernel
theorem dX11_line_21 : decode prog_13_method_76_code 21 = .ok (.ireturn, 1) := by decide +kernel
theorem dX11_line_22 : decode prog_13_method_76_code 22 = .ok (.aload_n 0, 1) := by decide +kernel
theorem dX11_line_23 : decode prog_13_method_76_code 23 = .ok (.iconst 0, 1) := by decide +kernel
theorem dX11_line_24 : decode prog_13_method_76_code 24 = .ok (.putfield 223, 3) := by decide +kernel
theorem dX11_line_27 : decode prog_13_method_76_code 27 = .ok (.aload_n 0, 1) := by decide +kernel
theorem dX11_line_28 : decode prog_13_method_76_code 28 = .ok (.iload_n 1, 1) := by decide +kernel
theorem dX11_line_29 : decode prog_13_method_76_code 29 = .ok (.invokevirtual 226, 3) := by decide +kernel
theorem dX11_line_32 : decode prog_13_method_76_code 32 = .ok (.aload_n 0, 1) := by decide +kernel
theorem dX11_line_33 : decode prog_13_method_76_code 33 = .ok (.bipush 58, 2) := by decide +kernel
theorem dX11_line_35 : decode prog_13_method_76_code 35 = .ok (.invokevirtual 230, 3) := by decide +kernel
theorem dX11_line_38 : decode prog_13_method_76_code 38 = .ok (.iconst 0, 1) := by decide +kernel
theorem dX11_line_39 : decode prog_13_method_76_code 39 = .ok (.istore_n 2, 1) := by decide +kernel
theorem dX11_line_40 : decode prog_13_method_76_code 40 = .ok (.iload_n 2, 1) := by decide +kernel
theorem dX11_line_41 : decode prog_13_method_76_code 41 = .ok (.aload_n 0, 1) := by decide +kernel
theorem dX11_line_42 : decode prog_13_method_76_code 42 = .ok (.iload_n 1, 1) := by decide +kernel
theorem dX11_line_43 : decode prog_13_method_76_code 43 = .ok (.iconst 4, 1) := by decide +kernel
theorem dX11_line_44 : decode prog_13_method_76_code 44 = .ok (.invokevirtual 70, 3) := by decide +kernel
theorem dX11_line_47 : decode prog_13_method_76_code 47 = .ok (.if_icmp .ge 55, 3) := by decide +kernel
theorem dX11_line_50 : decode prog_13_method_76_code 50 = .ok (.aload_n 0, 1) := by decide +kernel
theorem dX11_line_51 : decode prog_13_method_76_code 51 = .ok (.iload_n 1, 1) := by decide +kernel
theorem dX11_line_52 : decode prog_13_method_76_code 52 = .ok (.iload_n 2, 1) := by decide +kernel
theorem dX11_line_53 : decode prog_13_method_76_code 53 = .ok (.invokevirtual 167, 3) := by decide +kernel
theorem dX11_line_56 : decode prog_13_method_76_code 56 = .ok (.istore_n 3, 1) := by decide +kernel
theorem dX11_line_57 : decode prog_13_method_76_code 57 = .ok (.aload_n 0, 1) := by decide +kernel
theorem dX11_line_58 : decode prog_13_method_76_code 58 = .ok (.bipush 32, 2) := by decide +kernel
theorem dX11_line_60 : decode prog_13_method_76_code 60 = .ok (.invokevirtual 230, 3) := by decide +kernel
theorem dX11_line_63 : decode prog_13_method_76_code 63 = .ok (.aload_n 0, 1) := by decide +kernel
theorem dX11_line_64 : decode prog_13_method_76_code 64 = .ok (.aload_n 0, 1) := by decide +kernel
theorem dX11_line_65 : decode prog_13_method_76_code 65 = .ok (.iload_n 1, 1) := by decide +kernel
theorem dX11_line_66 : decode prog_13_method_76_code 66 = .ok (.iload_n 3, 1) := by decide +kernel
theorem dX11_line_67 : decode prog_13_method_76_code 67 = .ok (.iconst 1, 1) := by decide +kernel
theorem dX11_line_68 : decode prog_13_method_76_code 68 = .ok (.invokevirtual 80, 3) := by decide +kernel
theorem dX11_line_71 : decode prog_13_method_76_code 71 = .ok (.invokevirtual 226, 3) := by decide +kernel
theorem dX11_line_74 : decode prog_13_method_76_code 74 = .ok (.aload_n 0, 1) := by decide +kernel
theorem dX11_line_75 : decode prog_13_method_76_code 75 = .ok (.bipush 61, 2) := by decide +kernel
theorem dX11_line_77 : decode prog_13_method_76_code 77 = .ok (.invokevirtual 230, 3) := by decide +kernel
theorem dX11_line_80 : decode prog_13_method_76_code 80 = .ok (.aload_n 0, 1) := by decide +kernel
theorem dX11_line_81 : decode prog_13_method_76_code 81 = .ok (.aload_n 0, 1) := by decide +kernel
theorem dX11_line_82 : decode prog_13_method_76_code 82 = .ok (.aload_n 0, 1) := by decide +kernel
theorem dX11_line_83 : decode prog_13_method_76_code 83 = .ok (.iload_n 1, 1) := by decide +kernel
theorem dX11_line_84 : decode prog_13_method_76_code 84 = .ok (.iload_n 3, 1) := by decide +kernel
theorem dX11_line_85 : decode prog_13_method_76_code 85 = .ok (.iconst 0, 1) := by decide +kernel
theorem dX11_line_86 : decode prog_13_method_76_code 86 = .ok (.invokevirtual 80, 3) := by decide +kernel
theorem dX11_line_89 : decode prog_13_method_76_code 89 = .ok (.iconst 0, 1) := by decide +kernel
theorem dX11_line_90 : decode prog_13_method_76_code 90 = .ok (.invokevirtual 66, 3) := by decide +kernel
theorem dX11_line_93 : decode prog_13_method_76_code 93 = .ok (.invokevirtual 226, 3) := by decide +kernel
theorem dX11_line_96 : decode prog_13_method_76_code 96 = .ok (.iinc 2 1, 3) := by decide +kernel
theorem dX11_line_99 : decode prog_13_method_76_code 99 = .ok (.goto (-59), 3) := by decide +kernel
theorem dX11_line_102 : decode prog_13_method_76_code 102 = .ok (.aload_n 0, 1) := by decide +kernel
theorem dX11_line_103 : decode prog_13_method_76_code 103 = .ok (.getfield 223, 3) := by decide +kernel
theorem dX11_line_106 : decode prog_13_method_76_code 106 = .ok (.ireturn, 1) := by decide +kernel
theorem nX11_character : zDs yX11_character 1 := ⟨by decide, by decide, by decide +kernel⟩
theorem dX11_character_0 : decode prog_13_method_77_code 0 = .ok (.aload_n 0, 1) := by decide +kernel
theorem dX11_character_1 : decode prog_13_method_77_code 1 = .ok (.iload_n 1, 1) := by decide +kernel
theorem dX11_character_2 : decode prog_13_method_77_code 2 = .ok (.iconst 0, 1) := by decide +kernel
theorem dX11_character_3 : decode prog_13_method_77_code 3 = .ok (.aload_n 0, 1) := by decide +kernel
theorem dX11_character_4 : decode prog_13_method_77_code 4 = .ok (.getfield 223, 3) := by decide +kernel
theorem dX11_character_7 : decode prog_13_method_77_code 7 = .ok (.iconst 1, 1) := by decide +kernel
theorem dX11_character_8 : decode prog_13_method_77_code 8 = .ok (.isub, 1) := by decide +kernel
theorem dX11_character_9 : decode prog_13_method_77_code 9 = .ok (.invokestatic 62, 3) := by decide +kernel
theorem dX11_character_12 : decode prog_13_method_77_code 12 = .ok (.ifCond .eq 7, 3) := by decide +kernel
theorem dX11_character_15 : decode prog_13_method_77_code 15 = .ok (.iconst 0, 1) := by decide +kernel
theorem dX11_character_16 : decode prog_13_method_77_code 16 = .ok (.goto 4, 3) := by decide +kernel
theorem dX11_character_19 : decode prog_13_method_77_code 19 = .ok (.iconst 1, 1) := by decide +kernel
theorem dX11_character_20 : decode prog_13_method_77_code 20 = .ok (.invokevirtual 149, 3) := by decide +kernel
theorem dX11_character_23 : decode prog_13_method_77_code 23 = .ok (.ifCond .eq 8, 3) := by decide +kernel
theorem dX11_character_26 : decode prog_13_method_77_code 26 = .ok (.bipush 32, 2) := by decide +kernel
theorem dX11_character_28 : decode prog_13_method_77_code 28 = .ok (.goto 9, 3) := by decide +kernel
theorem dX11_character_31 : decode prog_13_method_77_code 31 = .ok (.aload_n 0, 1) := by decide +kernel
theorem dX11_character_32 : decode prog_13_method_77_code 32 = .ok (.getfield 29, 3) := by decide +kernel
theorem dX11_character_35 : decode prog_13_method_77_code 35 = .ok (.iload_n 1, 1) := by decide +kernel
theorem dX11_character_36 : decode prog_13_method_77_code 36 = .ok (.caload, 1) := by decide +kernel
theorem dX11_character_37 : decode prog_13_method_77_code 37 = .ok (.ireturn, 1) := by decide +kernel
theorem nX11_estimate : zDs yX11_estimate 1 := ⟨by decide, by decide, by decide +kernel⟩
theorem dX11_estimate_0 : decode prog_13_method_78_code 0 = .ok (.aload_n 0, 1) := by decide +kernel
theorem dX11_estimate_1 : decode prog_13_method_78_code 1 = .ok (.aload_n 0, 1) := by decide +kernel
theorem dX11_estimate_2 : decode prog_13_method_78_code 2 = .ok (.iload_n 1, 1) := by decide +kernel
theorem dX11_estimate_3 : decode prog_13_method_78_code 3 = .ok (.invokevirtual 105, 3) := by decide +kernel
theorem dX11_estimate_6 : decode prog_13_method_78_code 6 = .ok (.ifCond .ne 7, 3) := by decide +kernel
theorem dX11_estimate_9 : decode prog_13_method_78_code 9 = .ok (.iconst 1, 1) := by decide +kernel
theorem dX11_estimate_10 : decode prog_13_method_78_code 10 = .ok (.goto 16, 3) := by decide +kernel
theorem dX11_estimate_13 : decode prog_13_method_78_code 13 = .ok (.aload_n 0, 1) := by decide +kernel
theorem dX11_estimate_14 : decode prog_13_method_78_code 14 = .ok (.iload_n 1, 1) := by decide +kernel
theorem dX11_estimate_15 : decode prog_13_method_78_code 15 = .ok (.invokevirtual 155, 3) := by decide +kernel
theorem dX11_estimate_18 : decode prog_13_method_78_code 18 = .ok (.ifCond .ne 7, 3) := by decide +kernel
theorem dX11_estimate_21 : decode prog_13_method_78_code 21 = .ok (.iconst 2, 1) := by decide +kernel
theorem dX11_estimate_22 : decode prog_13_method_78_code 22 = .ok (.goto 4, 3) := by decide +kernel
theorem dX11_estimate_25 : decode prog_13_method_78_code 25 = .ok (.iconst 0, 1) := by decide +kernel
theorem dX11_estimate_26 : decode prog_13_method_78_code 26 = .ok (.invokevirtual 149, 3) := by decide +kernel
theorem dX11_estimate_29 : decode prog_13_method_78_code 29 = .ok (.ifCond .eq 5, 3) := by decide +kernel
theorem dX11_estimate_32 : decode prog_13_method_78_code 32 = .ok (.dconst 0, 1) := by decide +kernel
theorem dX11_estimate_33 : decode prog_13_method_78_code 33 = .ok (.dreturn, 1) := by decide +kernel
theorem dX11_estimate_34 : decode prog_13_method_78_code 34 = .ok (.iconst 0, 1) := by decide +kernel
theorem dX11_estimate_35 : decode prog_13_method_78_code 35 = .ok (.istore_n 2, 1) := by decide +kernel
theorem dX11_estimate_36 : decode prog_13_method_78_code 36 = .ok (.iconst 0, 1) := by decide +kernel
theorem dX11_estimate_37 : decode prog_13_method_78_code 37 = .ok (.istore_n 3, 1) := by decide +kernel
theorem dX11_estimate_38 : decode prog_13_method_78_code 38 = .ok (.iload_n 3, 1) := by decide +kernel
theorem dX11_estimate_39 : decode prog_13_method_78_code 39 = .ok (.aload_n 0, 1) := by decide +kernel
theorem dX11_estimate_40 : decode prog_13_method_78_code 40 = .ok (.getfield 7, 3) := by decide +kernel
theorem dX11_estimate_43 : decode prog_13_method_78_code 43 = .ok (.iconst 4, 1) := by decide +kernel
theorem dX11_estimate_44 : decode prog_13_method_78_code 44 = .ok (.iaload, 1) := by decide +kernel
theorem dX11_estimate_45 : decode prog_13_method_78_code 45 = .ok (.if_icmp .ge 48, 3) := by decide +kernel
theorem dX11_estimate_48 : decode prog_13_method_78_code 48 = .ok (.aload_n 0, 1) := by decide +kernel
theorem dX11_estimate_49 : decode prog_13_method_78_code 49 = .ok (.iload_n 3, 1) := by decide +kernel
theorem dX11_estimate_50 : decode prog_13_method_78_code 50 = .ok (.iload_n 1, 1) := by decide +kernel
theorem dX11_estimate_51 : decode prog_13_method_78_code 51 = .ok (.invokevirtual 111, 3) := by decide +kernel
theorem dX11_estimate_54 : decode prog_13_method_78_code 54 = .ok (.ifCond .lt 33, 3) := by decide +kernel
theorem dX11_estimate_57 : decode prog_13_method_78_code 57 = .ok (.iload_n 2, 1) := by decide +kernel
theorem dX11_estimate_58 : decode prog_13_method_78_code 58 = .ok (.aload_n 0, 1) := by decide +kernel
theorem dX11_estimate_59 : decode prog_13_method_78_code 59 = .ok (.iload_n 3, 1) := by decide +kernel
theorem dX11_estimate_60 : decode prog_13_method_78_code 60 = .ok (.aload_n 0, 1) := by decide +kernel
theorem dX11_estimate_61 : decode prog_13_method_78_code 61 = .ok (.iload_n 3, 1) := by decide +kernel
theorem dX11_estimate_62 : decode prog_13_method_78_code 62 = .ok (.iload_n 1, 1) := by decide +kernel
theorem dX11_estimate_63 : decode prog_13_method_78_code 63 = .ok (.invokevirtual 111, 3) := by decide +kernel
theorem dX11_estimate_66 : decode prog_13_method_78_code 66 = .ok (.invokevirtual 137, 3) := by decide +kernel
theorem dX11_estimate_69 : decode prog_13_method_78_code 69 = .ok (.aload_n 0, 1) := by decide +kernel
theorem dX11_estimate_70 : decode prog_13_method_78_code 70 = .ok (.iload_n 3, 1) := by decide +kernel
theorem dX11_estimate_71 : decode prog_13_method_78_code 71 = .ok (.iconst 1, 1) := by decide +kernel
theorem dX11_estimate_72 : decode prog_13_method_78_code 72 = .ok (.invokevirtual 70, 3) := by decide +kernel
theorem dX11_estimate_75 : decode prog_13_method_78_code 75 = .ok (.iadd, 1) := by decide +kernel
theorem dX11_estimate_76 : decode prog_13_method_78_code 76 = .ok (.aload_n 0, 1) := by decide +kernel
theorem dX11_estimate_77 : decode prog_13_method_78_code 77 = .ok (.iload_n 3, 1) := by decide +kernel
theorem dX11_estimate_78 : decode prog_13_method_78_code 78 = .ok (.iconst 0, 1) := by decide +kernel
theorem dX11_estimate_79 : decode prog_13_method_78_code 79 = .ok (.invokevirtual 70, 3) := by decide +kernel
theorem dX11_estimate_82 : decode prog_13_method_78_code 82 = .ok (.iconst 5, 1) := by decide +kernel
theorem dX11_estimate_83 : decode prog_13_method_78_code 83 = .ok (.idiv, 1) := by decide +kernel
theorem dX11_estimate_84 : decode prog_13_method_78_code 84 = .ok (.iadd, 1) := by decide +kernel
theorem dX11_estimate_85 : decode prog_13_method_78_code 85 = .ok (.iadd, 1) := by decide +kernel
theorem dX11_estimate_86 : decode prog_13_method_78_code 86 = .ok (.istore_n 2, 1) := by decide +kernel
theorem dX11_estimate_87 : decode prog_13_method_78_code 87 = .ok (.iinc 3 1, 3) := by decide +kernel
theorem dX11_estimate_90 : decode prog_13_method_78_code 90 = .ok (.goto (-52), 3) := by decide +kernel
theorem dX11_estimate_93 : decode prog_13_method_78_code 93 = .ok (.iload_n 2, 1) := by decide +kernel
theorem dX11_estimate_94 : decode prog_13_method_78_code 94 = .ok (.i2d, 1) := by decide +kernel
theorem dX11_estimate_95 : decode prog_13_method_78_code 95 = .ok (.aload_n 0, 1) := by decide +kernel
theorem dX11_estimate_96 : decode prog_13_method_78_code 96 = .ok (.iload_n 1, 1) := by decide +kernel
theorem dX11_estimate_97 : decode prog_13_method_78_code 97 = .ok (.invokevirtual 155, 3) := by decide +kernel
theorem dX11_estimate_100 : decode prog_13_method_78_code 100 = .ok (.i2d, 1) := by decide +kernel
theorem dX11_estimate_101 : decode prog_13_method_78_code 101 = .ok (.ddiv, 1) := by decide +kernel
theorem dX11_estimate_102 : decode prog_13_method_78_code 102 = .ok (.dreturn, 1) := by decide +kernel
theorem nX11_meanEdge : zDs yX11_meanEdge 0 := ⟨by decide, by decide, by decide +kernel⟩
theorem dX11_meanEdge_0 : decode prog_13_method_79_code 0 = .ok (.iconst 0, 1) := by decide +kernel
theorem dX11_meanEdge_1 : decode prog_13_method_79_code 1 = .ok (.istore_n 1, 1) := by decide +kernel
theorem dX11_meanEdge_2 : decode prog_13_method_79_code 2 = .ok (.iconst 0, 1) := by decide +kernel
theorem dX11_meanEdge_3 : decode prog_13_method_79_code 3 = .ok (.istore_n 2, 1) := by decide +kernel
theorem dX11_meanEdge_4 : decode prog_13_method_79_code 4 = .ok (.iload_n 2, 1) := by decide +kernel
theorem dX11_meanEdge_5 : decode prog_13_method_79_code 5 = .ok (.aload_n 0, 1) := by decide +kernel
theorem dX11_meanEdge_6 : decode prog_13_method_79_code 6 = .ok (.getfield 7, 3) := by decide +kernel
theorem dX11_meanEdge_9 : decode prog_13_method_79_code 9 = .ok (.sipush 225, 3) := by decide +kernel
theorem dX11_meanEdge_12 : decode prog_13_method_79_code 12 = .ok (.iaload, 1) := by decide +kernel
theorem dX11_meanEdge_13 : decode prog_13_method_79_code 13 = .ok (.if_icmp .ge 22, 3) := by decide +kernel
theorem dX11_meanEdge_16 : decode prog_13_method_79_code 16 = .ok (.iload_n 1, 1) := by decide +kernel
theorem dX11_meanEdge_17 : decode prog_13_method_79_code 17 = .ok (.aload_n 0, 1) := by decide +kernel
theorem dX11_meanEdge_18 : decode prog_13_method_79_code 18 = .ok (.getfield 7, 3) := by decide +kernel
theorem dX11_meanEdge_21 : decode prog_13_method_79_code 21 = .ok (.sipush 226, 3) := by decide +kernel
theorem dX11_meanEdge_24 : decode prog_13_method_79_code 24 = .ok (.iload_n 2, 1) := by decide +kernel
theorem dX11_meanEdge_25 : decode prog_13_method_79_code 25 = .ok (.iadd, 1) := by decide +kernel
theorem dX11_meanEdge_26 : decode prog_13_method_79_code 26 = .ok (.iaload, 1) := by decide +kernel
theorem dX11_meanEdge_27 : decode prog_13_method_79_code 27 = .ok (.iadd, 1) := by decide +kernel
theorem dX11_meanEdge_28 : decode prog_13_method_79_code 28 = .ok (.istore_n 1, 1) := by decide +kernel
theorem dX11_meanEdge_29 : decode prog_13_method_79_code 29 = .ok (.iinc 2 1, 3) := by decide +kernel
theorem dX11_meanEdge_32 : decode prog_13_method_79_code 32 = .ok (.goto (-28), 3) := by decide +kernel
theorem dX11_meanEdge_35 : decode prog_13_method_79_code 35 = .ok (.aload_n 0, 1) := by decide +kernel
theorem dX11_meanEdge_36 : decode prog_13_method_79_code 36 = .ok (.aload_n 0, 1) := by decide +kernel
theorem dX11_meanEdge_37 : decode prog_13_method_79_code 37 = .ok (.getfield 7, 3) := by decide +kernel
theorem dX11_meanEdge_40 : decode prog_13_method_79_code 40 = .ok (.sipush 225, 3) := by decide +kernel
theorem dX11_meanEdge_43 : decode prog_13_method_79_code 43 = .ok (.iaload, 1) := by decide +kernel
theorem dX11_meanEdge_44 : decode prog_13_method_79_code 44 = .ok (.ifCond .ne 7, 3) := by decide +kernel
theorem dX11_meanEdge_47 : decode prog_13_method_79_code 47 = .ok (.iconst 1, 1) := by decide +kernel
theorem dX11_meanEdge_48 : decode prog_13_method_79_code 48 = .ok (.goto 4, 3) := by decide +kernel
theorem dX11_meanEdge_51 : decode prog_13_method_79_code 51 = .ok (.iconst 0, 1) := by decide +kernel
theorem dX11_meanEdge_52 : decode prog_13_method_79_code 52 = .ok (.invokevirtual 149, 3) := by decide +kernel
theorem dX11_meanEdge_55 : decode prog_13_method_79_code 55 = .ok (.ifCond .eq 7, 3) := by decide +kernel
theorem dX11_meanEdge_58 : decode prog_13_method_79_code 58 = .ok (.fconst 0, 1) := by decide +kernel
theorem dX11_meanEdge_59 : decode prog_13_method_79_code 59 = .ok (.goto 15, 3) := by decide +kernel
theorem dX11_meanEdge_62 : decode prog_13_method_79_code 62 = .ok (.iload_n 1, 1) := by decide +kernel
theorem dX11_meanEdge_63 : decode prog_13_method_79_code 63 = .ok (.i2f, 1) := by decide +kernel
theorem dX11_meanEdge_64 : decode prog_13_method_79_code 64 = .ok (.aload_n 0, 1) := by decide +kernel
theorem dX11_meanEdge_65 : decode prog_13_method_79_code 65 = .ok (.getfield 7, 3) := by decide +kernel
theorem dX11_meanEdge_68 : decode prog_13_method_79_code 68 = .ok (.sipush 225, 3) := by decide +kernel
theorem dX11_meanEdge_71 : decode prog_13_method_79_code 71 = .ok (.iaload, 1) := by decide +kernel
theorem dX11_meanEdge_72 : decode prog_13_method_79_code 72 = .ok (.i2f, 1) := by decide +kernel
theorem dX11_meanEdge_73 : decode prog_13_method_79_code 73 = .ok (.fdiv, 1) := by decide +kernel
theorem dX11_meanEdge_74 : decode prog_13_method_79_code 74 = .ok (.freturn, 1) := by decide +kernel
theorem nX11_marks : zDs yX11_marks 0 := ⟨by decide, by decide, by decide +kernel⟩
theorem dX11_marks_0 : decode prog_13_method_80_code 0 = .ok (.iconst 0, 1) := by decide +kernel
theorem dX11_marks_1 : decode prog_13_method_80_code 1 = .ok (.istore_n 1, 1) := by decide +kernel
theorem dX11_marks_2 : decode prog_13_method_80_code 2 = .ok (.iconst 0, 1) := by decide +kernel
theorem dX11_marks_3 : decode prog_13_method_80_code 3 = .ok (.istore_n 2, 1) := by decide +kernel
theorem dX11_marks_4 : decode prog_13_method_80_code 4 = .ok (.iload_n 2, 1) := by decide +kernel
theorem dX11_marks_5 : decode prog_13_method_80_code 5 = .ok (.aload_n 0, 1) := by decide +kernel
theorem dX11_marks_6 : decode prog_13_method_80_code 6 = .ok (.getfield 7, 3) := by decide +kernel
theorem dX11_marks_9 : decode prog_13_method_80_code 9 = .ok (.iconst 4, 1) := by decide +kernel
theorem dX11_marks_10 : decode prog_13_method_80_code 10 = .ok (.iaload, 1) := by decide +kernel
theorem dX11_marks_11 : decode prog_13_method_80_code 11 = .ok (.if_icmp .ge 18, 3) := by decide +kernel
theorem dX11_marks_14 : decode prog_13_method_80_code 14 = .ok (.iload_n 1, 1) := by decide +kernel
theorem dX11_marks_15 : decode prog_13_method_80_code 15 = .ok (.aload_n 0, 1) := by decide +kernel
theorem dX11_marks_16 : decode prog_13_method_80_code 16 = .ok (.iload_n 2, 1) := by decide +kernel
theorem dX11_marks_17 : decode prog_13_method_80_code 17 = .ok (.iconst 4, 1) := by decide +kernel
theorem dX11_marks_18 : decode prog_13_method_80_code 18 = .ok (.invokevirtual 70, 3) := by decide +kernel
theorem dX11_marks_21 : decode prog_13_method_80_code 21 = .ok (.iadd, 1) := by decide +kernel
theorem dX11_marks_22 : decode prog_13_method_80_code 22 = .ok (.istore_n 1, 1) := by decide +kernel
theorem dX11_marks_23 : decode prog_13_method_80_code 23 = .ok (.iinc 2 1, 3) := by decide +kernel
theorem dX11_marks_26 : decode prog_13_method_80_code 26 = .ok (.goto (-22), 3) := by decide +kernel
theorem dX11_marks_29 : decode prog_13_method_80_code 29 = .ok (.iload_n 1, 1) := by decide +kernel
theorem dX11_marks_30 : decode prog_13_method_80_code 30 = .ok (.ireturn, 1) := by decide +kernel
theorem nX11_doubtful : zDs yX11_doubtful 0 := ⟨by decide, by decide, by decide +kernel⟩
theorem dX11_doubtful_0 : decode prog_13_method_81_code 0 = .ok (.iconst 0, 1) := by decide +kernel
theorem dX11_doubtful_1 : decode prog_13_method_81_code 1 = .ok (.istore_n 1, 1) := by decide +kernel
theorem dX11_doubtful_2 : decode prog_13_method_81_code 2 = .ok (.iconst 0, 1) := by decide +kernel
theorem dX11_doubtful_3 : decode prog_13_method_81_code 3 = .ok (.istore_n 2, 1) := by decide +kernel
theorem dX11_doubtful_4 : decode prog_13_method_81_code 4 = .ok (.iload_n 2, 1) := by decide +kernel
theorem dX11_doubtful_5 : decode prog_13_method_81_code 5 = .ok (.aload_n 0, 1) := by decide +kernel
theorem dX11_doubtful_6 : decode prog_13_method_81_code 6 = .ok (.getfield 7, 3) := by decide +kernel
theorem dX11_doubtful_9 : decode prog_13_method_81_code 9 = .ok (.iconst 4, 1) := by decide +kernel
theorem dX11_doubtful_10 : decode prog_13_method_81_code 10 = .ok (.iaload, 1) := by decide +kernel
theorem dX11_doubtful_11 : decode prog_13_method_81_code 11 = .ok (.if_icmp .ge 25, 3) := by decide +kernel
theorem dX11_doubtful_14 : decode prog_13_method_81_code 14 = .ok (.iload_n 1, 1) := by decide +kernel
theorem dX11_doubtful_15 : decode prog_13_method_81_code 15 = .ok (.aload_n 0, 1) := by decide +kernel
theorem dX11_doubtful_16 : decode prog_13_method_81_code 16 = .ok (.iload_n 2, 1) := by decide +kernel
theorem dX11_doubtful_17 : decode prog_13_method_81_code 17 = .ok (.invokevirtual 152, 3) := by decide +kernel
theorem dX11_doubtful_20 : decode prog_13_method_81_code 20 = .ok (.ifCond .le 7, 3) := by decide +kernel
theorem dX11_doubtful_23 : decode prog_13_method_81_code 23 = .ok (.iconst 1, 1) := by decide +kernel
theorem dX11_doubtful_24 : decode prog_13_method_81_code 24 = .ok (.goto 4, 3) := by decide +kernel
theorem dX11_doubtful_27 : decode prog_13_method_81_code 27 = .ok (.iconst 0, 1) := by decide +kernel
theorem dX11_doubtful_28 : decode prog_13_method_81_code 28 = .ok (.iadd, 1) := by decide +kernel
theorem dX11_doubtful_29 : decode prog_13_method_81_code 29 = .ok (.istore_n 1, 1) := by decide +kernel
theorem dX11_doubtful_30 : decode prog_13_method_81_code 30 = .ok (.iinc 2 1, 3) := by decide +kernel
theorem dX11_doubtful_33 : decode prog_13_method_81_code 33 = .ok (.goto (-29), 3) := by decide +kernel
theorem dX11_doubtful_36 : decode prog_13_method_81_code 36 = .ok (.iload_n 1, 1) := by decide +kernel
theorem dX11_doubtful_37 : decode prog_13_method_81_code 37 = .ok (.ireturn, 1) := by decide +kernel
theorem nX11_account : zDs yX11_account 1 := ⟨by decide, by decide, by decide +kernel⟩
theorem dX11_account_0 : decode prog_13_method_82_code 0 = .ok (.aload_n 0, 1) := by decide +kernel
theorem dX11_account_1 : decode prog_13_method_82_code 1 = .ok (.iload_n 1, 1) := by decide +kernel
theorem dX11_account_2 : decode prog_13_method_82_code 2 = .ok (.iconst 0, 1) := by decide +kernel
theorem dX11_account_3 : decode prog_13_method_82_code 3 = .ok (.bipush 11, 2) := by decide +kernel
theorem dX11_account_5 : decode prog_13_method_82_code 5 = .ok (.invokestatic 62, 3) := by decide +kernel
theorem dX11_account_8 : decode prog_13_method_82_code 8 = .ok (.ifCond .eq 7, 3) := by decide +kernel
theorem dX11_account_11 : decode prog_13_method_82_code 11 = .ok (.iconst 0, 1) := by decide +kernel
theorem dX11_account_12 : decode prog_13_method_82_code 12 = .ok (.goto 4, 3) := by decide +kernel
theorem dX11_account_15 : decode prog_13_method_82_code 15 = .ok (.iconst 1, 1) := by decide +kernel
theorem dX11_account_16 : decode prog_13_method_82_code 16 = .ok (.invokevirtual 149, 3) := by decide +kernel
theorem dX11_account_19 : decode prog_13_method_82_code 19 = .ok (.ifCond .eq 5, 3) := by decide +kernel
theorem dX11_account_22 : decode prog_13_method_82_code 22 = .ok (.iconst 0, 1) := by decide +kernel
theorem dX11_account_23 : decode prog_13_method_82_code 23 = .ok (.ireturn, 1) := by decide +kernel
theorem dX11_account_24 : decode prog_13_method_82_code 24 = .ok (.iload_n 1, 1) := by decide +kernel
theorem dX11_account_25 : decode prog_13_method_82_code 25 = .ok (.tableswitch 136 0 10 #[59, 66, 73, 82, 91, 100, 105, 112, 119, 126, 131], 59) := by decide +kernel
theorem dX11_account_84 : decode prog_13_method_82_code 84 = .ok (.aload_n 0, 1) := by decide +kernel
theorem dX11_account_85 : decode prog_13_method_82_code 85 = .ok (.getfield 7, 3) := by decide +kernel
theorem dX11_account_88 : decode prog_13_method_82_code 88 = .ok (.iconst 0, 1) := by decide +kernel
theorem dX11_account_89 : decode prog_13_method_82_code 89 = .ok (.iaload, 1) := by decide +kernel
theorem dX11_account_90 : decode prog_13_method_82_code 90 = .ok (.ireturn, 1) := by decide +kernel
theorem dX11_account_91 : decode prog_13_method_82_code 91 = .ok (.aload_n 0, 1) := by decide +kernel
theorem dX11_account_92 : decode prog_13_method_82_code 92 = .ok (.getfield 7, 3) := by decide +kernel
theorem dX11_account_95 : decode prog_13_method_82_code 95 = .ok (.iconst 4, 1) := by decide +kernel
theorem dX11_account_96 : decode prog_13_method_82_code 96 = .ok (.iaload, 1) := by decide +kernel
theorem dX11_account_97 : decode prog_13_method_82_code 97 = .ok (.ireturn, 1) := by decide +kernel
theorem dX11_account_98 : decode prog_13_method_82_code 98 = .ok (.aload_n 0, 1) := by decide +kernel
theorem dX11_account_99 : decode prog_13_method_82_code 99 = .ok (.getfield 7, 3) := by decide +kernel
theorem dX11_account_102 : decode prog_13_method_82_code 102 = .ok (.sipush 179, 3) := by decide +kernel
theorem dX11_account_105 : decode prog_13_method_82_code 105 = .ok (.iaload, 1) := by decide +kernel
theorem dX11_account_106 : decode prog_13_method_82_code 106 = .ok (.ireturn, 1) := by decide +kernel
theorem dX11_account_107 : decode prog_13_method_82_code 107 = .ok (.aload_n 0, 1) := by decide +kernel
theorem dX11_account_108 : decode prog_13_method_82_code 108 = .ok (.getfield 7, 3) := by decide +kernel
theorem dX11_account_111 : decode prog_13_method_82_code 111 = .ok (.sipush 216, 3) := by decide +kernel
theorem dX11_account_114 : decode prog_13_method_82_code 114 = .ok (.iaload, 1) := by decide +kernel
theorem dX11_account_115 : decode prog_13_method_82_code 115 = .ok (.ireturn, 1) := by decide +kernel
theorem dX11_account_116 : decode prog_13_method_82_code 116 = .ok (.aload_n 0, 1) := by decide +kernel
theorem dX11_account_117 : decode prog_13_method_82_code 117 = .ok (.getfield 7, 3) := by decide +kernel
theorem dX11_account_120 : decode prog_13_method_82_code 120 = .ok (.sipush 225, 3) := by decide +kernel
theorem dX11_account_123 : decode prog_13_method_82_code 123 = .ok (.iaload, 1) := by decide +kernel
theorem dX11_account_124 : decode prog_13_method_82_code 124 = .ok (.ireturn, 1) := by decide +kernel
theorem dX11_account_125 : decode prog_13_method_82_code 125 = .ok (.aload_n 0, 1) := by decide +kernel
theorem dX11_account_126 : decode prog_13_method_82_code 126 = .ok (.invokevirtual 233, 3) := by decide +kernel
theorem dX11_account_129 : decode prog_13_method_82_code 129 = .ok (.ireturn, 1) := by decide +kernel
theorem dX11_account_130 : decode prog_13_method_82_code 130 = .ok (.aload_n 0, 1) := by decide +kernel
theorem dX11_account_131 : decode prog_13_method_82_code 131 = .ok (.getfield 7, 3) := by decide +kernel
theorem dX11_account_134 : decode prog_13_method_82_code 134 = .ok (.iconst 1, 1) := by decide +kernel
theorem dX11_account_135 : decode prog_13_method_82_code 135 = .ok (.iaload, 1) := by decide +kernel
theorem dX11_account_136 : decode prog_13_method_82_code 136 = .ok (.ireturn, 1) := by decide +kernel
theorem dX11_account_137 : decode prog_13_method_82_code 137 = .ok (.aload_n 0, 1) := by decide +kernel
theorem dX11_account_138 : decode prog_13_method_82_code 138 = .ok (.getfield 7, 3) := by decide +kernel
theorem dX11_account_141 : decode prog_13_method_82_code 141 = .ok (.iconst 2, 1) := by decide +kernel
theorem dX11_account_142 : decode prog_13_method_82_code 142 = .ok (.iaload, 1) := by decide +kernel
theorem dX11_account_143 : decode prog_13_method_82_code 143 = .ok (.ireturn, 1) := by decide +kernel
theorem dX11_account_144 : decode prog_13_method_82_code 144 = .ok (.aload_n 0, 1) := by decide +kernel
theorem dX11_account_145 : decode prog_13_method_82_code 145 = .ok (.getfield 7, 3) := by decide +kernel
theorem dX11_account_148 : decode prog_13_method_82_code 148 = .ok (.iconst 3, 1) := by decide +kernel
theorem dX11_account_149 : decode prog_13_method_82_code 149 = .ok (.iaload, 1) := by decide +kernel
theorem dX11_account_150 : decode prog_13_method_82_code 150 = .ok (.ireturn, 1) := by decide +kernel
theorem dX11_account_151 : decode prog_13_method_82_code 151 = .ok (.aload_n 0, 1) := by decide +kernel
theorem dX11_account_152 : decode prog_13_method_82_code 152 = .ok (.invokevirtual 236, 3) := by decide +kernel
theorem dX11_account_155 : decode prog_13_method_82_code 155 = .ok (.ireturn, 1) := by decide +kernel
theorem dX11_account_156 : decode prog_13_method_82_code 156 = .ok (.aload_n 0, 1) := by decide +kernel
theorem dX11_account_157 : decode prog_13_method_82_code 157 = .ok (.getfield 55, 3) := by decide +kernel
theorem dX11_account_160 : decode prog_13_method_82_code 160 = .ok (.ireturn, 1) := by decide +kernel
theorem dX11_account_161 : decode prog_13_method_82_code 161 = .ok (.aload_n 0, 1) := by decide +kernel
theorem dX11_account_162 : decode prog_13_method_82_code 162 = .ok (.getfield 177, 3) := by decide +kernel
theorem dX11_account_165 : decode prog_13_method_82_code 165 = .ok (.ireturn, 1) := by decide +kernel
theorem nX11_undo : zDs yX11_undo 0 := ⟨by decide, by decide, by decide +kernel⟩
theorem dX11_undo_0 : decode prog_13_method_83_code 0 = .ok (.aload_n 0, 1) := by decide +kernel
theorem dX11_undo_1 : decode prog_13_method_83_code 1 = .ok (.aload_n 0, 1) := by decide +kernel
theorem dX11_undo_2 : decode prog_13_method_83_code 2 = .ok (.getfield 55, 3) := by decide +kernel
theorem dX11_undo_5 : decode prog_13_method_83_code 5 = .ok (.ifCond .ne 7, 3) := by decide +kernel
theorem dX11_undo_8 : decode prog_13_method_83_code 8 = .ok (.iconst 1, 1) := by decide +kernel
theorem dX11_undo_9 : decode prog_13_method_83_code 9 = .ok (.goto 4, 3) := by decide +kernel
theorem dX11_undo_12 : decode prog_13_method_83_code 12 = .ok (.iconst 0, 1) := by decide +kernel
theorem dX11_undo_13 : decode prog_13_method_83_code 13 = .ok (.invokevirtual 149, 3) := by decide +kernel
theorem dX11_undo_16 : decode prog_13_method_83_code 16 = .ok (.ifCond .eq 5, 3) := by decide +kernel
theorem dX11_undo_19 : decode prog_13_method_83_code 19 = .ok (.iconst 0, 1) := by decide +kernel
theorem dX11_undo_20 : decode prog_13_method_83_code 20 = .ok (.ireturn, 1) := by decide +kernel
theorem dX11_undo_21 : decode prog_13_method_83_code 21 = .ok (.aload_n 0, 1) := by decide +kernel
theorem dX11_undo_22 : decode prog_13_method_83_code 22 = .ok (.dup, 1) := by decide +kernel
theorem dX11_undo_23 : decode prog_13_method_83_code 23 = .ok (.getfield 55, 3) := by decide +kernel
theorem dX11_undo_26 : decode prog_13_method_83_code 26 = .ok (.iconst 1, 1) := by decide +kernel
theorem dX11_undo_27 : decode prog_13_method_83_code 27 = .ok (.isub, 1) := by decide +kernel
theorem dX11_undo_28 : decode prog_13_method_83_code 28 = .ok (.putfield 55, 3) := by decide +kernel
theorem dX11_undo_31 : decode prog_13_method_83_code 31 = .ok (.aload_n 0, 1) := by decide +kernel
theorem dX11_undo_32 : decode prog_13_method_83_code 32 = .ok (.getfield 13, 3) := by decide +kernel
theorem dX11_undo_35 : decode prog_13_method_83_code 35 = .ok (.sipush 229, 3) := by decide +kernel
theorem dX11_undo_38 : decode prog_13_method_83_code 38 = .ok (.aload_n 0, 1) := by decide +kernel
theorem dX11_undo_39 : decode prog_13_method_83_code 39 = .ok (.getfield 55, 3) := by decide +kernel
theorem dX11_undo_42 : decode prog_13_method_83_code 42 = .ok (.imul, 1) := by decide +kernel
theorem dX11_undo_43 : decode prog_13_method_83_code 43 = .ok (.aload_n 0, 1) := by decide +kernel
theorem dX11_undo_44 : decode prog_13_method_83_code 44 = .ok (.getfield 7, 3) := by decide +kernel
theorem dX11_undo_47 : decode prog_13_method_83_code 47 = .ok (.iconst 0, 1) := by decide +kernel
theorem dX11_undo_48 : decode prog_13_method_83_code 48 = .ok (.invokestatic 58, 3) := by decide +kernel
theorem dX11_undo_51 : decode prog_13_method_83_code 51 = .ok (.aload_n 0, 1) := by decide +kernel
theorem dX11_undo_52 : decode prog_13_method_83_code 52 = .ok (.getfield 55, 3) := by decide +kernel
theorem dX11_undo_55 : decode prog_13_method_83_code 55 = .ok (.ireturn, 1) := by decide +kernel
theorem nX11_save : zDs yX11_save 0 := ⟨by decide, by decide, by decide +kernel⟩
theorem dX11_save_0 : decode prog_13_method_84_code 0 = .ok (.aload_n 0, 1) := by decide +kernel
theorem dX11_save_1 : decode prog_13_method_84_code 1 = .ok (.iconst 0, 1) := by decide +kernel
theorem dX11_save_2 : decode prog_13_method_84_code 2 = .ok (.putfield 36, 3) := by decide +kernel
theorem dX11_save_5 : decode prog_13_method_84_code 5 = .ok (.aload_n 0, 1) := by decide +kernel
theorem dX11_save_6 : decode prog_13_method_84_code 6 = .ok (.iconst 1, 1) := by decide +kernel
theorem dX11_save_7 : decode prog_13_method_84_code 7 = .ok (.putfield 239, 3) := by decide +kernel
theorem dX11_save_10 : decode prog_13_method_84_code 10 = .ok (.aload_n 0, 1) := by decide +kernel
theorem dX11_save_11 : decode prog_13_method_84_code 11 = .ok (.getfield 7, 3) := by decide +kernel
theorem dX11_save_14 : decode prog_13_method_84_code 14 = .ok (.iconst 0, 1) := by decide +kernel
theorem dX11_save_15 : decode prog_13_method_84_code 15 = .ok (.aload_n 0, 1) := by decide +kernel
theorem dX11_save_16 : decode prog_13_method_84_code 16 = .ok (.getfield 16, 3) := by decide +kernel
theorem dX11_save_19 : decode prog_13_method_84_code 19 = .ok (.iconst 0, 1) := by decide +kernel
theorem dX11_save_20 : decode prog_13_method_84_code 20 = .ok (.invokestatic 58, 3) := by decide +kernel
theorem dX11_save_23 : decode prog_13_method_84_code 23 = .ok (.aload_n 0, 1) := by decide +kernel
theorem dX11_save_24 : decode prog_13_method_84_code 24 = .ok (.getfield 7, 3) := by decide +kernel
theorem dX11_save_27 : decode prog_13_method_84_code 27 = .ok (.iconst 0, 1) := by decide +kernel
theorem dX11_save_28 : decode prog_13_method_84_code 28 = .ok (.iaload, 1) := by decide +kernel
theorem dX11_save_29 : decode prog_13_method_84_code 29 = .ok (.ireturn, 1) := by decide +kernel
theorem nX11_restore : zDs yX11_restore 0 := ⟨by decide, by decide, by decide +kernel⟩
theorem dX11_restore_0 : decode prog_13_method_85_code 0 = .ok (.aload_n 0, 1) := by decide +kernel
theorem dX11_restore_1 : decode prog_13_method_85_code 1 = .ok (.aload_n 0, 1) := by decide +kernel
theorem dX11_restore_2 : decode prog_13_method_85_code 2 = .ok (.getfield 239, 3) := by decide +kernel
theorem dX11_restore_5 : decode prog_13_method_85_code 5 = .ok (.ifCond .eq 7, 3) := by decide +kernel
theorem dX11_restore_8 : decode prog_13_method_85_code 8 = .ok (.iconst 0, 1) := by decide +kernel
theorem dX11_restore_9 : decode prog_13_method_85_code 9 = .ok (.goto 4, 3) := by decide +kernel
theorem dX11_restore_12 : decode prog_13_method_85_code 12 = .ok (.iconst 1, 1) := by decide +kernel
theorem dX11_restore_13 : decode prog_13_method_85_code 13 = .ok (.invokevirtual 149, 3) := by decide +kernel
theorem dX11_restore_16 : decode prog_13_method_85_code 16 = .ok (.ifCond .eq 5, 3) := by decide +kernel
theorem dX11_restore_19 : decode prog_13_method_85_code 19 = .ok (.iconst 0, 1) := by decide +kernel
theorem dX11_restore_20 : decode prog_13_method_85_code 20 = .ok (.ireturn, 1) := by decide +kernel
theorem dX11_restore_21 : decode prog_13_method_85_code 21 = .ok (.aload_n 0, 1) := by decide +kernel
theorem dX11_restore_22 : decode prog_13_method_85_code 22 = .ok (.getfield 16, 3) := by decide +kernel
theorem dX11_restore_25 : decode prog_13_method_85_code 25 = .ok (.iconst 0, 1) := by decide +kernel
theorem dX11_restore_26 : decode prog_13_method_85_code 26 = .ok (.aload_n 0, 1) := by decide +kernel
theorem dX11_restore_27 : decode prog_13_method_85_code 27 = .ok (.getfield 7, 3) := by decide +kernel
theorem dX11_restore_30 : decode prog_13_method_85_code 30 = .ok (.iconst 0, 1) := by decide +kernel
theorem dX11_restore_31 : decode prog_13_method_85_code 31 = .ok (.invokestatic 58, 3) := by decide +kernel
theorem dX11_restore_34 : decode prog_13_method_85_code 34 = .ok (.aload_n 0, 1) := by decide +kernel
theorem dX11_restore_35 : decode prog_13_method_85_code 35 = .ok (.iconst 0, 1) := by decide +kernel
theorem dX11_restore_36 : decode prog_13_method_85_code 36 = .ok (.putfield 55, 3) := by decide +kernel
theorem dX11_restore_39 : decode prog_13_method_85_code 39 = .ok (.aload_n 0, 1) := by decide +kernel
theorem dX11_restore_40 : decode prog_13_method_85_code 40 = .ok (.getfield 7, 3) := by decide +kernel
theorem dX11_restore_43 : decode prog_13_method_85_code 43 = .ok (.iconst 0, 1) := by decide +kernel
theorem dX11_restore_44 : decode prog_13_method_85_code 44 = .ok (.iaload, 1) := by decide +kernel
theorem dX11_restore_45 : decode prog_13_method_85_code 45 = .ok (.ireturn, 1) := by decide +kernel
