theorem pnX0 : plainName RX0 = true := by decide +kernel
theorem nX0_init : zDs yX0_init 0 := ⟨by decide, by decide, by decide +kernel⟩
theorem dX0_init_0 : decode prog_2_method_1_code 0 = .ok (.aload_n 0, 1) := by decide +kernel
theorem dX0_init_1 : decode prog_2_method_1_code 1 = .ok (.invokespecial 1, 3) := by decide +kernel
theorem dX0_init_4 : decode prog_2_method_1_code 4 = .ok (.aload_n 0, 1) := by decide +kernel
theorem dX0_init_5 : decode prog_2_method_1_code 5 = .ok (.iconst 0, 1) := by decide +kernel
theorem dX0_init_6 : decode prog_2_method_1_code 6 = .ok (.putfield 7, 3) := by decide +kernel
theorem dX0_init_9 : decode prog_2_method_1_code 9 = .ok (.aload_n 0, 1) := by decide +kernel
theorem dX0_init_10 : decode prog_2_method_1_code 10 = .ok (.iconst 3, 1) := by decide +kernel
theorem dX0_init_11 : decode prog_2_method_1_code 11 = .ok (.newarray .int, 2) := by decide +kernel
theorem dX0_init_13 : decode prog_2_method_1_code 13 = .ok (.putfield 13, 3) := by decide +kernel
theorem dX0_init_16 : decode prog_2_method_1_code 16 = .ok (.return_, 1) := by decide +kernel
theorem nX0_copyFrom : zDs yX0_copyFrom 1 := ⟨by decide, by decide, by decide +kernel⟩
theorem dX0_copyFrom_0 : decode prog_2_method_2_code 0 = .ok (.aload_n 0, 1) := by decide +kernel
theorem dX0_copyFrom_1 : decode prog_2_method_2_code 1 = .ok (.aload_n 1, 1) := by decide +kernel
theorem dX0_copyFrom_2 : decode prog_2_method_2_code 2 = .ok (.getfield 7, 3) := by decide +kernel
theorem dX0_copyFrom_5 : decode prog_2_method_2_code 5 = .ok (.putfield 7, 3) := by decide +kernel
theorem dX0_copyFrom_8 : decode prog_2_method_2_code 8 = .ok (.aload_n 1, 1) := by decide +kernel
theorem dX0_copyFrom_9 : decode prog_2_method_2_code 9 = .ok (.getfield 13, 3) := by decide +kernel
theorem dX0_copyFrom_12 : decode prog_2_method_2_code 12 = .ok (.aload_n 0, 1) := by decide +kernel
theorem dX0_copyFrom_13 : decode prog_2_method_2_code 13 = .ok (.getfield 13, 3) := by decide +kernel
theorem dX0_copyFrom_16 : decode prog_2_method_2_code 16 = .ok (.invokestatic 17, 3) := by decide +kernel
theorem dX0_copyFrom_19 : decode prog_2_method_2_code 19 = .ok (.return_, 1) := by decide +kernel
theorem nX0_has : zDs yX0_has 1 := ⟨by decide, by decide, by decide +kernel⟩
theorem dX0_has_0 : decode prog_2_method_3_code 0 = .ok (.iload_n 1, 1) := by decide +kernel
theorem dX0_has_1 : decode prog_2_method_3_code 1 = .ok (.ifCond .lt 15, 3) := by decide +kernel
theorem dX0_has_4 : decode prog_2_method_3_code 4 = .ok (.iload_n 1, 1) := by decide +kernel
theorem dX0_has_5 : decode prog_2_method_3_code 5 = .ok (.aload_n 0, 1) := by decide +kernel
theorem dX0_has_6 : decode prog_2_method_3_code 6 = .ok (.getfield 7, 3) := by decide +kernel
theorem dX0_has_9 : decode prog_2_method_3_code 9 = .ok (.if_icmp .ge 7, 3) := by decide +kernel
theorem dX0_has_12 : decode prog_2_method_3_code 12 = .ok (.iconst 1, 1) := by decide +kernel
theorem dX0_has_13 : decode prog_2_method_3_code 13 = .ok (.goto 4, 3) := by decide +kernel
theorem dX0_has_16 : decode prog_2_method_3_code 16 = .ok (.iconst 0, 1) := by decide +kernel
theorem dX0_has_17 : decode prog_2_method_3_code 17 = .ok (.ireturn, 1) := by decide +kernel
theorem nX0_add : zDs yX0_add 0 := ⟨by decide, by decide, by decide +kernel⟩
theorem dX0_add_0 : decode prog_2_method_4_code 0 = .ok (.aload_n 0, 1) := by decide +kernel
theorem dX0_add_1 : decode prog_2_method_4_code 1 = .ok (.getfield 7, 3) := by decide +kernel
theorem dX0_add_4 : decode prog_2_method_4_code 4 = .ok (.istore_n 1, 1) := by decide +kernel
theorem dX0_add_5 : decode prog_2_method_4_code 5 = .ok (.aload_n 0, 1) := by decide +kernel
theorem dX0_add_6 : decode prog_2_method_4_code 6 = .ok (.getfield 13, 3) := by decide +kernel
theorem dX0_add_9 : decode prog_2_method_4_code 9 = .ok (.iload_n 1, 1) := by decide +kernel
theorem dX0_add_10 : decode prog_2_method_4_code 10 = .ok (.bipush 20, 2) := by decide +kernel
theorem dX0_add_12 : decode prog_2_method_4_code 12 = .ok (.invokestatic 23, 3) := by decide +kernel
theorem dX0_add_15 : decode prog_2_method_4_code 15 = .ok (.aload_n 0, 1) := by decide +kernel
theorem dX0_add_16 : decode prog_2_method_4_code 16 = .ok (.iload_n 1, 1) := by decide +kernel
theorem dX0_add_17 : decode prog_2_method_4_code 17 = .ok (.iconst 1, 1) := by decide +kernel
theorem dX0_add_18 : decode prog_2_method_4_code 18 = .ok (.iadd, 1) := by decide +kernel
theorem dX0_add_19 : decode prog_2_method_4_code 19 = .ok (.putfield 7, 3) := by decide +kernel
theorem dX0_add_22 : decode prog_2_method_4_code 22 = .ok (.iload_n 1, 1) := by decide +kernel
theorem dX0_add_23 : decode prog_2_method_4_code 23 = .ok (.ireturn, 1) := by decide +kernel
theorem nX0_renew : zDs yX0_renew 1 := ⟨by decide, by decide, by decide +kernel⟩
theorem dX0_renew_0 : decode prog_2_method_5_code 0 = .ok (.aload_n 0, 1) := by decide +kernel
theorem dX0_renew_1 : decode prog_2_method_5_code 1 = .ok (.getfield 13, 3) := by decide +kernel
theorem dX0_renew_4 : decode prog_2_method_5_code 4 = .ok (.iload_n 1, 1) := by decide +kernel
theorem dX0_renew_5 : decode prog_2_method_5_code 5 = .ok (.invokestatic 27, 3) := by decide +kernel
theorem dX0_renew_8 : decode prog_2_method_5_code 8 = .ok (.istore_n 2, 1) := by decide +kernel
theorem dX0_renew_9 : decode prog_2_method_5_code 9 = .ok (.aload_n 0, 1) := by decide +kernel
theorem dX0_renew_10 : decode prog_2_method_5_code 10 = .ok (.getfield 13, 3) := by decide +kernel
theorem dX0_renew_13 : decode prog_2_method_5_code 13 = .ok (.iload_n 1, 1) := by decide +kernel
theorem dX0_renew_14 : decode prog_2_method_5_code 14 = .ok (.bipush 20, 2) := by decide +kernel
theorem dX0_renew_16 : decode prog_2_method_5_code 16 = .ok (.invokestatic 23, 3) := by decide +kernel
theorem dX0_renew_19 : decode prog_2_method_5_code 19 = .ok (.iload_n 2, 1) := by decide +kernel
theorem dX0_renew_20 : decode prog_2_method_5_code 20 = .ok (.ireturn, 1) := by decide +kernel
theorem nX0_blunt : zDs yX0_blunt 2 := ⟨by decide, by decide, by decide +kernel⟩
theorem dX0_blunt_0 : decode prog_2_method_6_code 0 = .ok (.aload_n 0, 1) := by decide +kernel
theorem dX0_blunt_1 : decode prog_2_method_6_code 1 = .ok (.getfield 13, 3) := by decide +kernel
theorem dX0_blunt_4 : decode prog_2_method_6_code 4 = .ok (.iload_n 1, 1) := by decide +kernel
theorem dX0_blunt_5 : decode prog_2_method_6_code 5 = .ok (.aload_n 0, 1) := by decide +kernel
theorem dX0_blunt_6 : decode prog_2_method_6_code 6 = .ok (.getfield 13, 3) := by decide +kernel
theorem dX0_blunt_9 : decode prog_2_method_6_code 9 = .ok (.iload_n 1, 1) := by decide +kernel
theorem dX0_blunt_10 : decode prog_2_method_6_code 10 = .ok (.invokestatic 27, 3) := by decide +kernel
theorem dX0_blunt_13 : decode prog_2_method_6_code 13 = .ok (.iload_n 2, 1) := by decide +kernel
theorem dX0_blunt_14 : decode prog_2_method_6_code 14 = .ok (.isub, 1) := by decide +kernel
theorem dX0_blunt_15 : decode prog_2_method_6_code 15 = .ok (.invokestatic 23, 3) := by decide +kernel
theorem dX0_blunt_18 : decode prog_2_method_6_code 18 = .ok (.return_, 1) := by decide +kernel
theorem nX0_sum : zDs yX0_sum 0 := ⟨by decide, by decide, by decide +kernel⟩
theorem dX0_sum_0 : decode prog_2_method_7_code 0 = .ok (.iconst 0, 1) := by decide +kernel
theorem dX0_sum_1 : decode prog_2_method_7_code 1 = .ok (.istore_n 1, 1) := by decide +kernel
theorem dX0_sum_2 : decode prog_2_method_7_code 2 = .ok (.iconst 0, 1) := by decide +kernel
theorem dX0_sum_3 : decode prog_2_method_7_code 3 = .ok (.istore_n 2, 1) := by decide +kernel
theorem dX0_sum_4 : decode prog_2_method_7_code 4 = .ok (.iload_n 2, 1) := by decide +kernel
theorem dX0_sum_5 : decode prog_2_method_7_code 5 = .ok (.aload_n 0, 1) := by decide +kernel
theorem dX0_sum_6 : decode prog_2_method_7_code 6 = .ok (.getfield 7, 3) := by decide +kernel
theorem dX0_sum_9 : decode prog_2_method_7_code 9 = .ok (.if_icmp .ge 20, 3) := by decide +kernel
theorem dX0_sum_12 : decode prog_2_method_7_code 12 = .ok (.iload_n 1, 1) := by decide +kernel
theorem dX0_sum_13 : decode prog_2_method_7_code 13 = .ok (.aload_n 0, 1) := by decide +kernel
theorem dX0_sum_14 : decode prog_2_method_7_code 14 = .ok (.getfield 13, 3) := by decide +kernel
theorem dX0_sum_17 : decode prog_2_method_7_code 17 = .ok (.iload_n 2, 1) := by decide +kernel
theorem dX0_sum_18 : decode prog_2_method_7_code 18 = .ok (.invokestatic 27, 3) := by decide +kernel
theorem dX0_sum_21 : decode prog_2_method_7_code 21 = .ok (.iadd, 1) := by decide +kernel
theorem dX0_sum_22 : decode prog_2_method_7_code 22 = .ok (.istore_n 1, 1) := by decide +kernel
theorem dX0_sum_23 : decode prog_2_method_7_code 23 = .ok (.iinc 2 1, 3) := by decide +kernel
theorem dX0_sum_26 : decode prog_2_method_7_code 26 = .ok (.goto (-22), 3) := by decide +kernel
theorem dX0_sum_29 : decode prog_2_method_7_code 29 = .ok (.iload_n 1, 1) := by decide +kernel
theorem dX0_sum_30 : decode prog_2_method_7_code 30 = .ok (.ireturn, 1) := by decide +kernel
theorem pnX1 : plainName RX1 = true := by decide +kernel
theorem nX1_init : zDs yX1_init 0 := ⟨by decide, by decide, by decide +kernel⟩
theorem dX1_init_0 : decode prog_3_method_1_code 0 = .ok (.aload_n 0, 1) := by decide +kernel
theorem dX1_init_1 : decode prog_3_method_1_code 1 = .ok (.invokespecial 1, 3) := by decide +kernel
theorem dX1_init_4 : decode prog_3_method_1_code 4 = .ok (.aload_n 0, 1) := by decide +kernel
theorem dX1_init_5 : decode prog_3_method_1_code 5 = .ok (.iconst 0, 1) := by decide +kernel
theorem dX1_init_6 : decode prog_3_method_1_code 6 = .ok (.putfield 7, 3) := by decide +kernel
theorem dX1_init_9 : decode prog_3_method_1_code 9 = .ok (.aload_n 0, 1) := by decide +kernel
theorem dX1_init_10 : decode prog_3_method_1_code 10 = .ok (.iconst 4, 1) := by decide +kernel
theorem dX1_init_11 : decode prog_3_method_1_code 11 = .ok (.newarray .int, 2) := by decide +kernel
theorem dX1_init_13 : decode prog_3_method_1_code 13 = .ok (.putfield 13, 3) := by decide +kernel
theorem dX1_init_16 : decode prog_3_method_1_code 16 = .ok (.aload_n 0, 1) := by decide +kernel
theorem dX1_init_17 : decode prog_3_method_1_code 17 = .ok (.iconst 4, 1) := by decide +kernel
theorem dX1_init_18 : decode prog_3_method_1_code 18 = .ok (.newarray .int, 2) := by decide +kernel
theorem dX1_init_20 : decode prog_3_method_1_code 20 = .ok (.putfield 17, 3) := by decide +kernel
theorem dX1_init_23 : decode prog_3_method_1_code 23 = .ok (.return_, 1) := by decide +kernel
theorem nX1_copyFrom : zDs yX1_copyFrom 1 := ⟨by decide, by decide, by decide +kernel⟩
theorem dX1_copyFrom_0 : decode prog_3_method_2_code 0 = .ok (.aload_n 0, 1) := by decide +kernel
theorem dX1_copyFrom_1 : decode prog_3_method_2_code 1 = .ok (.aload_n 1, 1) := by decide +kernel
theorem dX1_copyFrom_2 : decode prog_3_method_2_code 2 = .ok (.getfield 7, 3) := by decide +kernel
theorem dX1_copyFrom_5 : decode prog_3_method_2_code 5 = .ok (.putfield 7, 3) := by decide +kernel
theorem dX1_copyFrom_8 : decode prog_3_method_2_code 8 = .ok (.aload_n 1, 1) := by decide +kernel
theorem dX1_copyFrom_9 : decode prog_3_method_2_code 9 = .ok (.getfield 13, 3) := by decide +kernel
theorem dX1_copyFrom_12 : decode prog_3_method_2_code 12 = .ok (.aload_n 0, 1) := by decide +kernel
theorem dX1_copyFrom_13 : decode prog_3_method_2_code 13 = .ok (.getfield 13, 3) := by decide +kernel
theorem dX1_copyFrom_16 : decode prog_3_method_2_code 16 = .ok (.invokestatic 20, 3) := by decide +kernel
theorem dX1_copyFrom_19 : decode prog_3_method_2_code 19 = .ok (.aload_n 1, 1) := by decide +kernel
theorem dX1_copyFrom_20 : decode prog_3_method_2_code 20 = .ok (.getfield 17, 3) := by decide +kernel
theorem dX1_copyFrom_23 : decode prog_3_method_2_code 23 = .ok (.aload_n 0, 1) := by decide +kernel
theorem dX1_copyFrom_24 : decode prog_3_method_2_code 24 = .ok (.getfield 17, 3) := by decide +kernel
theorem dX1_copyFrom_27 : decode prog_3_method_2_code 27 = .ok (.invokestatic 20, 3) := by decide +kernel
theorem dX1_copyFrom_30 : decode prog_3_method_2_code 30 = .ok (.return_, 1) := by decide +kernel
theorem nX1_find : zDs yX1_find 1 := ⟨by decide, by decide, by decide +kernel⟩
theorem dX1_find_0 : decode prog_3_method_3_code 0 = .ok (.iconst 0, 1) := by decide +kernel
theorem dX1_find_1 : decode prog_3_method_3_code 1 = .ok (.istore_n 2, 1) := by decide +kernel
theorem dX1_find_2 : decode prog_3_method_3_code 2 = .ok (.iload_n 2, 1) := by decide +kernel
theorem dX1_find_3 : decode prog_3_method_3_code 3 = .ok (.aload_n 0, 1) := by decide +kernel
theorem dX1_find_4 : decode prog_3_method_3_code 4 = .ok (.getfield 7, 3) := by decide +kernel
theorem dX1_find_7 : decode prog_3_method_3_code 7 = .ok (.if_icmp .ge 23, 3) := by decide +kernel
theorem dX1_find_10 : decode prog_3_method_3_code 10 = .ok (.aload_n 0, 1) := by decide +kernel
theorem dX1_find_11 : decode prog_3_method_3_code 11 = .ok (.getfield 13, 3) := by decide +kernel
theorem dX1_find_14 : decode prog_3_method_3_code 14 = .ok (.iload_n 2, 1) := by decide +kernel
theorem dX1_find_15 : decode prog_3_method_3_code 15 = .ok (.invokestatic 26, 3) := by decide +kernel
theorem dX1_find_18 : decode prog_3_method_3_code 18 = .ok (.iload_n 1, 1) := by decide +kernel
theorem dX1_find_19 : decode prog_3_method_3_code 19 = .ok (.if_icmp .ne 5, 3) := by decide +kernel
theorem dX1_find_22 : decode prog_3_method_3_code 22 = .ok (.iload_n 2, 1) := by decide +kernel
theorem dX1_find_23 : decode prog_3_method_3_code 23 = .ok (.ireturn, 1) := by decide +kernel
theorem dX1_find_24 : decode prog_3_method_3_code 24 = .ok (.iinc 2 1, 3) := by decide +kernel
theorem dX1_find_27 : decode prog_3_method_3_code 27 = .ok (.goto (-25), 3) := by decide +kernel
theorem dX1_find_30 : decode prog_3_method_3_code 30 = .ok (.iconst (-1), 1) := by decide +kernel
theorem dX1_find_31 : decode prog_3_method_3_code 31 = .ok (.ireturn, 1) := by decide +kernel
theorem nX1_tell : zDs yX1_tell 2 := ⟨by decide, by decide, by decide +kernel⟩
theorem dX1_tell_0 : decode prog_3_method_4_code 0 = .ok (.aload_n 0, 1) := by decide +kernel
theorem dX1_tell_1 : decode prog_3_method_4_code 1 = .ok (.iload_n 1, 1) := by decide +kernel
theorem dX1_tell_2 : decode prog_3_method_4_code 2 = .ok (.invokevirtual 30, 3) := by decide +kernel
theorem dX1_tell_5 : decode prog_3_method_4_code 5 = .ok (.istore_n 3, 1) := by decide +kernel
theorem dX1_tell_6 : decode prog_3_method_4_code 6 = .ok (.iload_n 3, 1) := by decide +kernel
theorem dX1_tell_7 : decode prog_3_method_4_code 7 = .ok (.ifCond .ge 18, 3) := by decide +kernel
theorem dX1_tell_10 : decode prog_3_method_4_code 10 = .ok (.aload_n 0, 1) := by decide +kernel
theorem dX1_tell_11 : decode prog_3_method_4_code 11 = .ok (.getfield 7, 3) := by decide +kernel
theorem dX1_tell_14 : decode prog_3_method_4_code 14 = .ok (.istore_n 3, 1) := by decide +kernel
theorem dX1_tell_15 : decode prog_3_method_4_code 15 = .ok (.aload_n 0, 1) := by decide +kernel
theorem dX1_tell_16 : decode prog_3_method_4_code 16 = .ok (.dup, 1) := by decide +kernel
theorem dX1_tell_17 : decode prog_3_method_4_code 17 = .ok (.getfield 7, 3) := by decide +kernel
theorem dX1_tell_20 : decode prog_3_method_4_code 20 = .ok (.iconst 1, 1) := by decide +kernel
theorem dX1_tell_21 : decode prog_3_method_4_code 21 = .ok (.iadd, 1) := by decide +kernel
theorem dX1_tell_22 : decode prog_3_method_4_code 22 = .ok (.putfield 7, 3) := by decide +kernel
theorem dX1_tell_25 : decode prog_3_method_4_code 25 = .ok (.aload_n 0, 1) := by decide +kernel
theorem dX1_tell_26 : decode prog_3_method_4_code 26 = .ok (.getfield 13, 3) := by decide +kernel
theorem dX1_tell_29 : decode prog_3_method_4_code 29 = .ok (.iload_n 3, 1) := by decide +kernel
theorem dX1_tell_30 : decode prog_3_method_4_code 30 = .ok (.iload_n 1, 1) := by decide +kernel
theorem dX1_tell_31 : decode prog_3_method_4_code 31 = .ok (.invokestatic 34, 3) := by decide +kernel
theorem dX1_tell_34 : decode prog_3_method_4_code 34 = .ok (.aload_n 0, 1) := by decide +kernel
theorem dX1_tell_35 : decode prog_3_method_4_code 35 = .ok (.getfield 17, 3) := by decide +kernel
theorem dX1_tell_38 : decode prog_3_method_4_code 38 = .ok (.iload_n 3, 1) := by decide +kernel
theorem dX1_tell_39 : decode prog_3_method_4_code 39 = .ok (.iload_n 2, 1) := by decide +kernel
theorem dX1_tell_40 : decode prog_3_method_4_code 40 = .ok (.invokestatic 34, 3) := by decide +kernel
theorem dX1_tell_43 : decode prog_3_method_4_code 43 = .ok (.aload_n 0, 1) := by decide +kernel
theorem dX1_tell_44 : decode prog_3_method_4_code 44 = .ok (.getfield 7, 3) := by decide +kernel
theorem dX1_tell_47 : decode prog_3_method_4_code 47 = .ok (.ireturn, 1) := by decide +kernel
theorem nX1_shiftIn : zDs yX1_shiftIn 1 := ⟨by decide, by decide, by decide +kernel⟩
theorem dX1_shiftIn_0 : decode prog_3_method_5_code 0 = .ok (.iconst (-1), 1) := by decide +kernel
theorem dX1_shiftIn_1 : decode prog_3_method_5_code 1 = .ok (.istore_n 2, 1) := by decide +kernel
theorem dX1_shiftIn_2 : decode prog_3_method_5_code 2 = .ok (.iconst 0, 1) := by decide +kernel
theorem dX1_shiftIn_3 : decode prog_3_method_5_code 3 = .ok (.istore_n 3, 1) := by decide +kernel
theorem dX1_shiftIn_4 : decode prog_3_method_5_code 4 = .ok (.iconst 0, 1) := by decide +kernel
theorem dX1_shiftIn_5 : decode prog_3_method_5_code 5 = .ok (.istore 4, 2) := by decide +kernel
theorem dX1_shiftIn_7 : decode prog_3_method_5_code 7 = .ok (.iload 4, 2) := by decide +kernel
theorem dX1_shiftIn_9 : decode prog_3_method_5_code 9 = .ok (.aload_n 0, 1) := by decide +kernel
theorem dX1_shiftIn_10 : decode prog_3_method_5_code 10 = .ok (.getfield 7, 3) := by decide +kernel
theorem dX1_shiftIn_13 : decode prog_3_method_5_code 13 = .ok (.if_icmp .ge 45, 3) := by decide +kernel
theorem dX1_shiftIn_16 : decode prog_3_method_5_code 16 = .ok (.aload_n 0, 1) := by decide +kernel
theorem dX1_shiftIn_17 : decode prog_3_method_5_code 17 = .ok (.getfield 13, 3) := by decide +kernel
theorem dX1_shiftIn_20 : decode prog_3_method_5_code 20 = .ok (.iload 4, 2) := by decide +kernel
theorem dX1_shiftIn_22 : decode prog_3_method_5_code 22 = .ok (.invokestatic 26, 3) := by decide +kernel
theorem dX1_shiftIn_25 : decode prog_3_method_5_code 25 = .ok (.istore 5, 2) := by decide +kernel
theorem dX1_shiftIn_27 : decode prog_3_method_5_code 27 = .ok (.iload 5, 2) := by decide +kernel
theorem dX1_shiftIn_29 : decode prog_3_method_5_code 29 = .ok (.iload_n 1, 1) := by decide +kernel
theorem dX1_shiftIn_30 : decode prog_3_method_5_code 30 = .ok (.if_icmp .gt 22, 3) := by decide +kernel
theorem dX1_shiftIn_33 : decode prog_3_method_5_code 33 = .ok (.iload 5, 2) := by decide +kernel
theorem dX1_shiftIn_35 : decode prog_3_method_5_code 35 = .ok (.iload_n 2, 1) := by decide +kernel
theorem dX1_shiftIn_36 : decode prog_3_method_5_code 36 = .ok (.if_icmp .le 16, 3) := by decide +kernel
theorem dX1_shiftIn_39 : decode prog_3_method_5_code 39 = .ok (.iload 5, 2) := by decide +kernel
theorem dX1_shiftIn_41 : decode prog_3_method_5_code 41 = .ok (.istore_n 2, 1) := by decide +kernel
theorem dX1_shiftIn_42 : decode prog_3_method_5_code 42 = .ok (.aload_n 0, 1) := by decide +kernel
theorem dX1_shiftIn_43 : decode prog_3_method_5_code 43 = .ok (.getfield 17, 3) := by decide +kernel
theorem dX1_shiftIn_46 : decode prog_3_method_5_code 46 = .ok (.iload 4, 2) := by decide +kernel
theorem dX1_shiftIn_48 : decode prog_3_method_5_code 48 = .ok (.invokestatic 26, 3) := by decide +kernel
theorem dX1_shiftIn_51 : decode prog_3_method_5_code 51 = .ok (.istore_n 3, 1) := by decide +kernel
theorem dX1_shiftIn_52 : decode prog_3_method_5_code 52 = .ok (.iinc 4 1, 3) := by decide +kernel
theorem dX1_shiftIn_55 : decode prog_3_method_5_code 55 = .ok (.goto (-48), 3) := by decide +kernel
theorem dX1_shiftIn_58 : decode prog_3_method_5_code 58 = .ok (.iload_n 3, 1) := by decide +kernel
theorem dX1_shiftIn_59 : decode prog_3_method_5_code 59 = .ok (.ireturn, 1) := by decide +kernel
theorem pnX2 : plainName RX2 = true := by decide +kernel
theorem nX2_init : zDs yX2_init 0 := ⟨by decide, by decide, by decide +kernel⟩
theorem dX2_init_0 : decode prog_4_method_1_code 0 = .ok (.aload_n 0, 1) := by decide +kernel
theorem dX2_init_1 : decode prog_4_method_1_code 1 = .ok (.invokespecial 1, 3) := by decide +kernel
theorem dX2_init_4 : decode prog_4_method_1_code 4 = .ok (.aload_n 0, 1) := by decide +kernel
theorem dX2_init_5 : decode prog_4_method_1_code 5 = .ok (.iconst 0, 1) := by decide +kernel
theorem dX2_init_6 : decode prog_4_method_1_code 6 = .ok (.putfield 7, 3) := by decide +kernel
theorem dX2_init_9 : decode prog_4_method_1_code 9 = .ok (.aload_n 0, 1) := by decide +kernel
theorem dX2_init_10 : decode prog_4_method_1_code 10 = .ok (.bipush 12, 2) := by decide +kernel
theorem dX2_init_12 : decode prog_4_method_1_code 12 = .ok (.newarray .int, 2) := by decide +kernel
theorem dX2_init_14 : decode prog_4_method_1_code 14 = .ok (.putfield 13, 3) := by decide +kernel
theorem dX2_init_17 : decode prog_4_method_1_code 17 = .ok (.aload_n 0, 1) := by decide +kernel
theorem dX2_init_18 : decode prog_4_method_1_code 18 = .ok (.bipush 12, 2) := by decide +kernel
theorem dX2_init_20 : decode prog_4_method_1_code 20 = .ok (.newarray .int, 2) := by decide +kernel
theorem dX2_init_22 : decode prog_4_method_1_code 22 = .ok (.putfield 17, 3) := by decide +kernel
theorem dX2_init_25 : decode prog_4_method_1_code 25 = .ok (.aload_n 0, 1) := by decide +kernel
theorem dX2_init_26 : decode prog_4_method_1_code 26 = .ok (.bipush 12, 2) := by decide +kernel
theorem dX2_init_28 : decode prog_4_method_1_code 28 = .ok (.newarray .int, 2) := by decide +kernel
theorem dX2_init_30 : decode prog_4_method_1_code 30 = .ok (.putfield 20, 3) := by decide +kernel
theorem dX2_init_33 : decode prog_4_method_1_code 33 = .ok (.return_, 1) := by decide +kernel
theorem nX2_copyFrom : zDs yX2_copyFrom 1 := ⟨by decide, by decide, by decide +kernel⟩
theorem dX2_copyFrom_0 : decode prog_4_method_2_code 0 = .ok (.aload_n 0, 1) := by decide +kernel
theorem dX2_copyFrom_1 : decode prog_4_method_2_code 1 = .ok (.aload_n 1, 1) := by decide +kernel
theorem dX2_copyFrom_2 : decode prog_4_method_2_code 2 = .ok (.getfield 7, 3) := by decide +kernel
theorem dX2_copyFrom_5 : decode prog_4_method_2_code 5 = .ok (.putfield 7, 3) := by decide +kernel
theorem dX2_copyFrom_8 : decode prog_4_method_2_code 8 = .ok (.aload_n 1, 1) := by decide +kernel
theorem dX2_copyFrom_9 : decode prog_4_method_2_code 9 = .ok (.getfield 13, 3) := by decide +kernel
theorem dX2_copyFrom_12 : decode prog_4_method_2_code 12 = .ok (.aload_n 0, 1) := by decide +kernel
theorem dX2_copyFrom_13 : decode prog_4_method_2_code 13 = .ok (.getfield 13, 3) := by decide +kernel
theorem dX2_copyFrom_16 : decode prog_4_method_2_code 16 = .ok (.invokestatic 23, 3) := by decide +kernel
theorem dX2_copyFrom_19 : decode prog_4_method_2_code 19 = .ok (.aload_n 1, 1) := by decide +kernel
theorem dX2_copyFrom_20 : decode prog_4_method_2_code 20 = .ok (.getfield 17, 3) := by decide +kernel
theorem dX2_copyFrom_23 : decode prog_4_method_2_code 23 = .ok (.aload_n 0, 1) := by decide +kernel
theorem dX2_copyFrom_24 : decode prog_4_method_2_code 24 = .ok (.getfield 17, 3) := by decide +kernel
theorem dX2_copyFrom_27 : decode prog_4_method_2_code 27 = .ok (.invokestatic 23, 3) := by decide +kernel
theorem dX2_copyFrom_30 : decode prog_4_method_2_code 30 = .ok (.aload_n 1, 1) := by decide +kernel
theorem dX2_copyFrom_31 : decode prog_4_method_2_code 31 = .ok (.getfield 20, 3) := by decide +kernel
theorem dX2_copyFrom_34 : decode prog_4_method_2_code 34 = .ok (.aload_n 0, 1) := by decide +kernel
theorem dX2_copyFrom_35 : decode prog_4_method_2_code 35 = .ok (.getfield 20, 3) := by decide +kernel
theorem dX2_copyFrom_38 : decode prog_4_method_2_code 38 = .ok (.invokestatic 23, 3) := by decide +kernel
theorem dX2_copyFrom_41 : decode prog_4_method_2_code 41 = .ok (.return_, 1) := by decide +kernel
theorem nX2_has : zDs yX2_has 1 := ⟨by decide, by decide, by decide +kernel⟩
theorem dX2_has_0 : decode prog_4_method_3_code 0 = .ok (.iload_n 1, 1) := by decide +kernel
theorem dX2_has_1 : decode prog_4_method_3_code 1 = .ok (.ifCond .lt 15, 3) := by decide +kernel
theorem dX2_has_4 : decode prog_4_method_3_code 4 = .ok (.iload_n 1, 1) := by decide +kernel
theorem dX2_has_5 : decode prog_4_method_3_code 5 = .ok (.aload_n 0, 1) := by decide +kernel
theorem dX2_has_6 : decode prog_4_method_3_code 6 = .ok (.getfield 7, 3) := by decide +kernel
theorem dX2_has_9 : decode prog_4_method_3_code 9 = .ok (.if_icmp .ge 7, 3) := by decide +kernel
theorem dX2_has_12 : decode prog_4_method_3_code 12 = .ok (.iconst 1, 1) := by decide +kernel
theorem dX2_has_13 : decode prog_4_method_3_code 13 = .ok (.goto 4, 3) := by decide +kernel
theorem dX2_has_16 : decode prog_4_method_3_code 16 = .ok (.iconst 0, 1) := by decide +kernel
theorem dX2_has_17 : decode prog_4_method_3_code 17 = .ok (.ireturn, 1) := by decide +kernel
theorem nX2_add : zDs yX2_add 3 := ⟨by decide, by decide, by decide +kernel⟩
theorem dX2_add_0 : decode prog_4_method_4_code 0 = .ok (.aload_n 0, 1) := by decide +kernel
theorem dX2_add_1 : decode prog_4_method_4_code 1 = .ok (.getfield 7, 3) := by decide +kernel
theorem dX2_add_4 : decode prog_4_method_4_code 4 = .ok (.istore 4, 2) := by decide +kernel
theorem dX2_add_6 : decode prog_4_method_4_code 6 = .ok (.aload_n 0, 1) := by decide +kernel
theorem dX2_add_7 : decode prog_4_method_4_code 7 = .ok (.getfield 13, 3) := by decide +kernel
theorem dX2_add_10 : decode prog_4_method_4_code 10 = .ok (.iload 4, 2) := by decide +kernel
theorem dX2_add_12 : decode prog_4_method_4_code 12 = .ok (.iload_n 1, 1) := by decide +kernel
theorem dX2_add_13 : decode prog_4_method_4_code 13 = .ok (.invokestatic 29, 3) := by decide +kernel
theorem dX2_add_16 : decode prog_4_method_4_code 16 = .ok (.aload_n 0, 1) := by decide +kernel
theorem dX2_add_17 : decode prog_4_method_4_code 17 = .ok (.getfield 17, 3) := by decide +kernel
theorem dX2_add_20 : decode prog_4_method_4_code 20 = .ok (.iload 4, 2) := by decide +kernel
theorem dX2_add_22 : decode prog_4_method_4_code 22 = .ok (.iload_n 2, 1) := by decide +kernel
theorem dX2_add_23 : decode prog_4_method_4_code 23 = .ok (.invokestatic 29, 3) := by decide +kernel
theorem dX2_add_26 : decode prog_4_method_4_code 26 = .ok (.aload_n 0, 1) := by decide +kernel
theorem dX2_add_27 : decode prog_4_method_4_code 27 = .ok (.getfield 20, 3) := by decide +kernel
theorem dX2_add_30 : decode prog_4_method_4_code 30 = .ok (.iload 4, 2) := by decide +kernel
theorem dX2_add_32 : decode prog_4_method_4_code 32 = .ok (.iload_n 3, 1) := by decide +kernel
theorem dX2_add_33 : decode prog_4_method_4_code 33 = .ok (.invokestatic 29, 3) := by decide +kernel
theorem dX2_add_36 : decode prog_4_method_4_code 36 = .ok (.aload_n 0, 1) := by decide +kernel
theorem dX2_add_37 : decode prog_4_method_4_code 37 = .ok (.iload 4, 2) := by decide +kernel
theorem dX2_add_39 : decode prog_4_method_4_code 39 = .ok (.iconst 1, 1) := by decide +kernel
theorem dX2_add_40 : decode prog_4_method_4_code 40 = .ok (.iadd, 1) := by decide +kernel
theorem dX2_add_41 : decode prog_4_method_4_code 41 = .ok (.putfield 7, 3) := by decide +kernel
theorem dX2_add_44 : decode prog_4_method_4_code 44 = .ok (.iload 4, 2) := by decide +kernel
theorem dX2_add_46 : decode prog_4_method_4_code 46 = .ok (.ireturn, 1) := by decide +kernel
theorem nX2_addWitnesses : zDs yX2_addWitnesses 2 := ⟨by decide, by decide, by decide +kernel⟩
theorem dX2_addWitnesses_0 : decode prog_4_method_5_code 0 = .ok (.aload_n 0, 1) := by decide +kernel
theorem dX2_addWitnesses_1 : decode prog_4_method_5_code 1 = .ok (.getfield 20, 3) := by decide +kernel
theorem dX2_addWitnesses_4 : decode prog_4_method_5_code 4 = .ok (.iload_n 1, 1) := by decide +kernel
theorem dX2_addWitnesses_5 : decode prog_4_method_5_code 5 = .ok (.invokestatic 33, 3) := by decide +kernel
theorem dX2_addWitnesses_8 : decode prog_4_method_5_code 8 = .ok (.iload_n 2, 1) := by decide +kernel
theorem dX2_addWitnesses_9 : decode prog_4_method_5_code 9 = .ok (.iadd, 1) := by decide +kernel
theorem dX2_addWitnesses_10 : decode prog_4_method_5_code 10 = .ok (.istore_n 3, 1) := by decide +kernel
theorem dX2_addWitnesses_11 : decode prog_4_method_5_code 11 = .ok (.aload_n 0, 1) := by decide +kernel
theorem dX2_addWitnesses_12 : decode prog_4_method_5_code 12 = .ok (.getfield 20, 3) := by decide +kernel
theorem dX2_addWitnesses_15 : decode prog_4_method_5_code 15 = .ok (.iload_n 1, 1) := by decide +kernel
theorem dX2_addWitnesses_16 : decode prog_4_method_5_code 16 = .ok (.iload_n 3, 1) := by decide +kernel
theorem dX2_addWitnesses_17 : decode prog_4_method_5_code 17 = .ok (.invokestatic 29, 3) := by decide +kernel
theorem dX2_addWitnesses_20 : decode prog_4_method_5_code 20 = .ok (.iload_n 3, 1) := by decide +kernel
theorem dX2_addWitnesses_21 : decode prog_4_method_5_code 21 = .ok (.ireturn, 1) := by decide +kernel
theorem nX2_findYear : zDs yX2_findYear 1 := ⟨by decide, by decide, by decide +kernel⟩
theorem dX2_findYear_0 : decode prog_4_method_6_code 0 = .ok (.iconst 0, 1) := by decide +kernel
theorem dX2_findYear_1 : decode prog_4_method_6_code 1 = .ok (.istore_n 2, 1) := by decide +kernel
theorem dX2_findYear_2 : decode prog_4_method_6_code 2 = .ok (.iload_n 2, 1) := by decide +kernel
theorem dX2_findYear_3 : decode prog_4_method_6_code 3 = .ok (.aload_n 0, 1) := by decide +kernel
theorem dX2_findYear_4 : decode prog_4_method_6_code 4 = .ok (.getfield 7, 3) := by decide +kernel
theorem dX2_findYear_7 : decode prog_4_method_6_code 7 = .ok (.if_icmp .ge 23, 3) := by decide +kernel
theorem dX2_findYear_10 : decode prog_4_method_6_code 10 = .ok (.aload_n 0, 1) := by decide +kernel
theorem dX2_findYear_11 : decode prog_4_method_6_code 11 = .ok (.getfield 13, 3) := by decide +kernel
theorem dX2_findYear_14 : decode prog_4_method_6_code 14 = .ok (.iload_n 2, 1) := by decide +kernel
theorem dX2_findYear_15 : decode prog_4_method_6_code 15 = .ok (.invokestatic 33, 3) := by decide +kernel
theorem dX2_findYear_18 : decode prog_4_method_6_code 18 = .ok (.iload_n 1, 1) := by decide +kernel
theorem dX2_findYear_19 : decode prog_4_method_6_code 19 = .ok (.if_icmp .ne 5, 3) := by decide +kernel
theorem dX2_findYear_22 : decode prog_4_method_6_code 22 = .ok (.iload_n 2, 1) := by decide +kernel
theorem dX2_findYear_23 : decode prog_4_method_6_code 23 = .ok (.ireturn, 1) := by decide +kernel
theorem dX2_findYear_24 : decode prog_4_method_6_code 24 = .ok (.iinc 2 1, 3) := by decide +kernel
theorem dX2_findYear_27 : decode prog_4_method_6_code 27 = .ok (.goto (-25), 3) := by decide +kernel
theorem dX2_findYear_30 : decode prog_4_method_6_code 30 = .ok (.iconst (-1), 1) := by decide +kernel
theorem dX2_findYear_31 : decode prog_4_method_6_code 31 = .ok (.ireturn, 1) := by decide +kernel
theorem nX2_findLatestAhead : zDs yX2_findLatestAhead 1 := ⟨by decide, by decide, by decide +kernel⟩
theorem dX2_findLatestAhead_0 : decode prog_4_method_7_code 0 = .ok (.iconst (-1), 1) := by decide +kernel
theorem dX2_findLatestAhead_1 : decode prog_4_method_7_code 1 = .ok (.istore_n 2, 1) := by decide +kernel
theorem dX2_findLatestAhead_2 : decode prog_4_method_7_code 2 = .ok (.iconst 0, 1) := by decide +kernel
theorem dX2_findLatestAhead_3 : decode prog_4_method_7_code 3 = .ok (.istore_n 3, 1) := by decide +kernel
theorem dX2_findLatestAhead_4 : decode prog_4_method_7_code 4 = .ok (.iload_n 3, 1) := by decide +kernel
theorem dX2_findLatestAhead_5 : decode prog_4_method_7_code 5 = .ok (.aload_n 0, 1) := by decide +kernel
theorem dX2_findLatestAhead_6 : decode prog_4_method_7_code 6 = .ok (.getfield 7, 3) := by decide +kernel
theorem dX2_findLatestAhead_9 : decode prog_4_method_7_code 9 = .ok (.if_icmp .ge 44, 3) := by decide +kernel
theorem dX2_findLatestAhead_12 : decode prog_4_method_7_code 12 = .ok (.aload_n 0, 1) := by decide +kernel
theorem dX2_findLatestAhead_13 : decode prog_4_method_7_code 13 = .ok (.getfield 13, 3) := by decide +kernel
theorem dX2_findLatestAhead_16 : decode prog_4_method_7_code 16 = .ok (.iload_n 3, 1) := by decide +kernel
theorem dX2_findLatestAhead_17 : decode prog_4_method_7_code 17 = .ok (.invokestatic 33, 3) := by decide +kernel
theorem dX2_findLatestAhead_20 : decode prog_4_method_7_code 20 = .ok (.istore 4, 2) := by decide +kernel
theorem dX2_findLatestAhead_22 : decode prog_4_method_7_code 22 = .ok (.iload 4, 2) := by decide +kernel
theorem dX2_findLatestAhead_24 : decode prog_4_method_7_code 24 = .ok (.iload_n 1, 1) := by decide +kernel
theorem dX2_findLatestAhead_25 : decode prog_4_method_7_code 25 = .ok (.if_icmp .ge 22, 3) := by decide +kernel
theorem dX2_findLatestAhead_28 : decode prog_4_method_7_code 28 = .ok (.iload_n 2, 1) := by decide +kernel
theorem dX2_findLatestAhead_29 : decode prog_4_method_7_code 29 = .ok (.ifCond .lt 16, 3) := by decide +kernel
theorem dX2_findLatestAhead_32 : decode prog_4_method_7_code 32 = .ok (.iload 4, 2) := by decide +kernel
theorem dX2_findLatestAhead_34 : decode prog_4_method_7_code 34 = .ok (.aload_n 0, 1) := by decide +kernel
theorem dX2_findLatestAhead_35 : decode prog_4_method_7_code 35 = .ok (.getfield 13, 3) := by decide +kernel
theorem dX2_findLatestAhead_38 : decode prog_4_method_7_code 38 = .ok (.iload_n 2, 1) := by decide +kernel
theorem dX2_findLatestAhead_39 : decode prog_4_method_7_code 39 = .ok (.invokestatic 33, 3) := by decide +kernel
theorem dX2_findLatestAhead_42 : decode prog_4_method_7_code 42 = .ok (.if_icmp .le 5, 3) := by decide +kernel
theorem dX2_findLatestAhead_45 : decode prog_4_method_7_code 45 = .ok (.iload_n 3, 1) := by decide +kernel
theorem dX2_findLatestAhead_46 : decode prog_4_method_7_code 46 = .ok (.istore_n 2, 1) := by decide +kernel
theorem dX2_findLatestAhead_47 : decode prog_4_method_7_code 47 = .ok (.iinc 3 1, 3) := by decide +kernel
theorem dX2_findLatestAhead_50 : decode prog_4_method_7_code 50 = .ok (.goto (-46), 3) := by decide +kernel
theorem dX2_findLatestAhead_53 : decode prog_4_method_7_code 53 = .ok (.iload_n 2, 1) := by decide +kernel
theorem dX2_findLatestAhead_54 : decode prog_4_method_7_code 54 = .ok (.ireturn, 1) := by decide +kernel
theorem pnX3 : plainName RX3 = true := by decide +kernel
theorem nX3_init : zDs yX3_init 1 := ⟨by decide, by decide, by decide +kernel⟩
theorem dX3_init_0 : decode prog_5_method_1_code 0 = .ok (.aload_n 0, 1) := by decide +kernel
theorem dX3_init_1 : decode prog_5_method_1_code 1 = .ok (.invokespecial 1, 3) := by decide +kernel
theorem dX3_init_4 : decode prog_5_method_1_code 4 = .ok (.aload_n 0, 1) := by decide +kernel
theorem dX3_init_5 : decode prog_5_method_1_code 5 = .ok (.iconst 0, 1) := by decide +kernel
theorem dX3_init_6 : decode prog_5_method_1_code 6 = .ok (.putfield 7, 3) := by decide +kernel
theorem dX3_init_9 : decode prog_5_method_1_code 9 = .ok (.aload_n 0, 1) := by decide +kernel
theorem dX3_init_10 : decode prog_5_method_1_code 10 = .ok (.iconst 0, 1) := by decide +kernel
theorem dX3_init_11 : decode prog_5_method_1_code 11 = .ok (.putfield 13, 3) := by decide +kernel
theorem dX3_init_14 : decode prog_5_method_1_code 14 = .ok (.aload_n 0, 1) := by decide +kernel
theorem dX3_init_15 : decode prog_5_method_1_code 15 = .ok (.iload_n 1, 1) := by decide +kernel
theorem dX3_init_16 : decode prog_5_method_1_code 16 = .ok (.ifCond .le 7, 3) := by decide +kernel
theorem dX3_init_19 : decode prog_5_method_1_code 19 = .ok (.iload_n 1, 1) := by decide +kernel
theorem dX3_init_20 : decode prog_5_method_1_code 20 = .ok (.goto 4, 3) := by decide +kernel
theorem dX3_init_23 : decode prog_5_method_1_code 23 = .ok (.iconst 1, 1) := by decide +kernel
theorem dX3_init_24 : decode prog_5_method_1_code 24 = .ok (.anewarray 16, 3) := by decide +kernel
theorem dX3_init_27 : decode prog_5_method_1_code 27 = .ok (.putfield 18, 3) := by decide +kernel
theorem dX3_init_30 : decode prog_5_method_1_code 30 = .ok (.iconst 0, 1) := by decide +kernel
theorem dX3_init_31 : decode prog_5_method_1_code 31 = .ok (.istore_n 2, 1) := by decide +kernel
theorem dX3_init_32 : decode prog_5_method_1_code 32 = .ok (.iload_n 2, 1) := by decide +kernel
theorem dX3_init_33 : decode prog_5_method_1_code 33 = .ok (.aload_n 0, 1) := by decide +kernel
theorem dX3_init_34 : decode prog_5_method_1_code 34 = .ok (.getfield 18, 3) := by decide +kernel
theorem dX3_init_37 : decode prog_5_method_1_code 37 = .ok (.arraylength, 1) := by decide +kernel
theorem dX3_init_38 : decode prog_5_method_1_code 38 = .ok (.if_icmp .ge 22, 3) := by decide +kernel
theorem dX3_init_41 : decode prog_5_method_1_code 41 = .ok (.aload_n 0, 1) := by decide +kernel
theorem dX3_init_42 : decode prog_5_method_1_code 42 = .ok (.getfield 18, 3) := by decide +kernel
theorem dX3_init_45 : decode prog_5_method_1_code 45 = .ok (.iload_n 2, 1) := by decide +kernel
theorem dX3_init_46 : decode prog_5_method_1_code 46 = .ok (.new 16, 3) := by decide +kernel
theorem dX3_init_49 : decode prog_5_method_1_code 49 = .ok (.dup, 1) := by decide +kernel
theorem dX3_init_50 : decode prog_5_method_1_code 50 = .ok (.invokespecial 22, 3) := by decide +kernel
theorem dX3_init_53 : decode prog_5_method_1_code 53 = .ok (.aastore, 1) := by decide +kernel
theorem dX3_init_54 : decode prog_5_method_1_code 54 = .ok (.iinc 2 1, 3) := by decide +kernel
theorem dX3_init_57 : decode prog_5_method_1_code 57 = .ok (.goto (-25), 3) := by decide +kernel
theorem dX3_init_60 : decode prog_5_method_1_code 60 = .ok (.return_, 1) := by decide +kernel
theorem nX3_slotAt : zDs yX3_slotAt 1 := ⟨by decide, by decide, by decide +kernel⟩
theorem dX3_slotAt_0 : decode prog_5_method_2_code 0 = .ok (.iload_n 1, 1) := by decide +kernel
theorem dX3_slotAt_1 : decode prog_5_method_2_code 1 = .ok (.ifCond .lt 21, 3) := by decide +kernel
theorem dX3_slotAt_4 : decode prog_5_method_2_code 4 = .ok (.iload_n 1, 1) := by decide +kernel
theorem dX3_slotAt_5 : decode prog_5_method_2_code 5 = .ok (.aload_n 0, 1) := by decide +kernel
theorem dX3_slotAt_6 : decode prog_5_method_2_code 6 = .ok (.getfield 18, 3) := by decide +kernel
theorem dX3_slotAt_9 : decode prog_5_method_2_code 9 = .ok (.arraylength, 1) := by decide +kernel
theorem dX3_slotAt_10 : decode prog_5_method_2_code 10 = .ok (.if_icmp .ge 12, 3) := by decide +kernel
theorem dX3_slotAt_13 : decode prog_5_method_2_code 13 = .ok (.aload_n 0, 1) := by decide +kernel
theorem dX3_slotAt_14 : decode prog_5_method_2_code 14 = .ok (.getfield 18, 3) := by decide +kernel
theorem dX3_slotAt_17 : decode prog_5_method_2_code 17 = .ok (.iload_n 1, 1) := by decide +kernel
theorem dX3_slotAt_18 : decode prog_5_method_2_code 18 = .ok (.aaload, 1) := by decide +kernel
theorem dX3_slotAt_19 : decode prog_5_method_2_code 19 = .ok (.goto 4, 3) := by decide +kernel
theorem dX3_slotAt_22 : decode prog_5_method_2_code 22 = .ok (.aconst_null, 1) := by decide +kernel
theorem dX3_slotAt_23 : decode prog_5_method_2_code 23 = .ok (.areturn, 1) := by decide +kernel
theorem nX3_keep : zDs yX3_keep 1 := ⟨by decide, by decide, by decide +kernel⟩
theorem dX3_keep_0 : decode prog_5_method_3_code 0 = .ok (.aload_n 0, 1) := by decide +kernel
theorem dX3_keep_1 : decode prog_5_method_3_code 1 = .ok (.aload_n 0, 1) := by decide +kernel
theorem dX3_keep_2 : decode prog_5_method_3_code 2 = .ok (.getfield 7, 3) := by decide +kernel
theorem dX3_keep_5 : decode prog_5_method_3_code 5 = .ok (.invokevirtual 23, 3) := by decide +kernel
theorem dX3_keep_8 : decode prog_5_method_3_code 8 = .ok (.astore_n 2, 1) := by decide +kernel
theorem dX3_keep_9 : decode prog_5_method_3_code 9 = .ok (.aload_n 2, 1) := by decide +kernel
theorem dX3_keep_10 : decode prog_5_method_3_code 10 = .ok (.ifnonnull 4, 3) := by decide +kernel
theorem dX3_keep_13 : decode prog_5_method_3_code 13 = .ok (.return_, 1) := by decide +kernel
theorem dX3_keep_14 : decode prog_5_method_3_code 14 = .ok (.aload_n 2, 1) := by decide +kernel
theorem dX3_keep_15 : decode prog_5_method_3_code 15 = .ok (.aload_n 1, 1) := by decide +kernel
theorem dX3_keep_16 : decode prog_5_method_3_code 16 = .ok (.invokevirtual 27, 3) := by decide +kernel
theorem dX3_keep_19 : decode prog_5_method_3_code 19 = .ok (.aload_n 0, 1) := by decide +kernel
theorem dX3_keep_20 : decode prog_5_method_3_code 20 = .ok (.aload_n 0, 1) := by decide +kernel
theorem dX3_keep_21 : decode prog_5_method_3_code 21 = .ok (.getfield 7, 3) := by decide +kernel
theorem dX3_keep_24 : decode prog_5_method_3_code 24 = .ok (.iconst 1, 1) := by decide +kernel
theorem dX3_keep_25 : decode prog_5_method_3_code 25 = .ok (.iadd, 1) := by decide +kernel
theorem dX3_keep_26 : decode prog_5_method_3_code 26 = .ok (.aload_n 0, 1) := by decide +kernel
theorem dX3_keep_27 : decode prog_5_method_3_code 27 = .ok (.getfield 18, 3) := by decide +kernel
theorem dX3_keep_30 : decode prog_5_method_3_code 30 = .ok (.arraylength, 1) := by decide +kernel
theorem dX3_keep_31 : decode prog_5_method_3_code 31 = .ok (.if_icmp .ge 12, 3) := by decide +kernel
theorem dX3_keep_34 : decode prog_5_method_3_code 34 = .ok (.aload_n 0, 1) := by decide +kernel
theorem dX3_keep_35 : decode prog_5_method_3_code 35 = .ok (.getfield 7, 3) := by decide +kernel
theorem dX3_keep_38 : decode prog_5_method_3_code 38 = .ok (.iconst 1, 1) := by decide +kernel
theorem dX3_keep_39 : decode prog_5_method_3_code 39 = .ok (.iadd, 1) := by decide +kernel
theorem dX3_keep_40 : decode prog_5_method_3_code 40 = .ok (.goto 4, 3) := by decide +kernel
theorem dX3_keep_43 : decode prog_5_method_3_code 43 = .ok (.iconst 0, 1) := by decide +kernel
theorem dX3_keep_44 : decode prog_5_method_3_code 44 = .ok (.putfield 7, 3) := by decide +kernel
theorem dX3_keep_47 : decode prog_5_method_3_code 47 = .ok (.aload_n 0, 1) := by decide +kernel
theorem dX3_keep_48 : decode prog_5_method_3_code 48 = .ok (.aload_n 0, 1) := by decide +kernel
theorem dX3_keep_49 : decode prog_5_method_3_code 49 = .ok (.getfield 13, 3) := by decide +kernel
theorem dX3_keep_52 : decode prog_5_method_3_code 52 = .ok (.iconst 1, 1) := by decide +kernel
theorem dX3_keep_53 : decode prog_5_method_3_code 53 = .ok (.iadd, 1) := by decide +kernel
theorem dX3_keep_54 : decode prog_5_method_3_code 54 = .ok (.aload_n 0, 1) := by decide +kernel
theorem dX3_keep_55 : decode prog_5_method_3_code 55 = .ok (.getfield 18, 3) := by decide +kernel
theorem dX3_keep_58 : decode prog_5_method_3_code 58 = .ok (.arraylength, 1) := by decide +kernel
theorem dX3_keep_59 : decode prog_5_method_3_code 59 = .ok (.invokestatic 31, 3) := by decide +kernel
theorem dX3_keep_62 : decode prog_5_method_3_code 62 = .ok (.putfield 13, 3) := by decide +kernel
theorem dX3_keep_65 : decode prog_5_method_3_code 65 = .ok (.return_, 1) := by decide +kernel
theorem nX3_takeBack : zDs yX3_takeBack 1 := ⟨by decide, by decide, by decide +kernel⟩
theorem dX3_takeBack_0 : decode prog_5_method_4_code 0 = .ok (.aload_n 0, 1) := by decide +kernel
theorem dX3_takeBack_1 : decode prog_5_method_4_code 1 = .ok (.getfield 7, 3) := by decide +kernel
theorem dX3_takeBack_4 : decode prog_5_method_4_code 4 = .ok (.ifCond .le 12, 3) := by decide +kernel
theorem dX3_takeBack_7 : decode prog_5_method_4_code 7 = .ok (.aload_n 0, 1) := by decide +kernel
theorem dX3_takeBack_8 : decode prog_5_method_4_code 8 = .ok (.getfield 7, 3) := by decide +kernel
theorem dX3_takeBack_11 : decode prog_5_method_4_code 11 = .ok (.iconst 1, 1) := by decide +kernel
theorem dX3_takeBack_12 : decode prog_5_method_4_code 12 = .ok (.isub, 1) := by decide +kernel
theorem dX3_takeBack_13 : decode prog_5_method_4_code 13 = .ok (.goto 10, 3) := by decide +kernel
theorem dX3_takeBack_16 : decode prog_5_method_4_code 16 = .ok (.aload_n 0, 1) := by decide +kernel
theorem dX3_takeBack_17 : decode prog_5_method_4_code 17 = .ok (.getfield 18, 3) := by decide +kernel
theorem dX3_takeBack_20 : decode prog_5_method_4_code 20 = .ok (.arraylength, 1) := by decide +kernel
theorem dX3_takeBack_21 : decode prog_5_method_4_code 21 = .ok (.iconst 1, 1) := by decide +kernel
theorem dX3_takeBack_22 : decode prog_5_method_4_code 22 = .ok (.isub, 1) := by decide +kernel
theorem dX3_takeBack_23 : decode prog_5_method_4_code 23 = .ok (.istore_n 2, 1) := by decide +kernel
theorem dX3_takeBack_24 : decode prog_5_method_4_code 24 = .ok (.aload_n 0, 1) := by decide +kernel
theorem dX3_takeBack_25 : decode prog_5_method_4_code 25 = .ok (.iload_n 2, 1) := by decide +kernel
theorem dX3_takeBack_26 : decode prog_5_method_4_code 26 = .ok (.invokevirtual 23, 3) := by decide +kernel
theorem dX3_takeBack_29 : decode prog_5_method_4_code 29 = .ok (.astore_n 3, 1) := by decide +kernel
theorem dX3_takeBack_30 : decode prog_5_method_4_code 30 = .ok (.aload_n 3, 1) := by decide +kernel
theorem dX3_takeBack_31 : decode prog_5_method_4_code 31 = .ok (.ifnull 10, 3) := by decide +kernel
theorem dX3_takeBack_34 : decode prog_5_method_4_code 34 = .ok (.aload_n 0, 1) := by decide +kernel
theorem dX3_takeBack_35 : decode prog_5_method_4_code 35 = .ok (.getfield 13, 3) := by decide +kernel
theorem dX3_takeBack_38 : decode prog_5_method_4_code 38 = .ok (.ifCond .ne 4, 3) := by decide +kernel
theorem dX3_takeBack_41 : decode prog_5_method_4_code 41 = .ok (.return_, 1) := by decide +kernel
theorem dX3_takeBack_42 : decode prog_5_method_4_code 42 = .ok (.aload_n 1, 1) := by decide +kernel
theorem dX3_takeBack_43 : decode prog_5_method_4_code 43 = .ok (.aload_n 3, 1) := by decide +kernel
theorem dX3_takeBack_44 : decode prog_5_method_4_code 44 = .ok (.invokevirtual 27, 3) := by decide +kernel
theorem dX3_takeBack_47 : decode prog_5_method_4_code 47 = .ok (.aload_n 0, 1) := by decide +kernel
theorem dX3_takeBack_48 : decode prog_5_method_4_code 48 = .ok (.iload_n 2, 1) := by decide +kernel
theorem dX3_takeBack_49 : decode prog_5_method_4_code 49 = .ok (.putfield 7, 3) := by decide +kernel
theorem dX3_takeBack_52 : decode prog_5_method_4_code 52 = .ok (.aload_n 0, 1) := by decide +kernel
theorem dX3_takeBack_53 : decode prog_5_method_4_code 53 = .ok (.dup, 1) := by decide +kernel
theorem dX3_takeBack_54 : decode prog_5_method_4_code 54 = .ok (.getfield 13, 3) := by decide +kernel
theorem dX3_takeBack_57 : decode prog_5_method_4_code 57 = .ok (.iconst 1, 1) := by decide +kernel
theorem dX3_takeBack_58 : decode prog_5_method_4_code 58 = .ok (.isub, 1) := by decide +kernel
theorem dX3_takeBack_59 : decode prog_5_method_4_code 59 = .ok (.putfield 13, 3) := by decide +kernel
theorem dX3_takeBack_62 : decode prog_5_method_4_code 62 = .ok (.return_, 1) := by decide +kernel
theorem nX3_forget : zDs yX3_forget 0 := ⟨by decide, by decide, by decide +kernel⟩
theorem dX3_forget_0 : decode prog_5_method_5_code 0 = .ok (.aload_n 0, 1) := by decide +kernel
theorem dX3_forget_1 : decode prog_5_method_5_code 1 = .ok (.iconst 0, 1) := by decide +kernel
theorem dX3_forget_2 : decode prog_5_method_5_code 2 = .ok (.putfield 13, 3) := by decide +kernel
theorem dX3_forget_5 : decode prog_5_method_5_code 5 = .ok (.return_, 1) := by decide +kernel
theorem pnX4 : plainName RX4 = true := by decide +kernel
theorem nX4_init : zDs yX4_init 0 := ⟨by decide, by decide, by decide +kernel⟩
theorem dX4_init_0 : decode prog_6_method_1_code 0 = .ok (.aload_n 0, 1) := by decide +kernel
theorem dX4_init_1 : decode prog_6_method_1_code 1 = .ok (.invokespecial 5, 3) := by decide +kernel
theorem dX4_init_4 : decode prog_6_method_1_code 4 = .ok (.aload_n 0, 1) := by decide +kernel
theorem dX4_init_5 : decode prog_6_method_1_code 5 = .ok (.bipush 72, 2) := by decide +kernel
theorem dX4_init_7 : decode prog_6_method_1_code 7 = .ok (.newarray .int, 2) := by decide +kernel
theorem dX4_init_9 : decode prog_6_method_1_code 9 = .ok (.putfield 13, 3) := by decide +kernel
theorem dX4_init_12 : decode prog_6_method_1_code 12 = .ok (.aload_n 0, 1) := by decide +kernel
theorem dX4_init_13 : decode prog_6_method_1_code 13 = .ok (.bipush 72, 2) := by decide +kernel
theorem dX4_init_15 : decode prog_6_method_1_code 15 = .ok (.newarray .int, 2) := by decide +kernel
theorem dX4_init_17 : decode prog_6_method_1_code 17 = .ok (.putfield 17, 3) := by decide +kernel
theorem dX4_init_20 : decode prog_6_method_1_code 20 = .ok (.aload_n 0, 1) := by decide +kernel
theorem dX4_init_21 : decode prog_6_method_1_code 21 = .ok (.bipush 72, 2) := by decide +kernel
theorem dX4_init_23 : decode prog_6_method_1_code 23 = .ok (.newarray .int, 2) := by decide +kernel
theorem dX4_init_25 : decode prog_6_method_1_code 25 = .ok (.putfield 20, 3) := by decide +kernel
theorem dX4_init_28 : decode prog_6_method_1_code 28 = .ok (.aload_n 0, 1) := by decide +kernel
theorem dX4_init_29 : decode prog_6_method_1_code 29 = .ok (.iconst 0, 1) := by decide +kernel
theorem dX4_init_30 : decode prog_6_method_1_code 30 = .ok (.putfield 23, 3) := by decide +kernel
theorem dX4_init_33 : decode prog_6_method_1_code 33 = .ok (.aload_n 0, 1) := by decide +kernel
theorem dX4_init_34 : decode prog_6_method_1_code 34 = .ok (.iconst 0, 1) := by decide +kernel
theorem dX4_init_35 : decode prog_6_method_1_code 35 = .ok (.putfield 27, 3) := by decide +kernel
theorem dX4_init_38 : decode prog_6_method_1_code 38 = .ok (.aload_n 0, 1) := by decide +kernel
theorem dX4_init_39 : decode prog_6_method_1_code 39 = .ok (.iconst 0, 1) := by decide +kernel
theorem dX4_init_40 : decode prog_6_method_1_code 40 = .ok (.putfield 30, 3) := by decide +kernel
theorem dX4_init_43 : decode prog_6_method_1_code 43 = .ok (.return_, 1) := by decide +kernel
theorem nX4_copyFrom : zDs yX4_copyFrom 1 := ⟨by decide, by decide, by decide +kernel⟩
theorem dX4_copyFrom_0 : decode prog_6_method_2_code 0 = .ok (.aload_n 1, 1) := by decide +kernel
theorem dX4_copyFrom_1 : decode prog_6_method_2_code 1 = .ok (.getfield 13, 3) := by decide +kernel
theorem dX4_copyFrom_4 : decode prog_6_method_2_code 4 = .ok (.aload_n 0, 1) := by decide +kernel
theorem dX4_copyFrom_5 : decode prog_6_method_2_code 5 = .ok (.getfield 13, 3) := by decide +kernel
theorem dX4_copyFrom_8 : decode prog_6_method_2_code 8 = .ok (.invokestatic 33, 3) := by decide +kernel
theorem dX4_copyFrom_11 : decode prog_6_method_2_code 11 = .ok (.aload_n 1, 1) := by decide +kernel
theorem dX4_copyFrom_12 : decode prog_6_method_2_code 12 = .ok (.getfield 17, 3) := by decide +kernel
theorem dX4_copyFrom_15 : decode prog_6_method_2_code 15 = .ok (.aload_n 0, 1) := by decide +kernel
theorem dX4_copyFrom_16 : decode prog_6_method_2_code 16 = .ok (.getfield 17, 3) := by decide +kernel
theorem dX4_copyFrom_19 : decode prog_6_method_2_code 19 = .ok (.invokestatic 33, 3) := by decide +kernel
theorem dX4_copyFrom_22 : decode prog_6_method_2_code 22 = .ok (.aload_n 1, 1) := by decide +kernel
theorem dX4_copyFrom_23 : decode prog_6_method_2_code 23 = .ok (.getfield 20, 3) := by decide +kernel
theorem dX4_copyFrom_26 : decode prog_6_method_2_code 26 = .ok (.aload_n 0, 1) := by decide +kernel
theorem dX4_copyFrom_27 : decode prog_6_method_2_code 27 = .ok (.getfield 20, 3) := by decide +kernel
theorem dX4_copyFrom_30 : decode prog_6_method_2_code 30 = .ok (.invokestatic 33, 3) := by decide +kernel
theorem dX4_copyFrom_33 : decode prog_6_method_2_code 33 = .ok (.aload_n 0, 1) := by decide +kernel
theorem dX4_copyFrom_34 : decode prog_6_method_2_code 34 = .ok (.aload_n 1, 1) := by decide +kernel
theorem dX4_copyFrom_35 : decode prog_6_method_2_code 35 = .ok (.getfield 23, 3) := by decide +kernel
theorem dX4_copyFrom_38 : decode prog_6_method_2_code 38 = .ok (.putfield 23, 3) := by decide +kernel
theorem dX4_copyFrom_41 : decode prog_6_method_2_code 41 = .ok (.aload_n 0, 1) := by decide +kernel
theorem dX4_copyFrom_42 : decode prog_6_method_2_code 42 = .ok (.aload_n 1, 1) := by decide +kernel
theorem dX4_copyFrom_43 : decode prog_6_method_2_code 43 = .ok (.getfield 27, 3) := by decide +kernel
theorem dX4_copyFrom_46 : decode prog_6_method_2_code 46 = .ok (.putfield 27, 3) := by decide +kernel
theorem dX4_copyFrom_49 : decode prog_6_method_2_code 49 = .ok (.aload_n 0, 1) := by decide +kernel
theorem dX4_copyFrom_50 : decode prog_6_method_2_code 50 = .ok (.aload_n 1, 1) := by decide +kernel
theorem dX4_copyFrom_51 : decode prog_6_method_2_code 51 = .ok (.getfield 30, 3) := by decide +kernel
theorem dX4_copyFrom_54 : decode prog_6_method_2_code 54 = .ok (.putfield 30, 3) := by decide +kernel
theorem dX4_copyFrom_57 : decode prog_6_method_2_code 57 = .ok (.return_, 1) := by decide +kernel
theorem nX4_cell : zDs yX4_cell 2 := ⟨by decide, by decide, by decide +kernel⟩
theorem dX4_cell_0 : decode prog_6_method_3_code 0 = .ok (.iload_n 0, 1) := by decide +kernel
theorem dX4_cell_1 : decode prog_6_method_3_code 1 = .ok (.bipush 12, 2) := by decide +kernel
theorem dX4_cell_3 : decode prog_6_method_3_code 3 = .ok (.imul, 1) := by decide +kernel
theorem dX4_cell_4 : decode prog_6_method_3_code 4 = .ok (.iload_n 1, 1) := by decide +kernel
theorem dX4_cell_5 : decode prog_6_method_3_code 5 = .ok (.iadd, 1) := by decide +kernel
theorem dX4_cell_6 : decode prog_6_method_3_code 6 = .ok (.ireturn, 1) := by decide +kernel
theorem nX4_has : zDs yX4_has 2 := ⟨by decide, by decide, by decide +kernel⟩
theorem dX4_has_0 : decode prog_6_method_4_code 0 = .ok (.aload_n 0, 1) := by decide +kernel
theorem dX4_has_1 : decode prog_6_method_4_code 1 = .ok (.getfield 17, 3) := by decide +kernel
theorem dX4_has_4 : decode prog_6_method_4_code 4 = .ok (.iload_n 1, 1) := by decide +kernel
theorem dX4_has_5 : decode prog_6_method_4_code 5 = .ok (.iload_n 2, 1) := by decide +kernel
theorem dX4_has_6 : decode prog_6_method_4_code 6 = .ok (.invokestatic 39, 3) := by decide +kernel
theorem dX4_has_9 : decode prog_6_method_4_code 9 = .ok (.invokestatic 43, 3) := by decide +kernel
theorem dX4_has_12 : decode prog_6_method_4_code 12 = .ok (.ifCond .le 7, 3) := by decide +kernel
theorem dX4_has_15 : decode prog_6_method_4_code 15 = .ok (.iconst 1, 1) := by decide +kernel
theorem dX4_has_16 : decode prog_6_method_4_code 16 = .ok (.goto 4, 3) := by decide +kernel
theorem dX4_has_19 : decode prog_6_method_4_code 19 = .ok (.iconst 0, 1) := by decide +kernel
theorem dX4_has_20 : decode prog_6_method_4_code 20 = .ok (.ireturn, 1) := by decide +kernel
theorem nX4_heightAt : zDs yX4_heightAt 2 := ⟨by decide, by decide, by decide +kernel⟩
theorem dX4_heightAt_0 : decode prog_6_method_5_code 0 = .ok (.aload_n 0, 1) := by decide +kernel
theorem dX4_heightAt_1 : decode prog_6_method_5_code 1 = .ok (.getfield 13, 3) := by decide +kernel
theorem dX4_heightAt_4 : decode prog_6_method_5_code 4 = .ok (.iload_n 1, 1) := by decide +kernel
theorem dX4_heightAt_5 : decode prog_6_method_5_code 5 = .ok (.iload_n 2, 1) := by decide +kernel
theorem dX4_heightAt_6 : decode prog_6_method_5_code 6 = .ok (.invokestatic 39, 3) := by decide +kernel
theorem dX4_heightAt_9 : decode prog_6_method_5_code 9 = .ok (.invokestatic 43, 3) := by decide +kernel
theorem dX4_heightAt_12 : decode prog_6_method_5_code 12 = .ok (.ireturn, 1) := by decide +kernel
theorem nX4_depthAt : zDs yX4_depthAt 2 := ⟨by decide, by decide, by decide +kernel⟩
theorem dX4_depthAt_0 : decode prog_6_method_6_code 0 = .ok (.aload_n 0, 1) := by decide +kernel
theorem dX4_depthAt_1 : decode prog_6_method_6_code 1 = .ok (.getfield 17, 3) := by decide +kernel
theorem dX4_depthAt_4 : decode prog_6_method_6_code 4 = .ok (.iload_n 1, 1) := by decide +kernel
theorem dX4_depthAt_5 : decode prog_6_method_6_code 5 = .ok (.iload_n 2, 1) := by decide +kernel
theorem dX4_depthAt_6 : decode prog_6_method_6_code 6 = .ok (.invokestatic 39, 3) := by decide +kernel
theorem dX4_depthAt_9 : decode prog_6_method_6_code 9 = .ok (.invokestatic 43, 3) := by decide +kernel
theorem dX4_depthAt_12 : decode prog_6_method_6_code 12 = .ok (.ireturn, 1) := by decide +kernel
theorem nX4_cutYearAt : zDs yX4_cutYearAt 2 := ⟨by decide, by decide, by decide +kernel⟩
theorem dX4_cutYearAt_0 : decode prog_6_method_7_code 0 = .ok (.aload_n 0, 1) := by decide +kernel
theorem dX4_cutYearAt_1 : decode prog_6_method_7_code 1 = .ok (.getfield 20, 3) := by decide +kernel
theorem dX4_cutYearAt_4 : decode prog_6_method_7_code 4 = .ok (.iload_n 1, 1) := by decide +kernel
theorem dX4_cutYearAt_5 : decode prog_6_method_7_code 5 = .ok (.iload_n 2, 1) := by decide +kernel
theorem dX4_cutYearAt_6 : decode prog_6_method_7_code 6 = .ok (.invokestatic 39, 3) := by decide +kernel
theorem dX4_cutYearAt_9 : decode prog_6_method_7_code 9 = .ok (.invokestatic 43, 3) := by decide +kernel
theorem dX4_cutYearAt_12 : decode prog_6_method_7_code 12 = .ok (.ireturn, 1) := by decide +kernel
theorem nX4_add : zDs yX4_add 4 := ⟨by decide, by decide, by decide +kernel⟩
theorem dX4_add_0 : decode prog_6_method_8_code 0 = .ok (.aload_n 0, 1) := by decide +kernel
theorem dX4_add_1 : decode prog_6_method_8_code 1 = .ok (.getfield 13, 3) := by decide +kernel
theorem dX4_add_4 : decode prog_6_method_8_code 4 = .ok (.iload_n 1, 1) := by decide +kernel
theorem dX4_add_5 : decode prog_6_method_8_code 5 = .ok (.iload_n 2, 1) := by decide +kernel
theorem dX4_add_6 : decode prog_6_method_8_code 6 = .ok (.invokestatic 47, 3) := by decide +kernel
theorem dX4_add_9 : decode prog_6_method_8_code 9 = .ok (.aload_n 0, 1) := by decide +kernel
theorem dX4_add_10 : decode prog_6_method_8_code 10 = .ok (.getfield 17, 3) := by decide +kernel
theorem dX4_add_13 : decode prog_6_method_8_code 13 = .ok (.iload_n 1, 1) := by decide +kernel
theorem dX4_add_14 : decode prog_6_method_8_code 14 = .ok (.iload_n 3, 1) := by decide +kernel
theorem dX4_add_15 : decode prog_6_method_8_code 15 = .ok (.invokestatic 47, 3) := by decide +kernel
theorem dX4_add_18 : decode prog_6_method_8_code 18 = .ok (.aload_n 0, 1) := by decide +kernel
theorem dX4_add_19 : decode prog_6_method_8_code 19 = .ok (.getfield 20, 3) := by decide +kernel
theorem dX4_add_22 : decode prog_6_method_8_code 22 = .ok (.iload_n 1, 1) := by decide +kernel
theorem dX4_add_23 : decode prog_6_method_8_code 23 = .ok (.iload 4, 2) := by decide +kernel
theorem dX4_add_25 : decode prog_6_method_8_code 25 = .ok (.invokestatic 47, 3) := by decide +kernel
theorem dX4_add_28 : decode prog_6_method_8_code 28 = .ok (.aload_n 0, 1) := by decide +kernel
theorem dX4_add_29 : decode prog_6_method_8_code 29 = .ok (.dup, 1) := by decide +kernel
theorem dX4_add_30 : decode prog_6_method_8_code 30 = .ok (.getfield 23, 3) := by decide +kernel
theorem dX4_add_33 : decode prog_6_method_8_code 33 = .ok (.iconst 1, 1) := by decide +kernel
theorem dX4_add_34 : decode prog_6_method_8_code 34 = .ok (.iadd, 1) := by decide +kernel
theorem dX4_add_35 : decode prog_6_method_8_code 35 = .ok (.putfield 23, 3) := by decide +kernel
theorem dX4_add_38 : decode prog_6_method_8_code 38 = .ok (.return_, 1) := by decide +kernel
theorem nX4_takeOff : zDs yX4_takeOff 2 := ⟨by decide, by decide, by decide +kernel⟩
theorem dX4_takeOff_0 : decode prog_6_method_9_code 0 = .ok (.aload_n 0, 1) := by decide +kernel
theorem dX4_takeOff_1 : decode prog_6_method_9_code 1 = .ok (.getfield 17, 3) := by decide +kernel
theorem dX4_takeOff_4 : decode prog_6_method_9_code 4 = .ok (.iload_n 1, 1) := by decide +kernel
theorem dX4_takeOff_5 : decode prog_6_method_9_code 5 = .ok (.iload_n 2, 1) := by decide +kernel
theorem dX4_takeOff_6 : decode prog_6_method_9_code 6 = .ok (.invokestatic 39, 3) := by decide +kernel
theorem dX4_takeOff_9 : decode prog_6_method_9_code 9 = .ok (.iconst 0, 1) := by decide +kernel
theorem dX4_takeOff_10 : decode prog_6_method_9_code 10 = .ok (.invokestatic 47, 3) := by decide +kernel
theorem dX4_takeOff_13 : decode prog_6_method_9_code 13 = .ok (.aload_n 0, 1) := by decide +kernel
theorem dX4_takeOff_14 : decode prog_6_method_9_code 14 = .ok (.dup, 1) := by decide +kernel
theorem dX4_takeOff_15 : decode prog_6_method_9_code 15 = .ok (.getfield 27, 3) := by decide +kernel
theorem dX4_takeOff_18 : decode prog_6_method_9_code 18 = .ok (.iconst 1, 1) := by decide +kernel
theorem dX4_takeOff_19 : decode prog_6_method_9_code 19 = .ok (.iadd, 1) := by decide +kernel
theorem dX4_takeOff_20 : decode prog_6_method_9_code 20 = .ok (.putfield 27, 3) := by decide +kernel
theorem dX4_takeOff_23 : decode prog_6_method_9_code 23 = .ok (.aload_n 0, 1) := by decide +kernel
theorem dX4_takeOff_24 : decode prog_6_method_9_code 24 = .ok (.iload_n 1, 1) := by decide +kernel
theorem dX4_takeOff_25 : decode prog_6_method_9_code 25 = .ok (.iload_n 2, 1) := by decide +kernel
theorem dX4_takeOff_26 : decode prog_6_method_9_code 26 = .ok (.invokevirtual 51, 3) := by decide +kernel
theorem dX4_takeOff_29 : decode prog_6_method_9_code 29 = .ok (.ireturn, 1) := by decide +kernel
theorem nX4_weatherAll : zDs yX4_weatherAll 0 := ⟨by decide, by decide, by decide +kernel⟩
theorem dX4_weatherAll_0 : decode prog_6_method_10_code 0 = .ok (.iconst 0, 1) := by decide +kernel
theorem dX4_weatherAll_1 : decode prog_6_method_10_code 1 = .ok (.istore_n 1, 1) := by decide +kernel
theorem dX4_weatherAll_2 : decode prog_6_method_10_code 2 = .ok (.iconst 0, 1) := by decide +kernel
theorem dX4_weatherAll_3 : decode prog_6_method_10_code 3 = .ok (.istore_n 2, 1) := by decide +kernel
theorem dX4_weatherAll_4 : decode prog_6_method_10_code 4 = .ok (.iload_n 2, 1) := by decide +kernel
theorem dX4_weatherAll_5 : decode prog_6_method_10_code 5 = .ok (.bipush 72, 2) := by decide +kernel
theorem dX4_weatherAll_7 : decode prog_6_method_10_code 7 = .ok (.if_icmp .ge 46, 3) := by decide +kernel
theorem dX4_weatherAll_10 : decode prog_6_method_10_code 10 = .ok (.aload_n 0, 1) := by decide +kernel
theorem dX4_weatherAll_11 : decode prog_6_method_10_code 11 = .ok (.getfield 17, 3) := by decide +kernel
theorem dX4_weatherAll_14 : decode prog_6_method_10_code 14 = .ok (.iload_n 2, 1) := by decide +kernel
theorem dX4_weatherAll_15 : decode prog_6_method_10_code 15 = .ok (.invokestatic 43, 3) := by decide +kernel
theorem dX4_weatherAll_18 : decode prog_6_method_10_code 18 = .ok (.istore_n 3, 1) := by decide +kernel
theorem dX4_weatherAll_19 : decode prog_6_method_10_code 19 = .ok (.iload_n 3, 1) := by decide +kernel
theorem dX4_weatherAll_20 : decode prog_6_method_10_code 20 = .ok (.ifCond .le 27, 3) := by decide +kernel
theorem dX4_weatherAll_23 : decode prog_6_method_10_code 23 = .ok (.aload_n 0, 1) := by decide +kernel
theorem dX4_weatherAll_24 : decode prog_6_method_10_code 24 = .ok (.getfield 17, 3) := by decide +kernel
theorem dX4_weatherAll_27 : decode prog_6_method_10_code 27 = .ok (.iload_n 2, 1) := by decide +kernel
theorem dX4_weatherAll_28 : decode prog_6_method_10_code 28 = .ok (.iload_n 3, 1) := by decide +kernel
theorem dX4_weatherAll_29 : decode prog_6_method_10_code 29 = .ok (.iconst 1, 1) := by decide +kernel
theorem dX4_weatherAll_30 : decode prog_6_method_10_code 30 = .ok (.isub, 1) := by decide +kernel
theorem dX4_weatherAll_31 : decode prog_6_method_10_code 31 = .ok (.invokestatic 47, 3) := by decide +kernel
theorem dX4_weatherAll_34 : decode prog_6_method_10_code 34 = .ok (.iload_n 1, 1) := by decide +kernel
theorem dX4_weatherAll_35 : decode prog_6_method_10_code 35 = .ok (.iload_n 3, 1) := by decide +kernel
theorem dX4_weatherAll_36 : decode prog_6_method_10_code 36 = .ok (.iconst 1, 1) := by decide +kernel
theorem dX4_weatherAll_37 : decode prog_6_method_10_code 37 = .ok (.if_icmp .ne 7, 3) := by decide +kernel
theorem dX4_weatherAll_40 : decode prog_6_method_10_code 40 = .ok (.iconst 1, 1) := by decide +kernel
theorem dX4_weatherAll_41 : decode prog_6_method_10_code 41 = .ok (.goto 4, 3) := by decide +kernel
theorem dX4_weatherAll_44 : decode prog_6_method_10_code 44 = .ok (.iconst 0, 1) := by decide +kernel
theorem dX4_weatherAll_45 : decode prog_6_method_10_code 45 = .ok (.iadd, 1) := by decide +kernel
theorem dX4_weatherAll_46 : decode prog_6_method_10_code 46 = .ok (.istore_n 1, 1) := by decide +kernel
theorem dX4_weatherAll_47 : decode prog_6_method_10_code 47 = .ok (.iinc 2 1, 3) := by decide +kernel
theorem dX4_weatherAll_50 : decode prog_6_method_10_code 50 = .ok (.goto (-46), 3) := by decide +kernel
theorem dX4_weatherAll_53 : decode prog_6_method_10_code 53 = .ok (.aload_n 0, 1) := by decide +kernel
theorem dX4_weatherAll_54 : decode prog_6_method_10_code 54 = .ok (.dup, 1) := by decide +kernel
theorem dX4_weatherAll_55 : decode prog_6_method_10_code 55 = .ok (.getfield 30, 3) := by decide +kernel
theorem dX4_weatherAll_58 : decode prog_6_method_10_code 58 = .ok (.iload_n 1, 1) := by decide +kernel
theorem dX4_weatherAll_59 : decode prog_6_method_10_code 59 = .ok (.iadd, 1) := by decide +kernel
theorem dX4_weatherAll_60 : decode prog_6_method_10_code 60 = .ok (.putfield 30, 3) := by decide +kernel
theorem dX4_weatherAll_63 : decode prog_6_method_10_code 63 = .ok (.iload_n 1, 1) := by decide +kernel
theorem dX4_weatherAll_64 : decode prog_6_method_10_code 64 = .ok (.ireturn, 1) := by decide +kernel
theorem nX4_countOn : zDs yX4_countOn 1 := ⟨by decide, by decide, by decide +kernel⟩
theorem dX4_countOn_0 : decode prog_6_method_11_code 0 = .ok (.iconst 0, 1) := by decide +kernel
theorem dX4_countOn_1 : decode prog_6_method_11_code 1 = .ok (.istore_n 2, 1) := by decide +kernel
theorem dX4_countOn_2 : decode prog_6_method_11_code 2 = .ok (.iconst 0, 1) := by decide +kernel
theorem dX4_countOn_3 : decode prog_6_method_11_code 3 = .ok (.istore_n 3, 1) := by decide +kernel
theorem dX4_countOn_4 : decode prog_6_method_11_code 4 = .ok (.iload_n 3, 1) := by decide +kernel
theorem dX4_countOn_5 : decode prog_6_method_11_code 5 = .ok (.bipush 12, 2) := by decide +kernel
theorem dX4_countOn_7 : decode prog_6_method_11_code 7 = .ok (.if_icmp .ge 26, 3) := by decide +kernel
theorem dX4_countOn_10 : decode prog_6_method_11_code 10 = .ok (.iload_n 2, 1) := by decide +kernel
theorem dX4_countOn_11 : decode prog_6_method_11_code 11 = .ok (.aload_n 0, 1) := by decide +kernel
theorem dX4_countOn_12 : decode prog_6_method_11_code 12 = .ok (.iload_n 1, 1) := by decide +kernel
theorem dX4_countOn_13 : decode prog_6_method_11_code 13 = .ok (.iload_n 3, 1) := by decide +kernel
theorem dX4_countOn_14 : decode prog_6_method_11_code 14 = .ok (.invokevirtual 54, 3) := by decide +kernel
theorem dX4_countOn_17 : decode prog_6_method_11_code 17 = .ok (.ifCond .eq 7, 3) := by decide +kernel
theorem dX4_countOn_20 : decode prog_6_method_11_code 20 = .ok (.iconst 1, 1) := by decide +kernel
theorem dX4_countOn_21 : decode prog_6_method_11_code 21 = .ok (.goto 4, 3) := by decide +kernel
theorem dX4_countOn_24 : decode prog_6_method_11_code 24 = .ok (.iconst 0, 1) := by decide +kernel
theorem dX4_countOn_25 : decode prog_6_method_11_code 25 = .ok (.iadd, 1) := by decide +kernel
theorem dX4_countOn_26 : decode prog_6_method_11_code 26 = .ok (.istore_n 2, 1) := by decide +kernel
theorem dX4_countOn_27 : decode prog_6_method_11_code 27 = .ok (.iinc 3 1, 3) := by decide +kernel
theorem dX4_countOn_30 : decode prog_6_method_11_code 30 = .ok (.goto (-26), 3) := by decide +kernel
theorem dX4_countOn_33 : decode prog_6_method_11_code 33 = .ok (.iload_n 2, 1) := by decide +kernel
theorem dX4_countOn_34 : decode prog_6_method_11_code 34 = .ok (.ireturn, 1) := by decide +kernel
theorem nX4_countFor : zDs yX4_countFor 1 := ⟨by decide, by decide, by decide +kernel⟩
theorem dX4_countFor_0 : decode prog_6_method_12_code 0 = .ok (.iconst 0, 1) := by decide +kernel
theorem dX4_countFor_1 : decode prog_6_method_12_code 1 = .ok (.istore_n 2, 1) := by decide +kernel
theorem dX4_countFor_2 : decode prog_6_method_12_code 2 = .ok (.iconst 0, 1) := by decide +kernel
theorem dX4_countFor_3 : decode prog_6_method_12_code 3 = .ok (.istore_n 3, 1) := by decide +kernel
theorem dX4_countFor_4 : decode prog_6_method_12_code 4 = .ok (.iload_n 3, 1) := by decide +kernel
theorem dX4_countFor_5 : decode prog_6_method_12_code 5 = .ok (.bipush 6, 2) := by decide +kernel
theorem dX4_countFor_7 : decode prog_6_method_12_code 7 = .ok (.if_icmp .ge 26, 3) := by decide +kernel
theorem dX4_countFor_10 : decode prog_6_method_12_code 10 = .ok (.iload_n 2, 1) := by decide +kernel
theorem dX4_countFor_11 : decode prog_6_method_12_code 11 = .ok (.aload_n 0, 1) := by decide +kernel
theorem dX4_countFor_12 : decode prog_6_method_12_code 12 = .ok (.iload_n 3, 1) := by decide +kernel
theorem dX4_countFor_13 : decode prog_6_method_12_code 13 = .ok (.iload_n 1, 1) := by decide +kernel
theorem dX4_countFor_14 : decode prog_6_method_12_code 14 = .ok (.invokevirtual 54, 3) := by decide +kernel
theorem dX4_countFor_17 : decode prog_6_method_12_code 17 = .ok (.ifCond .eq 7, 3) := by decide +kernel
theorem dX4_countFor_20 : decode prog_6_method_12_code 20 = .ok (.iconst 1, 1) := by decide +kernel
theorem dX4_countFor_21 : decode prog_6_method_12_code 21 = .ok (.goto 4, 3) := by decide +kernel
theorem dX4_countFor_24 : decode prog_6_method_12_code 24 = .ok (.iconst 0, 1) := by decide +kernel
theorem dX4_countFor_25 : decode prog_6_method_12_code 25 = .ok (.iadd, 1) := by decide +kernel
theorem dX4_countFor_26 : decode prog_6_method_12_code 26 = .ok (.istore_n 2, 1) := by decide +kernel
theorem dX4_countFor_27 : decode prog_6_method_12_code 27 = .ok (.iinc 3 1, 3) := by decide +kernel
theorem dX4_countFor_30 : decode prog_6_method_12_code 30 = .ok (.goto (-26), 3) := by decide +kernel
theorem dX4_countFor_33 : decode prog_6_method_12_code 33 = .ok (.iload_n 2, 1) := by decide +kernel
theorem dX4_countFor_34 : decode prog_6_method_12_code 34 = .ok (.ireturn, 1) := by decide +kernel
theorem nX4_countAll : zDs yX4_countAll 0 := ⟨by decide, by decide, by decide +kernel⟩
theorem dX4_countAll_0 : decode prog_6_method_13_code 0 = .ok (.iconst 0, 1) := by decide +kernel
theorem dX4_countAll_1 : decode prog_6_method_13_code 1 = .ok (.istore_n 1, 1) := by decide +kernel
theorem dX4_countAll_2 : decode prog_6_method_13_code 2 = .ok (.iconst 0, 1) := by decide +kernel
theorem dX4_countAll_3 : decode prog_6_method_13_code 3 = .ok (.istore_n 2, 1) := by decide +kernel
theorem dX4_countAll_4 : decode prog_6_method_13_code 4 = .ok (.iload_n 2, 1) := by decide +kernel
theorem dX4_countAll_5 : decode prog_6_method_13_code 5 = .ok (.bipush 6, 2) := by decide +kernel
theorem dX4_countAll_7 : decode prog_6_method_13_code 7 = .ok (.if_icmp .ge 17, 3) := by decide +kernel
theorem dX4_countAll_10 : decode prog_6_method_13_code 10 = .ok (.iload_n 1, 1) := by decide +kernel
theorem dX4_countAll_11 : decode prog_6_method_13_code 11 = .ok (.aload_n 0, 1) := by decide +kernel
theorem dX4_countAll_12 : decode prog_6_method_13_code 12 = .ok (.iload_n 2, 1) := by decide +kernel
theorem dX4_countAll_13 : decode prog_6_method_13_code 13 = .ok (.invokevirtual 58, 3) := by decide +kernel
theorem dX4_countAll_16 : decode prog_6_method_13_code 16 = .ok (.iadd, 1) := by decide +kernel
theorem dX4_countAll_17 : decode prog_6_method_13_code 17 = .ok (.istore_n 1, 1) := by decide +kernel
theorem dX4_countAll_18 : decode prog_6_method_13_code 18 = .ok (.iinc 2 1, 3) := by decide +kernel
theorem dX4_countAll_21 : decode prog_6_method_13_code 21 = .ok (.goto (-17), 3) := by decide +kernel
theorem dX4_countAll_24 : decode prog_6_method_13_code 24 = .ok (.iload_n 1, 1) := by decide +kernel
theorem dX4_countAll_25 : decode prog_6_method_13_code 25 = .ok (.ireturn, 1) := by decide +kernel
theorem nX4_floodAtHeight : zDs yX4_floodAtHeight 2 := ⟨by decide, by decide, by decide +kernel⟩
theorem dX4_floodAtHeight_0 : decode prog_6_method_14_code 0 = .ok (.iconst 0, 1) := by decide +kernel
theorem dX4_floodAtHeight_1 : decode prog_6_method_14_code 1 = .ok (.istore_n 3, 1) := by decide +kernel
theorem dX4_floodAtHeight_2 : decode prog_6_method_14_code 2 = .ok (.iload_n 3, 1) := by decide +kernel
theorem dX4_floodAtHeight_3 : decode prog_6_method_14_code 3 = .ok (.bipush 12, 2) := by decide +kernel
theorem dX4_floodAtHeight_5 : decode prog_6_method_14_code 5 = .ok (.if_icmp .ge 30, 3) := by decide +kernel
theorem dX4_floodAtHeight_8 : decode prog_6_method_14_code 8 = .ok (.aload_n 0, 1) := by decide +kernel
theorem dX4_floodAtHeight_9 : decode prog_6_method_14_code 9 = .ok (.iload_n 1, 1) := by decide +kernel
theorem dX4_floodAtHeight_10 : decode prog_6_method_14_code 10 = .ok (.iload_n 3, 1) := by decide +kernel
theorem dX4_floodAtHeight_11 : decode prog_6_method_14_code 11 = .ok (.invokevirtual 54, 3) := by decide +kernel
theorem dX4_floodAtHeight_14 : decode prog_6_method_14_code 14 = .ok (.ifCond .eq 15, 3) := by decide +kernel
theorem dX4_floodAtHeight_17 : decode prog_6_method_14_code 17 = .ok (.aload_n 0, 1) := by decide +kernel
theorem dX4_floodAtHeight_18 : decode prog_6_method_14_code 18 = .ok (.iload_n 1, 1) := by decide +kernel
theorem dX4_floodAtHeight_19 : decode prog_6_method_14_code 19 = .ok (.iload_n 3, 1) := by decide +kernel
theorem dX4_floodAtHeight_20 : decode prog_6_method_14_code 20 = .ok (.invokevirtual 51, 3) := by decide +kernel
theorem dX4_floodAtHeight_23 : decode prog_6_method_14_code 23 = .ok (.iload_n 2, 1) := by decide +kernel
theorem dX4_floodAtHeight_24 : decode prog_6_method_14_code 24 = .ok (.if_icmp .ne 5, 3) := by decide +kernel
theorem dX4_floodAtHeight_27 : decode prog_6_method_14_code 27 = .ok (.iload_n 3, 1) := by decide +kernel
theorem dX4_floodAtHeight_28 : decode prog_6_method_14_code 28 = .ok (.ireturn, 1) := by decide +kernel
theorem dX4_floodAtHeight_29 : decode prog_6_method_14_code 29 = .ok (.iinc 3 1, 3) := by decide +kernel
theorem dX4_floodAtHeight_32 : decode prog_6_method_14_code 32 = .ok (.goto (-30), 3) := by decide +kernel
theorem dX4_floodAtHeight_35 : decode prog_6_method_14_code 35 = .ok (.iconst (-1), 1) := by decide +kernel
theorem dX4_floodAtHeight_36 : decode prog_6_method_14_code 36 = .ok (.ireturn, 1) := by decide +kernel
theorem nX4_floodAtPlace : zDs yX4_floodAtPlace 2 := ⟨by decide, by decide, by decide +kernel⟩
theorem dX4_floodAtPlace_0 : decode prog_6_method_15_code 0 = .ok (.iconst 0, 1) := by decide +kernel
theorem dX4_floodAtPlace_1 : decode prog_6_method_15_code 1 = .ok (.istore_n 3, 1) := by decide +kernel
theorem dX4_floodAtPlace_2 : decode prog_6_method_15_code 2 = .ok (.iload_n 3, 1) := by decide +kernel
theorem dX4_floodAtPlace_3 : decode prog_6_method_15_code 3 = .ok (.bipush 12, 2) := by decide +kernel
theorem dX4_floodAtPlace_5 : decode prog_6_method_15_code 5 = .ok (.if_icmp .ge 35, 3) := by decide +kernel
theorem dX4_floodAtPlace_8 : decode prog_6_method_15_code 8 = .ok (.aload_n 0, 1) := by decide +kernel
theorem dX4_floodAtPlace_9 : decode prog_6_method_15_code 9 = .ok (.iload_n 1, 1) := by decide +kernel
theorem dX4_floodAtPlace_10 : decode prog_6_method_15_code 10 = .ok (.iload_n 3, 1) := by decide +kernel
theorem dX4_floodAtPlace_11 : decode prog_6_method_15_code 11 = .ok (.invokevirtual 54, 3) := by decide +kernel
theorem dX4_floodAtPlace_14 : decode prog_6_method_15_code 14 = .ok (.ifCond .eq 20, 3) := by decide +kernel
theorem dX4_floodAtPlace_17 : decode prog_6_method_15_code 17 = .ok (.aload_n 0, 1) := by decide +kernel
theorem dX4_floodAtPlace_18 : decode prog_6_method_15_code 18 = .ok (.iload_n 1, 1) := by decide +kernel
theorem dX4_floodAtPlace_19 : decode prog_6_method_15_code 19 = .ok (.aload_n 0, 1) := by decide +kernel
theorem dX4_floodAtPlace_20 : decode prog_6_method_15_code 20 = .ok (.iload_n 1, 1) := by decide +kernel
theorem dX4_floodAtPlace_21 : decode prog_6_method_15_code 21 = .ok (.iload_n 3, 1) := by decide +kernel
theorem dX4_floodAtPlace_22 : decode prog_6_method_15_code 22 = .ok (.invokevirtual 51, 3) := by decide +kernel
theorem dX4_floodAtPlace_25 : decode prog_6_method_15_code 25 = .ok (.invokevirtual 62, 3) := by decide +kernel
theorem dX4_floodAtPlace_28 : decode prog_6_method_15_code 28 = .ok (.iload_n 2, 1) := by decide +kernel
theorem dX4_floodAtPlace_29 : decode prog_6_method_15_code 29 = .ok (.if_icmp .ne 5, 3) := by decide +kernel
theorem dX4_floodAtPlace_32 : decode prog_6_method_15_code 32 = .ok (.iload_n 3, 1) := by decide +kernel
theorem dX4_floodAtPlace_33 : decode prog_6_method_15_code 33 = .ok (.ireturn, 1) := by decide +kernel
theorem dX4_floodAtPlace_34 : decode prog_6_method_15_code 34 = .ok (.iinc 3 1, 3) := by decide +kernel
theorem dX4_floodAtPlace_37 : decode prog_6_method_15_code 37 = .ok (.goto (-35), 3) := by decide +kernel
theorem dX4_floodAtPlace_40 : decode prog_6_method_15_code 40 = .ok (.iconst (-1), 1) := by decide +kernel
theorem dX4_floodAtPlace_41 : decode prog_6_method_15_code 41 = .ok (.ireturn, 1) := by decide +kernel
theorem nX4_countLower : zDs yX4_countLower 2 := ⟨by decide, by decide, by decide +kernel⟩
theorem dX4_countLower_0 : decode prog_6_method_16_code 0 = .ok (.iconst 0, 1) := by decide +kernel
theorem dX4_countLower_1 : decode prog_6_method_16_code 1 = .ok (.istore_n 3, 1) := by decide +kernel
theorem dX4_countLower_2 : decode prog_6_method_16_code 2 = .ok (.iconst 0, 1) := by decide +kernel
theorem dX4_countLower_3 : decode prog_6_method_16_code 3 = .ok (.istore 4, 2) := by decide +kernel
theorem dX4_countLower_5 : decode prog_6_method_16_code 5 = .ok (.iload 4, 2) := by decide +kernel
theorem dX4_countLower_7 : decode prog_6_method_16_code 7 = .ok (.bipush 12, 2) := by decide +kernel
theorem dX4_countLower_9 : decode prog_6_method_16_code 9 = .ok (.if_icmp .ge 38, 3) := by decide +kernel
theorem dX4_countLower_12 : decode prog_6_method_16_code 12 = .ok (.iload_n 3, 1) := by decide +kernel
theorem dX4_countLower_13 : decode prog_6_method_16_code 13 = .ok (.aload_n 0, 1) := by decide +kernel
theorem dX4_countLower_14 : decode prog_6_method_16_code 14 = .ok (.iload_n 1, 1) := by decide +kernel
theorem dX4_countLower_15 : decode prog_6_method_16_code 15 = .ok (.iload 4, 2) := by decide +kernel
theorem dX4_countLower_17 : decode prog_6_method_16_code 17 = .ok (.invokevirtual 54, 3) := by decide +kernel
theorem dX4_countLower_20 : decode prog_6_method_16_code 20 = .ok (.ifCond .eq 18, 3) := by decide +kernel
theorem dX4_countLower_23 : decode prog_6_method_16_code 23 = .ok (.aload_n 0, 1) := by decide +kernel
theorem dX4_countLower_24 : decode prog_6_method_16_code 24 = .ok (.iload_n 1, 1) := by decide +kernel
theorem dX4_countLower_25 : decode prog_6_method_16_code 25 = .ok (.iload 4, 2) := by decide +kernel
theorem dX4_countLower_27 : decode prog_6_method_16_code 27 = .ok (.invokevirtual 51, 3) := by decide +kernel
theorem dX4_countLower_30 : decode prog_6_method_16_code 30 = .ok (.iload_n 2, 1) := by decide +kernel
theorem dX4_countLower_31 : decode prog_6_method_16_code 31 = .ok (.if_icmp .ge 7, 3) := by decide +kernel
theorem dX4_countLower_34 : decode prog_6_method_16_code 34 = .ok (.iconst 1, 1) := by decide +kernel
theorem dX4_countLower_35 : decode prog_6_method_16_code 35 = .ok (.goto 4, 3) := by decide +kernel
theorem dX4_countLower_38 : decode prog_6_method_16_code 38 = .ok (.iconst 0, 1) := by decide +kernel
theorem dX4_countLower_39 : decode prog_6_method_16_code 39 = .ok (.iadd, 1) := by decide +kernel
theorem dX4_countLower_40 : decode prog_6_method_16_code 40 = .ok (.istore_n 3, 1) := by decide +kernel
theorem dX4_countLower_41 : decode prog_6_method_16_code 41 = .ok (.iinc 4 1, 3) := by decide +kernel
theorem dX4_countLower_44 : decode prog_6_method_16_code 44 = .ok (.goto (-39), 3) := by decide +kernel
theorem dX4_countLower_47 : decode prog_6_method_16_code 47 = .ok (.iload_n 3, 1) := by decide +kernel
theorem dX4_countLower_48 : decode prog_6_method_16_code 48 = .ok (.ireturn, 1) := by decide +kernel
theorem pnX5 : plainName RX5 = true := by decide +kernel
theorem nX5_init : zDs yX5_init 0 := ⟨by decide, by decide, by decide +kernel⟩
theorem dX5_init_0 : decode prog_7_method_1_code 0 = .ok (.aload_n 0, 1) := by decide +kernel
theorem dX5_init_1 : decode prog_7_method_1_code 1 = .ok (.invokespecial 1, 3) := by decide +kernel
theorem dX5_init_4 : decode prog_7_method_1_code 4 = .ok (.aload_n 0, 1) := by decide +kernel
theorem dX5_init_5 : decode prog_7_method_1_code 5 = .ok (.iconst 0, 1) := by decide +kernel
theorem dX5_init_6 : decode prog_7_method_1_code 6 = .ok (.putfield 7, 3) := by decide +kernel
theorem dX5_init_9 : decode prog_7_method_1_code 9 = .ok (.aload_n 0, 1) := by decide +kernel
theorem dX5_init_10 : decode prog_7_method_1_code 10 = .ok (.iconst 0, 1) := by decide +kernel
theorem dX5_init_11 : decode prog_7_method_1_code 11 = .ok (.putfield 13, 3) := by decide +kernel
theorem dX5_init_14 : decode prog_7_method_1_code 14 = .ok (.aload_n 0, 1) := by decide +kernel
theorem dX5_init_15 : decode prog_7_method_1_code 15 = .ok (.iconst 0, 1) := by decide +kernel
theorem dX5_init_16 : decode prog_7_method_1_code 16 = .ok (.putfield 16, 3) := by decide +kernel
theorem dX5_init_19 : decode prog_7_method_1_code 19 = .ok (.return_, 1) := by decide +kernel
theorem nX5_give : zDs yX5_give 2 := ⟨by decide, by decide, by decide +kernel⟩
theorem dX5_give_0 : decode prog_7_method_2_code 0 = .ok (.aload_n 0, 1) := by decide +kernel
theorem dX5_give_1 : decode prog_7_method_2_code 1 = .ok (.iload_n 1, 1) := by decide +kernel
theorem dX5_give_2 : decode prog_7_method_2_code 2 = .ok (.putfield 7, 3) := by decide +kernel
theorem dX5_give_5 : decode prog_7_method_2_code 5 = .ok (.aload_n 0, 1) := by decide +kernel
theorem dX5_give_6 : decode prog_7_method_2_code 6 = .ok (.iload_n 2, 1) := by decide +kernel
theorem dX5_give_7 : decode prog_7_method_2_code 7 = .ok (.putfield 13, 3) := by decide +kernel
theorem dX5_give_10 : decode prog_7_method_2_code 10 = .ok (.aload_n 0, 1) := by decide +kernel
theorem dX5_give_11 : decode prog_7_method_2_code 11 = .ok (.iconst 0, 1) := by decide +kernel
theorem dX5_give_12 : decode prog_7_method_2_code 12 = .ok (.putfield 16, 3) := by decide +kernel
theorem dX5_give_15 : decode prog_7_method_2_code 15 = .ok (.iconst 1, 1) := by decide +kernel
theorem dX5_give_16 : decode prog_7_method_2_code 16 = .ok (.ireturn, 1) := by decide +kernel
theorem pnX6 : plainName RX6 = true := by decide +kernel
theorem nX6_init : zDs yX6_init 0 := ⟨by decide, by decide, by decide +kernel⟩
theorem dX6_init_0 : decode prog_8_method_1_code 0 = .ok (.aload_n 0, 1) := by decide +kernel
theorem dX6_init_1 : decode prog_8_method_1_code 1 = .ok (.invokespecial 1, 3) := by decide +kernel
theorem dX6_init_4 : decode prog_8_method_1_code 4 = .ok (.aload_n 0, 1) := by decide +kernel
theorem dX6_init_5 : decode prog_8_method_1_code 5 = .ok (.bipush 100, 2) := by decide +kernel
theorem dX6_init_7 : decode prog_8_method_1_code 7 = .ok (.putfield 9, 3) := by decide +kernel
theorem dX6_init_10 : decode prog_8_method_1_code 10 = .ok (.aload_n 0, 1) := by decide +kernel
theorem dX6_init_11 : decode prog_8_method_1_code 11 = .ok (.new 13, 3) := by decide +kernel
theorem dX6_init_14 : decode prog_8_method_1_code 14 = .ok (.dup, 1) := by decide +kernel
theorem dX6_init_15 : decode prog_8_method_1_code 15 = .ok (.invokespecial 15, 3) := by decide +kernel
theorem dX6_init_18 : decode prog_8_method_1_code 18 = .ok (.putfield 16, 3) := by decide +kernel
theorem dX6_init_21 : decode prog_8_method_1_code 21 = .ok (.aload_n 0, 1) := by decide +kernel
theorem dX6_init_22 : decode prog_8_method_1_code 22 = .ok (.new 20, 3) := by decide +kernel
theorem dX6_init_25 : decode prog_8_method_1_code 25 = .ok (.dup, 1) := by decide +kernel
theorem dX6_init_26 : decode prog_8_method_1_code 26 = .ok (.invokespecial 22, 3) := by decide +kernel
theorem dX6_init_29 : decode prog_8_method_1_code 29 = .ok (.putfield 23, 3) := by decide +kernel
theorem dX6_init_32 : decode prog_8_method_1_code 32 = .ok (.aload_n 0, 1) := by decide +kernel
theorem dX6_init_33 : decode prog_8_method_1_code 33 = .ok (.new 27, 3) := by decide +kernel
theorem dX6_init_36 : decode prog_8_method_1_code 36 = .ok (.dup, 1) := by decide +kernel
theorem dX6_init_37 : decode prog_8_method_1_code 37 = .ok (.invokespecial 29, 3) := by decide +kernel
theorem dX6_init_40 : decode prog_8_method_1_code 40 = .ok (.putfield 30, 3) := by decide +kernel
theorem dX6_init_43 : decode prog_8_method_1_code 43 = .ok (.aload_n 0, 1) := by decide +kernel
theorem dX6_init_44 : decode prog_8_method_1_code 44 = .ok (.new 34, 3) := by decide +kernel
theorem dX6_init_47 : decode prog_8_method_1_code 47 = .ok (.dup, 1) := by decide +kernel
theorem dX6_init_48 : decode prog_8_method_1_code 48 = .ok (.invokespecial 36, 3) := by decide +kernel
theorem dX6_init_51 : decode prog_8_method_1_code 51 = .ok (.putfield 37, 3) := by decide +kernel
theorem dX6_init_54 : decode prog_8_method_1_code 54 = .ok (.aload_n 0, 1) := by decide +kernel
theorem dX6_init_55 : decode prog_8_method_1_code 55 = .ok (.new 41, 3) := by decide +kernel
theorem dX6_init_58 : decode prog_8_method_1_code 58 = .ok (.dup, 1) := by decide +kernel
theorem dX6_init_59 : decode prog_8_method_1_code 59 = .ok (.invokespecial 43, 3) := by decide +kernel
theorem dX6_init_62 : decode prog_8_method_1_code 62 = .ok (.putfield 44, 3) := by decide +kernel
theorem dX6_init_65 : decode prog_8_method_1_code 65 = .ok (.return_, 1) := by decide +kernel
theorem nX6_copyFrom : zDs yX6_copyFrom 1 := ⟨by decide, by decide, by decide +kernel⟩
theorem dX6_copyFrom_0 : decode prog_8_method_2_code 0 = .ok (.aload_n 0, 1) := by decide +kernel
theorem dX6_copyFrom_1 : decode prog_8_method_2_code 1 = .ok (.aload_n 1, 1) := by decide +kernel
theorem dX6_copyFrom_2 : decode prog_8_method_2_code 2 = .ok (.getfield 9, 3) := by decide +kernel
theorem dX6_copyFrom_5 : decode prog_8_method_2_code 5 = .ok (.putfield 9, 3) := by decide +kernel
theorem dX6_copyFrom_8 : decode prog_8_method_2_code 8 = .ok (.aload_n 0, 1) := by decide +kernel
theorem dX6_copyFrom_9 : decode prog_8_method_2_code 9 = .ok (.getfield 16, 3) := by decide +kernel
theorem dX6_copyFrom_12 : decode prog_8_method_2_code 12 = .ok (.aload_n 1, 1) := by decide +kernel
theorem dX6_copyFrom_13 : decode prog_8_method_2_code 13 = .ok (.getfield 16, 3) := by decide +kernel
theorem dX6_copyFrom_16 : decode prog_8_method_2_code 16 = .ok (.invokevirtual 48, 3) := by decide +kernel
theorem dX6_copyFrom_19 : decode prog_8_method_2_code 19 = .ok (.aload_n 0, 1) := by decide +kernel
theorem dX6_copyFrom_20 : decode prog_8_method_2_code 20 = .ok (.getfield 23, 3) := by decide +kernel
theorem dX6_copyFrom_23 : decode prog_8_method_2_code 23 = .ok (.aload_n 1, 1) := by decide +kernel
theorem dX6_copyFrom_24 : decode prog_8_method_2_code 24 = .ok (.getfield 23, 3) := by decide +kernel
theorem dX6_copyFrom_27 : decode prog_8_method_2_code 27 = .ok (.invokevirtual 52, 3) := by decide +kernel
theorem dX6_copyFrom_30 : decode prog_8_method_2_code 30 = .ok (.aload_n 0, 1) := by decide +kernel
theorem dX6_copyFrom_31 : decode prog_8_method_2_code 31 = .ok (.getfield 30, 3) := by decide +kernel
theorem dX6_copyFrom_34 : decode prog_8_method_2_code 34 = .ok (.aload_n 1, 1) := by decide +kernel
theorem dX6_copyFrom_35 : decode prog_8_method_2_code 35 = .ok (.getfield 30, 3) := by decide +kernel
theorem dX6_copyFrom_38 : decode prog_8_method_2_code 38 = .ok (.invokevirtual 55, 3) := by decide +kernel
theorem dX6_copyFrom_41 : decode prog_8_method_2_code 41 = .ok (.aload_n 0, 1) := by decide +kernel
theorem dX6_copyFrom_42 : decode prog_8_method_2_code 42 = .ok (.getfield 37, 3) := by decide +kernel
theorem dX6_copyFrom_45 : decode prog_8_method_2_code 45 = .ok (.aload_n 1, 1) := by decide +kernel
theorem dX6_copyFrom_46 : decode prog_8_method_2_code 46 = .ok (.getfield 37, 3) := by decide +kernel
theorem dX6_copyFrom_49 : decode prog_8_method_2_code 49 = .ok (.invokevirtual 58, 3) := by decide +kernel
theorem dX6_copyFrom_52 : decode prog_8_method_2_code 52 = .ok (.aload_n 0, 1) := by decide +kernel
theorem dX6_copyFrom_53 : decode prog_8_method_2_code 53 = .ok (.getfield 44, 3) := by decide +kernel
theorem dX6_copyFrom_56 : decode prog_8_method_2_code 56 = .ok (.aload_n 1, 1) := by decide +kernel
theorem dX6_copyFrom_57 : decode prog_8_method_2_code 57 = .ok (.getfield 44, 3) := by decide +kernel
theorem dX6_copyFrom_60 : decode prog_8_method_2_code 60 = .ok (.invokevirtual 61, 3) := by decide +kernel
theorem dX6_copyFrom_63 : decode prog_8_method_2_code 63 = .ok (.return_, 1) := by decide +kernel
theorem nX6_isOutside : zDs yX6_isOutside 3 := ⟨by decide, by decide, by decide +kernel⟩
theorem dX6_isOutside_0 : decode prog_8_method_3_code 0 = .ok (.iload_n 0, 1) := by decide +kernel
theorem dX6_isOutside_1 : decode prog_8_method_3_code 1 = .ok (.iload_n 1, 1) := by decide +kernel
theorem dX6_isOutside_2 : decode prog_8_method_3_code 2 = .ok (.if_icmp .lt 8, 3) := by decide +kernel
theorem dX6_isOutside_5 : decode prog_8_method_3_code 5 = .ok (.iload_n 0, 1) := by decide +kernel
theorem dX6_isOutside_6 : decode prog_8_method_3_code 6 = .ok (.iload_n 2, 1) := by decide +kernel
theorem dX6_isOutside_7 : decode prog_8_method_3_code 7 = .ok (.if_icmp .le 7, 3) := by decide +kernel
theorem dX6_isOutside_10 : decode prog_8_method_3_code 10 = .ok (.iconst 1, 1) := by decide +kernel
theorem dX6_isOutside_11 : decode prog_8_method_3_code 11 = .ok (.goto 4, 3) := by decide +kernel
theorem dX6_isOutside_14 : decode prog_8_method_3_code 14 = .ok (.iconst 0, 1) := by decide +kernel
theorem dX6_isOutside_15 : decode prog_8_method_3_code 15 = .ok (.ireturn, 1) := by decide +kernel
theorem nX6_refusesStone : zDs yX6_refusesStone 4 := ⟨by decide, by decide, by decide +kernel⟩
theorem dX6_refusesStone_0 : decode prog_8_method_4_code 0 = .ok (.iload_n 1, 1) := by decide +kernel
theorem dX6_refusesStone_1 : decode prog_8_method_4_code 1 = .ok (.iconst 0, 1) := by decide +kernel
theorem dX6_refusesStone_2 : decode prog_8_method_4_code 2 = .ok (.bipush 50, 2) := by decide +kernel
theorem dX6_refusesStone_4 : decode prog_8_method_4_code 4 = .ok (.invokestatic 64, 3) := by decide +kernel
theorem dX6_refusesStone_7 : decode prog_8_method_4_code 7 = .ok (.ifCond .ne 22, 3) := by decide +kernel
theorem dX6_refusesStone_10 : decode prog_8_method_4_code 10 = .ok (.iload_n 2, 1) := by decide +kernel
theorem dX6_refusesStone_11 : decode prog_8_method_4_code 11 = .ok (.iconst 0, 1) := by decide +kernel
theorem dX6_refusesStone_12 : decode prog_8_method_4_code 12 = .ok (.bipush 30, 2) := by decide +kernel
theorem dX6_refusesStone_14 : decode prog_8_method_4_code 14 = .ok (.invokestatic 64, 3) := by decide +kernel
theorem dX6_refusesStone_17 : decode prog_8_method_4_code 17 = .ok (.ifCond .ne 12, 3) := by decide +kernel
theorem dX6_refusesStone_20 : decode prog_8_method_4_code 20 = .ok (.iload_n 3, 1) := by decide +kernel
theorem dX6_refusesStone_21 : decode prog_8_method_4_code 21 = .ok (.iconst 1, 1) := by decide +kernel
theorem dX6_refusesStone_22 : decode prog_8_method_4_code 22 = .ok (.iconst 5, 1) := by decide +kernel
theorem dX6_refusesStone_23 : decode prog_8_method_4_code 23 = .ok (.invokestatic 64, 3) := by decide +kernel
theorem dX6_refusesStone_26 : decode prog_8_method_4_code 26 = .ok (.ifCond .eq 11, 3) := by decide +kernel
theorem dX6_refusesStone_29 : decode prog_8_method_4_code 29 = .ok (.aload 4, 2) := by decide +kernel
theorem dX6_refusesStone_31 : decode prog_8_method_4_code 31 = .ok (.iconst 1, 1) := by decide +kernel
theorem dX6_refusesStone_32 : decode prog_8_method_4_code 32 = .ok (.iconst 0, 1) := by decide +kernel
theorem dX6_refusesStone_33 : decode prog_8_method_4_code 33 = .ok (.invokevirtual 70, 3) := by decide +kernel
theorem dX6_refusesStone_36 : decode prog_8_method_4_code 36 = .ok (.ireturn, 1) := by decide +kernel
theorem dX6_refusesStone_37 : decode prog_8_method_4_code 37 = .ok (.aload_n 0, 1) := by decide +kernel
theorem dX6_refusesStone_38 : decode prog_8_method_4_code 38 = .ok (.getfield 16, 3) := by decide +kernel
theorem dX6_refusesStone_41 : decode prog_8_method_4_code 41 = .ok (.getfield 74, 3) := by decide +kernel
theorem dX6_refusesStone_44 : decode prog_8_method_4_code 44 = .ok (.bipush 6, 2) := by decide +kernel
theorem dX6_refusesStone_46 : decode prog_8_method_4_code 46 = .ok (.if_icmp .lt 18, 3) := by decide +kernel
theorem dX6_refusesStone_49 : decode prog_8_method_4_code 49 = .ok (.aload 4, 2) := by decide +kernel
theorem dX6_refusesStone_51 : decode prog_8_method_4_code 51 = .ok (.iconst 2, 1) := by decide +kernel
theorem dX6_refusesStone_52 : decode prog_8_method_4_code 52 = .ok (.bipush 6, 2) := by decide +kernel
theorem dX6_refusesStone_54 : decode prog_8_method_4_code 54 = .ok (.invokevirtual 70, 3) := by decide +kernel
theorem dX6_refusesStone_57 : decode prog_8_method_4_code 57 = .ok (.ifCond .eq 7, 3) := by decide +kernel
theorem dX6_refusesStone_60 : decode prog_8_method_4_code 60 = .ok (.iconst 1, 1) := by decide +kernel
theorem dX6_refusesStone_61 : decode prog_8_method_4_code 61 = .ok (.goto 4, 3) := by decide +kernel
theorem dX6_refusesStone_64 : decode prog_8_method_4_code 64 = .ok (.iconst 0, 1) := by decide +kernel
theorem dX6_refusesStone_65 : decode prog_8_method_4_code 65 = .ok (.ireturn, 1) := by decide +kernel
theorem nX6_refusesFlood : zDs yX6_refusesFlood 4 := ⟨by decide, by decide, by decide +kernel⟩
theorem dX6_refusesFlood_0 : decode prog_8_method_5_code 0 = .ok (.iload_n 1, 1) := by decide +kernel
theorem dX6_refusesFlood_1 : decode prog_8_method_5_code 1 = .ok (.iconst 0, 1) := by decide +kernel
theorem dX6_refusesFlood_2 : decode prog_8_method_5_code 2 = .ok (.aload_n 0, 1) := by decide +kernel
theorem dX6_refusesFlood_3 : decode prog_8_method_5_code 3 = .ok (.getfield 9, 3) := by decide +kernel
theorem dX6_refusesFlood_6 : decode prog_8_method_5_code 6 = .ok (.invokestatic 64, 3) := by decide +kernel
theorem dX6_refusesFlood_9 : decode prog_8_method_5_code 9 = .ok (.ifCond .ne 23, 3) := by decide +kernel
theorem dX6_refusesFlood_12 : decode prog_8_method_5_code 12 = .ok (.iload_n 2, 1) := by decide +kernel
theorem dX6_refusesFlood_13 : decode prog_8_method_5_code 13 = .ok (.iconst 1, 1) := by decide +kernel
theorem dX6_refusesFlood_14 : decode prog_8_method_5_code 14 = .ok (.bipush 99, 2) := by decide +kernel
theorem dX6_refusesFlood_16 : decode prog_8_method_5_code 16 = .ok (.invokestatic 64, 3) := by decide +kernel
theorem dX6_refusesFlood_19 : decode prog_8_method_5_code 19 = .ok (.ifCond .ne 13, 3) := by decide +kernel
theorem dX6_refusesFlood_22 : decode prog_8_method_5_code 22 = .ok (.iload_n 3, 1) := by decide +kernel
theorem dX6_refusesFlood_23 : decode prog_8_method_5_code 23 = .ok (.iconst 0, 1) := by decide +kernel
theorem dX6_refusesFlood_24 : decode prog_8_method_5_code 24 = .ok (.bipush 99, 2) := by decide +kernel
theorem dX6_refusesFlood_26 : decode prog_8_method_5_code 26 = .ok (.invokestatic 64, 3) := by decide +kernel
theorem dX6_refusesFlood_29 : decode prog_8_method_5_code 29 = .ok (.ifCond .eq 11, 3) := by decide +kernel
theorem dX6_refusesFlood_32 : decode prog_8_method_5_code 32 = .ok (.aload 4, 2) := by decide +kernel
theorem dX6_refusesFlood_34 : decode prog_8_method_5_code 34 = .ok (.iconst 1, 1) := by decide +kernel
theorem dX6_refusesFlood_35 : decode prog_8_method_5_code 35 = .ok (.iconst 0, 1) := by decide +kernel
theorem dX6_refusesFlood_36 : decode prog_8_method_5_code 36 = .ok (.invokevirtual 70, 3) := by decide +kernel
theorem dX6_refusesFlood_39 : decode prog_8_method_5_code 39 = .ok (.ireturn, 1) := by decide +kernel
theorem dX6_refusesFlood_40 : decode prog_8_method_5_code 40 = .ok (.aload_n 0, 1) := by decide +kernel
theorem dX6_refusesFlood_41 : decode prog_8_method_5_code 41 = .ok (.getfield 23, 3) := by decide +kernel
theorem dX6_refusesFlood_44 : decode prog_8_method_5_code 44 = .ok (.iload_n 1, 1) := by decide +kernel
theorem dX6_refusesFlood_45 : decode prog_8_method_5_code 45 = .ok (.invokevirtual 77, 3) := by decide +kernel
theorem dX6_refusesFlood_48 : decode prog_8_method_5_code 48 = .ok (.istore 5, 2) := by decide +kernel
theorem dX6_refusesFlood_50 : decode prog_8_method_5_code 50 = .ok (.iload 5, 2) := by decide +kernel
theorem dX6_refusesFlood_52 : decode prog_8_method_5_code 52 = .ok (.ifCond .lt 12, 3) := by decide +kernel
theorem dX6_refusesFlood_55 : decode prog_8_method_5_code 55 = .ok (.aload 4, 2) := by decide +kernel
theorem dX6_refusesFlood_57 : decode prog_8_method_5_code 57 = .ok (.iconst 4, 1) := by decide +kernel
theorem dX6_refusesFlood_58 : decode prog_8_method_5_code 58 = .ok (.iload 5, 2) := by decide +kernel
theorem dX6_refusesFlood_60 : decode prog_8_method_5_code 60 = .ok (.invokevirtual 70, 3) := by decide +kernel
theorem dX6_refusesFlood_63 : decode prog_8_method_5_code 63 = .ok (.ireturn, 1) := by decide +kernel
theorem dX6_refusesFlood_64 : decode prog_8_method_5_code 64 = .ok (.aload_n 0, 1) := by decide +kernel
theorem dX6_refusesFlood_65 : decode prog_8_method_5_code 65 = .ok (.getfield 23, 3) := by decide +kernel
theorem dX6_refusesFlood_68 : decode prog_8_method_5_code 68 = .ok (.getfield 81, 3) := by decide +kernel
theorem dX6_refusesFlood_71 : decode prog_8_method_5_code 71 = .ok (.bipush 12, 2) := by decide +kernel
theorem dX6_refusesFlood_73 : decode prog_8_method_5_code 73 = .ok (.if_icmp .lt 18, 3) := by decide +kernel
theorem dX6_refusesFlood_76 : decode prog_8_method_5_code 76 = .ok (.aload 4, 2) := by decide +kernel
theorem dX6_refusesFlood_78 : decode prog_8_method_5_code 78 = .ok (.iconst 2, 1) := by decide +kernel
theorem dX6_refusesFlood_79 : decode prog_8_method_5_code 79 = .ok (.bipush 12, 2) := by decide +kernel
theorem dX6_refusesFlood_81 : decode prog_8_method_5_code 81 = .ok (.invokevirtual 70, 3) := by decide +kernel
theorem dX6_refusesFlood_84 : decode prog_8_method_5_code 84 = .ok (.ifCond .eq 7, 3) := by decide +kernel
theorem dX6_refusesFlood_87 : decode prog_8_method_5_code 87 = .ok (.iconst 1, 1) := by decide +kernel
theorem dX6_refusesFlood_88 : decode prog_8_method_5_code 88 = .ok (.goto 4, 3) := by decide +kernel
theorem dX6_refusesFlood_91 : decode prog_8_method_5_code 91 = .ok (.iconst 0, 1) := by decide +kernel
theorem dX6_refusesFlood_92 : decode prog_8_method_5_code 92 = .ok (.ireturn, 1) := by decide +kernel
theorem nX6_refusesEpoch : zDs yX6_refusesEpoch 3 := ⟨by decide, by decide, by decide +kernel⟩
theorem dX6_refusesEpoch_0 : decode prog_8_method_6_code 0 = .ok (.iload_n 1, 1) := by decide +kernel
theorem dX6_refusesEpoch_1 : decode prog_8_method_6_code 1 = .ok (.iconst 0, 1) := by decide +kernel
theorem dX6_refusesEpoch_2 : decode prog_8_method_6_code 2 = .ok (.sipush 999, 3) := by decide +kernel
theorem dX6_refusesEpoch_5 : decode prog_8_method_6_code 5 = .ok (.invokestatic 64, 3) := by decide +kernel
theorem dX6_refusesEpoch_8 : decode prog_8_method_6_code 8 = .ok (.ifCond .ne 14, 3) := by decide +kernel
theorem dX6_refusesEpoch_11 : decode prog_8_method_6_code 11 = .ok (.iload_n 2, 1) := by decide +kernel
theorem dX6_refusesEpoch_12 : decode prog_8_method_6_code 12 = .ok (.bipush (-9), 2) := by decide +kernel
theorem dX6_refusesEpoch_14 : decode prog_8_method_6_code 14 = .ok (.bipush 9, 2) := by decide +kernel
theorem dX6_refusesEpoch_16 : decode prog_8_method_6_code 16 = .ok (.invokestatic 64, 3) := by decide +kernel
theorem dX6_refusesEpoch_19 : decode prog_8_method_6_code 19 = .ok (.ifCond .eq 10, 3) := by decide +kernel
theorem dX6_refusesEpoch_22 : decode prog_8_method_6_code 22 = .ok (.aload_n 3, 1) := by decide +kernel
theorem dX6_refusesEpoch_23 : decode prog_8_method_6_code 23 = .ok (.iconst 1, 1) := by decide +kernel
theorem dX6_refusesEpoch_24 : decode prog_8_method_6_code 24 = .ok (.iconst 0, 1) := by decide +kernel
theorem dX6_refusesEpoch_25 : decode prog_8_method_6_code 25 = .ok (.invokevirtual 70, 3) := by decide +kernel
theorem dX6_refusesEpoch_28 : decode prog_8_method_6_code 28 = .ok (.ireturn, 1) := by decide +kernel
theorem dX6_refusesEpoch_29 : decode prog_8_method_6_code 29 = .ok (.aload_n 0, 1) := by decide +kernel
theorem dX6_refusesEpoch_30 : decode prog_8_method_6_code 30 = .ok (.getfield 30, 3) := by decide +kernel
theorem dX6_refusesEpoch_33 : decode prog_8_method_6_code 33 = .ok (.getfield 82, 3) := by decide +kernel
theorem dX6_refusesEpoch_36 : decode prog_8_method_6_code 36 = .ok (.iconst 4, 1) := by decide +kernel
theorem dX6_refusesEpoch_37 : decode prog_8_method_6_code 37 = .ok (.if_icmp .lt 27, 3) := by decide +kernel
theorem dX6_refusesEpoch_40 : decode prog_8_method_6_code 40 = .ok (.aload_n 0, 1) := by decide +kernel
theorem dX6_refusesEpoch_41 : decode prog_8_method_6_code 41 = .ok (.getfield 30, 3) := by decide +kernel
theorem dX6_refusesEpoch_44 : decode prog_8_method_6_code 44 = .ok (.iload_n 1, 1) := by decide +kernel
theorem dX6_refusesEpoch_45 : decode prog_8_method_6_code 45 = .ok (.invokevirtual 83, 3) := by decide +kernel
theorem dX6_refusesEpoch_48 : decode prog_8_method_6_code 48 = .ok (.ifCond .ge 16, 3) := by decide +kernel
theorem dX6_refusesEpoch_51 : decode prog_8_method_6_code 51 = .ok (.aload_n 3, 1) := by decide +kernel
theorem dX6_refusesEpoch_52 : decode prog_8_method_6_code 52 = .ok (.iconst 2, 1) := by decide +kernel
theorem dX6_refusesEpoch_53 : decode prog_8_method_6_code 53 = .ok (.iconst 4, 1) := by decide +kernel
theorem dX6_refusesEpoch_54 : decode prog_8_method_6_code 54 = .ok (.invokevirtual 70, 3) := by decide +kernel
theorem dX6_refusesEpoch_57 : decode prog_8_method_6_code 57 = .ok (.ifCond .eq 7, 3) := by decide +kernel
theorem dX6_refusesEpoch_60 : decode prog_8_method_6_code 60 = .ok (.iconst 1, 1) := by decide +kernel
theorem dX6_refusesEpoch_61 : decode prog_8_method_6_code 61 = .ok (.goto 4, 3) := by decide +kernel
theorem dX6_refusesEpoch_64 : decode prog_8_method_6_code 64 = .ok (.iconst 0, 1) := by decide +kernel
theorem dX6_refusesEpoch_65 : decode prog_8_method_6_code 65 = .ok (.ireturn, 1) := by decide +kernel
theorem nX6_refusesChisel : zDs yX6_refusesChisel 1 := ⟨by decide, by decide, by decide +kernel⟩
theorem dX6_refusesChisel_0 : decode prog_8_method_7_code 0 = .ok (.aload_n 0, 1) := by decide +kernel
theorem dX6_refusesChisel_1 : decode prog_8_method_7_code 1 = .ok (.getfield 37, 3) := by decide +kernel
theorem dX6_refusesChisel_4 : decode prog_8_method_7_code 4 = .ok (.getfield 86, 3) := by decide +kernel
theorem dX6_refusesChisel_7 : decode prog_8_method_7_code 7 = .ok (.iconst 3, 1) := by decide +kernel
theorem dX6_refusesChisel_8 : decode prog_8_method_7_code 8 = .ok (.if_icmp .lt 16, 3) := by decide +kernel
theorem dX6_refusesChisel_11 : decode prog_8_method_7_code 11 = .ok (.aload_n 1, 1) := by decide +kernel
theorem dX6_refusesChisel_12 : decode prog_8_method_7_code 12 = .ok (.iconst 2, 1) := by decide +kernel
theorem dX6_refusesChisel_13 : decode prog_8_method_7_code 13 = .ok (.iconst 3, 1) := by decide +kernel
theorem dX6_refusesChisel_14 : decode prog_8_method_7_code 14 = .ok (.invokevirtual 70, 3) := by decide +kernel
theorem dX6_refusesChisel_17 : decode prog_8_method_7_code 17 = .ok (.ifCond .eq 7, 3) := by decide +kernel
theorem dX6_refusesChisel_20 : decode prog_8_method_7_code 20 = .ok (.iconst 1, 1) := by decide +kernel
theorem dX6_refusesChisel_21 : decode prog_8_method_7_code 21 = .ok (.goto 4, 3) := by decide +kernel
theorem dX6_refusesChisel_24 : decode prog_8_method_7_code 24 = .ok (.iconst 0, 1) := by decide +kernel
theorem dX6_refusesChisel_25 : decode prog_8_method_7_code 25 = .ok (.ireturn, 1) := by decide +kernel
theorem nX6_refusesCut : zDs yX6_refusesCut 4 := ⟨by decide, by decide, by decide +kernel⟩
theorem dX6_refusesCut_0 : decode prog_8_method_8_code 0 = .ok (.aload_n 0, 1) := by decide +kernel
theorem dX6_refusesCut_1 : decode prog_8_method_8_code 1 = .ok (.getfield 16, 3) := by decide +kernel
theorem dX6_refusesCut_4 : decode prog_8_method_8_code 4 = .ok (.iload_n 1, 1) := by decide +kernel
theorem dX6_refusesCut_5 : decode prog_8_method_8_code 5 = .ok (.invokevirtual 87, 3) := by decide +kernel
theorem dX6_refusesCut_8 : decode prog_8_method_8_code 8 = .ok (.ifCond .ne 11, 3) := by decide +kernel
theorem dX6_refusesCut_11 : decode prog_8_method_8_code 11 = .ok (.aload 4, 2) := by decide +kernel
theorem dX6_refusesCut_13 : decode prog_8_method_8_code 13 = .ok (.iconst 3, 1) := by decide +kernel
theorem dX6_refusesCut_14 : decode prog_8_method_8_code 14 = .ok (.iload_n 1, 1) := by decide +kernel
theorem dX6_refusesCut_15 : decode prog_8_method_8_code 15 = .ok (.invokevirtual 70, 3) := by decide +kernel
theorem dX6_refusesCut_18 : decode prog_8_method_8_code 18 = .ok (.ireturn, 1) := by decide +kernel
theorem dX6_refusesCut_19 : decode prog_8_method_8_code 19 = .ok (.aload_n 0, 1) := by decide +kernel
theorem dX6_refusesCut_20 : decode prog_8_method_8_code 20 = .ok (.getfield 23, 3) := by decide +kernel
theorem dX6_refusesCut_23 : decode prog_8_method_8_code 23 = .ok (.iload_n 2, 1) := by decide +kernel
theorem dX6_refusesCut_24 : decode prog_8_method_8_code 24 = .ok (.invokevirtual 91, 3) := by decide +kernel
theorem dX6_refusesCut_27 : decode prog_8_method_8_code 27 = .ok (.ifCond .ne 11, 3) := by decide +kernel
theorem dX6_refusesCut_30 : decode prog_8_method_8_code 30 = .ok (.aload 4, 2) := by decide +kernel
theorem dX6_refusesCut_32 : decode prog_8_method_8_code 32 = .ok (.iconst 3, 1) := by decide +kernel
theorem dX6_refusesCut_33 : decode prog_8_method_8_code 33 = .ok (.iload_n 2, 1) := by decide +kernel
theorem dX6_refusesCut_34 : decode prog_8_method_8_code 34 = .ok (.invokevirtual 70, 3) := by decide +kernel
theorem dX6_refusesCut_37 : decode prog_8_method_8_code 37 = .ok (.ireturn, 1) := by decide +kernel
theorem dX6_refusesCut_38 : decode prog_8_method_8_code 38 = .ok (.aload_n 0, 1) := by decide +kernel
theorem dX6_refusesCut_39 : decode prog_8_method_8_code 39 = .ok (.getfield 37, 3) := by decide +kernel
theorem dX6_refusesCut_42 : decode prog_8_method_8_code 42 = .ok (.iload_n 3, 1) := by decide +kernel
theorem dX6_refusesCut_43 : decode prog_8_method_8_code 43 = .ok (.invokevirtual 92, 3) := by decide +kernel
theorem dX6_refusesCut_46 : decode prog_8_method_8_code 46 = .ok (.ifCond .ne 11, 3) := by decide +kernel
theorem dX6_refusesCut_49 : decode prog_8_method_8_code 49 = .ok (.aload 4, 2) := by decide +kernel
theorem dX6_refusesCut_51 : decode prog_8_method_8_code 51 = .ok (.iconst 3, 1) := by decide +kernel
theorem dX6_refusesCut_52 : decode prog_8_method_8_code 52 = .ok (.iload_n 3, 1) := by decide +kernel
theorem dX6_refusesCut_53 : decode prog_8_method_8_code 53 = .ok (.invokevirtual 70, 3) := by decide +kernel
theorem dX6_refusesCut_56 : decode prog_8_method_8_code 56 = .ok (.ireturn, 1) := by decide +kernel
theorem dX6_refusesCut_57 : decode prog_8_method_8_code 57 = .ok (.aload_n 0, 1) := by decide +kernel
theorem dX6_refusesCut_58 : decode prog_8_method_8_code 58 = .ok (.getfield 44, 3) := by decide +kernel
theorem dX6_refusesCut_61 : decode prog_8_method_8_code 61 = .ok (.iload_n 1, 1) := by decide +kernel
theorem dX6_refusesCut_62 : decode prog_8_method_8_code 62 = .ok (.iload_n 2, 1) := by decide +kernel
theorem dX6_refusesCut_63 : decode prog_8_method_8_code 63 = .ok (.invokevirtual 93, 3) := by decide +kernel
theorem dX6_refusesCut_66 : decode prog_8_method_8_code 66 = .ok (.ifCond .eq 19, 3) := by decide +kernel
theorem dX6_refusesCut_69 : decode prog_8_method_8_code 69 = .ok (.aload 4, 2) := by decide +kernel
theorem dX6_refusesCut_71 : decode prog_8_method_8_code 71 = .ok (.iconst 5, 1) := by decide +kernel
theorem dX6_refusesCut_72 : decode prog_8_method_8_code 72 = .ok (.aload_n 0, 1) := by decide +kernel
theorem dX6_refusesCut_73 : decode prog_8_method_8_code 73 = .ok (.getfield 44, 3) := by decide +kernel
theorem dX6_refusesCut_76 : decode prog_8_method_8_code 76 = .ok (.iload_n 1, 1) := by decide +kernel
theorem dX6_refusesCut_77 : decode prog_8_method_8_code 77 = .ok (.iload_n 2, 1) := by decide +kernel
theorem dX6_refusesCut_78 : decode prog_8_method_8_code 78 = .ok (.invokevirtual 95, 3) := by decide +kernel
theorem dX6_refusesCut_81 : decode prog_8_method_8_code 81 = .ok (.invokevirtual 70, 3) := by decide +kernel
theorem dX6_refusesCut_84 : decode prog_8_method_8_code 84 = .ok (.ireturn, 1) := by decide +kernel
theorem dX6_refusesCut_85 : decode prog_8_method_8_code 85 = .ok (.aload_n 0, 1) := by decide +kernel
theorem dX6_refusesCut_86 : decode prog_8_method_8_code 86 = .ok (.iload_n 1, 1) := by decide +kernel
theorem dX6_refusesCut_87 : decode prog_8_method_8_code 87 = .ok (.iload_n 2, 1) := by decide +kernel
theorem dX6_refusesCut_88 : decode prog_8_method_8_code 88 = .ok (.invokevirtual 99, 3) := by decide +kernel
theorem dX6_refusesCut_91 : decode prog_8_method_8_code 91 = .ok (.istore 5, 2) := by decide +kernel
theorem dX6_refusesCut_93 : decode prog_8_method_8_code 93 = .ok (.iload 5, 2) := by decide +kernel
theorem dX6_refusesCut_95 : decode prog_8_method_8_code 95 = .ok (.iconst 1, 1) := by decide +kernel
theorem dX6_refusesCut_96 : decode prog_8_method_8_code 96 = .ok (.if_icmp .ge 15, 3) := by decide +kernel
theorem dX6_refusesCut_99 : decode prog_8_method_8_code 99 = .ok (.aload 4, 2) := by decide +kernel
theorem dX6_refusesCut_101 : decode prog_8_method_8_code 101 = .ok (.bipush 6, 2) := by decide +kernel
theorem dX6_refusesCut_103 : decode prog_8_method_8_code 103 = .ok (.iconst 1, 1) := by decide +kernel
theorem dX6_refusesCut_104 : decode prog_8_method_8_code 104 = .ok (.iload 5, 2) := by decide +kernel
theorem dX6_refusesCut_106 : decode prog_8_method_8_code 106 = .ok (.isub, 1) := by decide +kernel
theorem dX6_refusesCut_107 : decode prog_8_method_8_code 107 = .ok (.invokevirtual 70, 3) := by decide +kernel
theorem dX6_refusesCut_110 : decode prog_8_method_8_code 110 = .ok (.ireturn, 1) := by decide +kernel
theorem dX6_refusesCut_111 : decode prog_8_method_8_code 111 = .ok (.aload_n 0, 1) := by decide +kernel
theorem dX6_refusesCut_112 : decode prog_8_method_8_code 112 = .ok (.iload_n 1, 1) := by decide +kernel
theorem dX6_refusesCut_113 : decode prog_8_method_8_code 113 = .ok (.iload_n 2, 1) := by decide +kernel
theorem dX6_refusesCut_114 : decode prog_8_method_8_code 114 = .ok (.invokevirtual 102, 3) := by decide +kernel
theorem dX6_refusesCut_117 : decode prog_8_method_8_code 117 = .ok (.istore 6, 2) := by decide +kernel
theorem dX6_refusesCut_119 : decode prog_8_method_8_code 119 = .ok (.iload 6, 2) := by decide +kernel
theorem dX6_refusesCut_121 : decode prog_8_method_8_code 121 = .ok (.iconst 0, 1) := by decide +kernel
theorem dX6_refusesCut_122 : decode prog_8_method_8_code 122 = .ok (.bipush 99, 2) := by decide +kernel
theorem dX6_refusesCut_124 : decode prog_8_method_8_code 124 = .ok (.invokestatic 64, 3) := by decide +kernel
theorem dX6_refusesCut_127 : decode prog_8_method_8_code 127 = .ok (.ifCond .eq 13, 3) := by decide +kernel
theorem dX6_refusesCut_130 : decode prog_8_method_8_code 130 = .ok (.aload 4, 2) := by decide +kernel
theorem dX6_refusesCut_132 : decode prog_8_method_8_code 132 = .ok (.bipush 7, 2) := by decide +kernel
theorem dX6_refusesCut_134 : decode prog_8_method_8_code 134 = .ok (.iload 6, 2) := by decide +kernel
theorem dX6_refusesCut_136 : decode prog_8_method_8_code 136 = .ok (.invokevirtual 70, 3) := by decide +kernel
theorem dX6_refusesCut_139 : decode prog_8_method_8_code 139 = .ok (.ireturn, 1) := by decide +kernel
theorem dX6_refusesCut_140 : decode prog_8_method_8_code 140 = .ok (.aload_n 0, 1) := by decide +kernel
theorem dX6_refusesCut_141 : decode prog_8_method_8_code 141 = .ok (.getfield 37, 3) := by decide +kernel
theorem dX6_refusesCut_144 : decode prog_8_method_8_code 144 = .ok (.getfield 105, 3) := by decide +kernel
theorem dX6_refusesCut_147 : decode prog_8_method_8_code 147 = .ok (.iload_n 3, 1) := by decide +kernel
theorem dX6_refusesCut_148 : decode prog_8_method_8_code 148 = .ok (.invokestatic 109, 3) := by decide +kernel
theorem dX6_refusesCut_151 : decode prog_8_method_8_code 151 = .ok (.istore 7, 2) := by decide +kernel
theorem dX6_refusesCut_153 : decode prog_8_method_8_code 153 = .ok (.iload 7, 2) := by decide +kernel
theorem dX6_refusesCut_155 : decode prog_8_method_8_code 155 = .ok (.aload_n 0, 1) := by decide +kernel
theorem dX6_refusesCut_156 : decode prog_8_method_8_code 156 = .ok (.getfield 16, 3) := by decide +kernel
theorem dX6_refusesCut_159 : decode prog_8_method_8_code 159 = .ok (.getfield 115, 3) := by decide +kernel
theorem dX6_refusesCut_162 : decode prog_8_method_8_code 162 = .ok (.iload_n 1, 1) := by decide +kernel
theorem dX6_refusesCut_163 : decode prog_8_method_8_code 163 = .ok (.invokestatic 109, 3) := by decide +kernel
theorem dX6_refusesCut_166 : decode prog_8_method_8_code 166 = .ok (.if_icmp .ge 13, 3) := by decide +kernel
theorem dX6_refusesCut_169 : decode prog_8_method_8_code 169 = .ok (.aload 4, 2) := by decide +kernel
theorem dX6_refusesCut_171 : decode prog_8_method_8_code 171 = .ok (.bipush 8, 2) := by decide +kernel
theorem dX6_refusesCut_173 : decode prog_8_method_8_code 173 = .ok (.iload 7, 2) := by decide +kernel
theorem dX6_refusesCut_175 : decode prog_8_method_8_code 175 = .ok (.invokevirtual 70, 3) := by decide +kernel
theorem dX6_refusesCut_178 : decode prog_8_method_8_code 178 = .ok (.ireturn, 1) := by decide +kernel
theorem dX6_refusesCut_179 : decode prog_8_method_8_code 179 = .ok (.aload_n 0, 1) := by decide +kernel
theorem dX6_refusesCut_180 : decode prog_8_method_8_code 180 = .ok (.getfield 44, 3) := by decide +kernel
theorem dX6_refusesCut_183 : decode prog_8_method_8_code 183 = .ok (.iload_n 1, 1) := by decide +kernel
theorem dX6_refusesCut_184 : decode prog_8_method_8_code 184 = .ok (.iload 6, 2) := by decide +kernel
theorem dX6_refusesCut_186 : decode prog_8_method_8_code 186 = .ok (.invokevirtual 118, 3) := by decide +kernel
theorem dX6_refusesCut_189 : decode prog_8_method_8_code 189 = .ok (.istore 8, 2) := by decide +kernel
theorem dX6_refusesCut_191 : decode prog_8_method_8_code 191 = .ok (.iload 8, 2) := by decide +kernel
theorem dX6_refusesCut_193 : decode prog_8_method_8_code 193 = .ok (.ifCond .lt 13, 3) := by decide +kernel
theorem dX6_refusesCut_196 : decode prog_8_method_8_code 196 = .ok (.aload 4, 2) := by decide +kernel
theorem dX6_refusesCut_198 : decode prog_8_method_8_code 198 = .ok (.bipush 9, 2) := by decide +kernel
theorem dX6_refusesCut_200 : decode prog_8_method_8_code 200 = .ok (.iload 8, 2) := by decide +kernel
theorem dX6_refusesCut_202 : decode prog_8_method_8_code 202 = .ok (.invokevirtual 70, 3) := by decide +kernel
theorem dX6_refusesCut_205 : decode prog_8_method_8_code 205 = .ok (.ireturn, 1) := by decide +kernel
theorem dX6_refusesCut_206 : decode prog_8_method_8_code 206 = .ok (.aload_n 0, 1) := by decide +kernel
theorem dX6_refusesCut_207 : decode prog_8_method_8_code 207 = .ok (.getfield 44, 3) := by decide +kernel
theorem dX6_refusesCut_210 : decode prog_8_method_8_code 210 = .ok (.iload_n 1, 1) := by decide +kernel
theorem dX6_refusesCut_211 : decode prog_8_method_8_code 211 = .ok (.invokevirtual 121, 3) := by decide +kernel
theorem dX6_refusesCut_214 : decode prog_8_method_8_code 214 = .ok (.bipush 6, 2) := by decide +kernel
theorem dX6_refusesCut_216 : decode prog_8_method_8_code 216 = .ok (.if_icmp .lt 18, 3) := by decide +kernel
theorem dX6_refusesCut_219 : decode prog_8_method_8_code 219 = .ok (.aload 4, 2) := by decide +kernel
theorem dX6_refusesCut_221 : decode prog_8_method_8_code 221 = .ok (.iconst 2, 1) := by decide +kernel
theorem dX6_refusesCut_222 : decode prog_8_method_8_code 222 = .ok (.bipush 6, 2) := by decide +kernel
theorem dX6_refusesCut_224 : decode prog_8_method_8_code 224 = .ok (.invokevirtual 70, 3) := by decide +kernel
theorem dX6_refusesCut_227 : decode prog_8_method_8_code 227 = .ok (.ifCond .eq 7, 3) := by decide +kernel
theorem dX6_refusesCut_230 : decode prog_8_method_8_code 230 = .ok (.iconst 1, 1) := by decide +kernel
theorem dX6_refusesCut_231 : decode prog_8_method_8_code 231 = .ok (.goto 4, 3) := by decide +kernel
theorem dX6_refusesCut_234 : decode prog_8_method_8_code 234 = .ok (.iconst 0, 1) := by decide +kernel
theorem dX6_refusesCut_235 : decode prog_8_method_8_code 235 = .ok (.ireturn, 1) := by decide +kernel
theorem nX6_refusesEfface : zDs yX6_refusesEfface 3 := ⟨by decide, by decide, by decide +kernel⟩
theorem dX6_refusesEfface_0 : decode prog_8_method_9_code 0 = .ok (.aload_n 0, 1) := by decide +kernel
theorem dX6_refusesEfface_1 : decode prog_8_method_9_code 1 = .ok (.getfield 16, 3) := by decide +kernel
theorem dX6_refusesEfface_4 : decode prog_8_method_9_code 4 = .ok (.iload_n 1, 1) := by decide +kernel
theorem dX6_refusesEfface_5 : decode prog_8_method_9_code 5 = .ok (.invokevirtual 87, 3) := by decide +kernel
theorem dX6_refusesEfface_8 : decode prog_8_method_9_code 8 = .ok (.ifCond .ne 10, 3) := by decide +kernel
theorem dX6_refusesEfface_11 : decode prog_8_method_9_code 11 = .ok (.aload_n 3, 1) := by decide +kernel
theorem dX6_refusesEfface_12 : decode prog_8_method_9_code 12 = .ok (.iconst 3, 1) := by decide +kernel
theorem dX6_refusesEfface_13 : decode prog_8_method_9_code 13 = .ok (.iload_n 1, 1) := by decide +kernel
theorem dX6_refusesEfface_14 : decode prog_8_method_9_code 14 = .ok (.invokevirtual 70, 3) := by decide +kernel
theorem dX6_refusesEfface_17 : decode prog_8_method_9_code 17 = .ok (.ireturn, 1) := by decide +kernel
theorem dX6_refusesEfface_18 : decode prog_8_method_9_code 18 = .ok (.aload_n 0, 1) := by decide +kernel
theorem dX6_refusesEfface_19 : decode prog_8_method_9_code 19 = .ok (.getfield 23, 3) := by decide +kernel
theorem dX6_refusesEfface_22 : decode prog_8_method_9_code 22 = .ok (.iload_n 2, 1) := by decide +kernel
theorem dX6_refusesEfface_23 : decode prog_8_method_9_code 23 = .ok (.invokevirtual 91, 3) := by decide +kernel
theorem dX6_refusesEfface_26 : decode prog_8_method_9_code 26 = .ok (.ifCond .ne 10, 3) := by decide +kernel
theorem dX6_refusesEfface_29 : decode prog_8_method_9_code 29 = .ok (.aload_n 3, 1) := by decide +kernel
theorem dX6_refusesEfface_30 : decode prog_8_method_9_code 30 = .ok (.iconst 3, 1) := by decide +kernel
theorem dX6_refusesEfface_31 : decode prog_8_method_9_code 31 = .ok (.iload_n 2, 1) := by decide +kernel
theorem dX6_refusesEfface_32 : decode prog_8_method_9_code 32 = .ok (.invokevirtual 70, 3) := by decide +kernel
theorem dX6_refusesEfface_35 : decode prog_8_method_9_code 35 = .ok (.ireturn, 1) := by decide +kernel
theorem dX6_refusesEfface_36 : decode prog_8_method_9_code 36 = .ok (.aload_n 0, 1) := by decide +kernel
theorem dX6_refusesEfface_37 : decode prog_8_method_9_code 37 = .ok (.getfield 44, 3) := by decide +kernel
theorem dX6_refusesEfface_40 : decode prog_8_method_9_code 40 = .ok (.iload_n 1, 1) := by decide +kernel
theorem dX6_refusesEfface_41 : decode prog_8_method_9_code 41 = .ok (.iload_n 2, 1) := by decide +kernel
theorem dX6_refusesEfface_42 : decode prog_8_method_9_code 42 = .ok (.invokevirtual 93, 3) := by decide +kernel
theorem dX6_refusesEfface_45 : decode prog_8_method_9_code 45 = .ok (.ifCond .ne 17, 3) := by decide +kernel
theorem dX6_refusesEfface_48 : decode prog_8_method_9_code 48 = .ok (.aload_n 3, 1) := by decide +kernel
theorem dX6_refusesEfface_49 : decode prog_8_method_9_code 49 = .ok (.bipush 10, 2) := by decide +kernel
theorem dX6_refusesEfface_51 : decode prog_8_method_9_code 51 = .ok (.iload_n 2, 1) := by decide +kernel
theorem dX6_refusesEfface_52 : decode prog_8_method_9_code 52 = .ok (.invokevirtual 70, 3) := by decide +kernel
theorem dX6_refusesEfface_55 : decode prog_8_method_9_code 55 = .ok (.ifCond .eq 7, 3) := by decide +kernel
theorem dX6_refusesEfface_58 : decode prog_8_method_9_code 58 = .ok (.iconst 1, 1) := by decide +kernel
theorem dX6_refusesEfface_59 : decode prog_8_method_9_code 59 = .ok (.goto 4, 3) := by decide +kernel
theorem dX6_refusesEfface_62 : decode prog_8_method_9_code 62 = .ok (.iconst 0, 1) := by decide +kernel
theorem dX6_refusesEfface_63 : decode prog_8_method_9_code 63 = .ok (.ireturn, 1) := by decide +kernel
theorem nX6_refusesSharpen : zDs yX6_refusesSharpen 2 := ⟨by decide, by decide, by decide +kernel⟩
theorem dX6_refusesSharpen_0 : decode prog_8_method_10_code 0 = .ok (.aload_n 0, 1) := by decide +kernel
theorem dX6_refusesSharpen_1 : decode prog_8_method_10_code 1 = .ok (.getfield 37, 3) := by decide +kernel
theorem dX6_refusesSharpen_4 : decode prog_8_method_10_code 4 = .ok (.iload_n 1, 1) := by decide +kernel
theorem dX6_refusesSharpen_5 : decode prog_8_method_10_code 5 = .ok (.invokevirtual 92, 3) := by decide +kernel
theorem dX6_refusesSharpen_8 : decode prog_8_method_10_code 8 = .ok (.ifCond .ne 16, 3) := by decide +kernel
theorem dX6_refusesSharpen_11 : decode prog_8_method_10_code 11 = .ok (.aload_n 2, 1) := by decide +kernel
theorem dX6_refusesSharpen_12 : decode prog_8_method_10_code 12 = .ok (.iconst 3, 1) := by decide +kernel
theorem dX6_refusesSharpen_13 : decode prog_8_method_10_code 13 = .ok (.iload_n 1, 1) := by decide +kernel
theorem dX6_refusesSharpen_14 : decode prog_8_method_10_code 14 = .ok (.invokevirtual 70, 3) := by decide +kernel
theorem dX6_refusesSharpen_17 : decode prog_8_method_10_code 17 = .ok (.ifCond .eq 7, 3) := by decide +kernel
theorem dX6_refusesSharpen_20 : decode prog_8_method_10_code 20 = .ok (.iconst 1, 1) := by decide +kernel
theorem dX6_refusesSharpen_21 : decode prog_8_method_10_code 21 = .ok (.goto 4, 3) := by decide +kernel
theorem dX6_refusesSharpen_24 : decode prog_8_method_10_code 24 = .ok (.iconst 0, 1) := by decide +kernel
theorem dX6_refusesSharpen_25 : decode prog_8_method_10_code 25 = .ok (.ireturn, 1) := by decide +kernel
theorem nX6_refusesCheck : zDs yX6_refusesCheck 2 := ⟨by decide, by decide, by decide +kernel⟩
theorem dX6_refusesCheck_0 : decode prog_8_method_11_code 0 = .ok (.aload_n 0, 1) := by decide +kernel
theorem dX6_refusesCheck_1 : decode prog_8_method_11_code 1 = .ok (.getfield 16, 3) := by decide +kernel
theorem dX6_refusesCheck_4 : decode prog_8_method_11_code 4 = .ok (.iload_n 1, 1) := by decide +kernel
theorem dX6_refusesCheck_5 : decode prog_8_method_11_code 5 = .ok (.invokevirtual 87, 3) := by decide +kernel
theorem dX6_refusesCheck_8 : decode prog_8_method_11_code 8 = .ok (.ifCond .ne 16, 3) := by decide +kernel
theorem dX6_refusesCheck_11 : decode prog_8_method_11_code 11 = .ok (.aload_n 2, 1) := by decide +kernel
theorem dX6_refusesCheck_12 : decode prog_8_method_11_code 12 = .ok (.iconst 3, 1) := by decide +kernel
theorem dX6_refusesCheck_13 : decode prog_8_method_11_code 13 = .ok (.iload_n 1, 1) := by decide +kernel
theorem dX6_refusesCheck_14 : decode prog_8_method_11_code 14 = .ok (.invokevirtual 70, 3) := by decide +kernel
theorem dX6_refusesCheck_17 : decode prog_8_method_11_code 17 = .ok (.ifCond .eq 7, 3) := by decide +kernel
theorem dX6_refusesCheck_20 : decode prog_8_method_11_code 20 = .ok (.iconst 1, 1) := by decide +kernel
theorem dX6_refusesCheck_21 : decode prog_8_method_11_code 21 = .ok (.goto 4, 3) := by decide +kernel
theorem dX6_refusesCheck_24 : decode prog_8_method_11_code 24 = .ok (.iconst 0, 1) := by decide +kernel
theorem dX6_refusesCheck_25 : decode prog_8_method_11_code 25 = .ok (.ireturn, 1) := by decide +kernel
theorem nX6_refusesWitness : zDs yX6_refusesWitness 3 := ⟨by decide, by decide, by decide +kernel⟩
theorem dX6_refusesWitness_0 : decode prog_8_method_12_code 0 = .ok (.aload_n 0, 1) := by decide +kernel
theorem dX6_refusesWitness_1 : decode prog_8_method_12_code 1 = .ok (.getfield 23, 3) := by decide +kernel
theorem dX6_refusesWitness_4 : decode prog_8_method_12_code 4 = .ok (.iload_n 1, 1) := by decide +kernel
theorem dX6_refusesWitness_5 : decode prog_8_method_12_code 5 = .ok (.invokevirtual 91, 3) := by decide +kernel
theorem dX6_refusesWitness_8 : decode prog_8_method_12_code 8 = .ok (.ifCond .ne 10, 3) := by decide +kernel
theorem dX6_refusesWitness_11 : decode prog_8_method_12_code 11 = .ok (.aload_n 3, 1) := by decide +kernel
theorem dX6_refusesWitness_12 : decode prog_8_method_12_code 12 = .ok (.iconst 3, 1) := by decide +kernel
theorem dX6_refusesWitness_13 : decode prog_8_method_12_code 13 = .ok (.iload_n 1, 1) := by decide +kernel
theorem dX6_refusesWitness_14 : decode prog_8_method_12_code 14 = .ok (.invokevirtual 70, 3) := by decide +kernel
theorem dX6_refusesWitness_17 : decode prog_8_method_12_code 17 = .ok (.ireturn, 1) := by decide +kernel
theorem dX6_refusesWitness_18 : decode prog_8_method_12_code 18 = .ok (.iload_n 2, 1) := by decide +kernel
theorem dX6_refusesWitness_19 : decode prog_8_method_12_code 19 = .ok (.iconst 1, 1) := by decide +kernel
theorem dX6_refusesWitness_20 : decode prog_8_method_12_code 20 = .ok (.bipush 9, 2) := by decide +kernel
theorem dX6_refusesWitness_22 : decode prog_8_method_12_code 22 = .ok (.invokestatic 64, 3) := by decide +kernel
theorem dX6_refusesWitness_25 : decode prog_8_method_12_code 25 = .ok (.ifCond .eq 10, 3) := by decide +kernel
theorem dX6_refusesWitness_28 : decode prog_8_method_12_code 28 = .ok (.aload_n 3, 1) := by decide +kernel
theorem dX6_refusesWitness_29 : decode prog_8_method_12_code 29 = .ok (.iconst 1, 1) := by decide +kernel
theorem dX6_refusesWitness_30 : decode prog_8_method_12_code 30 = .ok (.iconst 0, 1) := by decide +kernel
theorem dX6_refusesWitness_31 : decode prog_8_method_12_code 31 = .ok (.invokevirtual 70, 3) := by decide +kernel
theorem dX6_refusesWitness_34 : decode prog_8_method_12_code 34 = .ok (.ireturn, 1) := by decide +kernel
theorem dX6_refusesWitness_35 : decode prog_8_method_12_code 35 = .ok (.aload_n 0, 1) := by decide +kernel
theorem dX6_refusesWitness_36 : decode prog_8_method_12_code 36 = .ok (.getfield 23, 3) := by decide +kernel
theorem dX6_refusesWitness_39 : decode prog_8_method_12_code 39 = .ok (.getfield 124, 3) := by decide +kernel
theorem dX6_refusesWitness_42 : decode prog_8_method_12_code 42 = .ok (.iload_n 1, 1) := by decide +kernel
theorem dX6_refusesWitness_43 : decode prog_8_method_12_code 43 = .ok (.invokestatic 109, 3) := by decide +kernel
theorem dX6_refusesWitness_46 : decode prog_8_method_12_code 46 = .ok (.iload_n 2, 1) := by decide +kernel
theorem dX6_refusesWitness_47 : decode prog_8_method_12_code 47 = .ok (.iadd, 1) := by decide +kernel
theorem dX6_refusesWitness_48 : decode prog_8_method_12_code 48 = .ok (.bipush 99, 2) := by decide +kernel
theorem dX6_refusesWitness_50 : decode prog_8_method_12_code 50 = .ok (.if_icmp .le 17, 3) := by decide +kernel
theorem dX6_refusesWitness_53 : decode prog_8_method_12_code 53 = .ok (.aload_n 3, 1) := by decide +kernel
theorem dX6_refusesWitness_54 : decode prog_8_method_12_code 54 = .ok (.iconst 2, 1) := by decide +kernel
theorem dX6_refusesWitness_55 : decode prog_8_method_12_code 55 = .ok (.bipush 99, 2) := by decide +kernel
theorem dX6_refusesWitness_57 : decode prog_8_method_12_code 57 = .ok (.invokevirtual 70, 3) := by decide +kernel
theorem dX6_refusesWitness_60 : decode prog_8_method_12_code 60 = .ok (.ifCond .eq 7, 3) := by decide +kernel
theorem dX6_refusesWitness_63 : decode prog_8_method_12_code 63 = .ok (.iconst 1, 1) := by decide +kernel
theorem dX6_refusesWitness_64 : decode prog_8_method_12_code 64 = .ok (.goto 4, 3) := by decide +kernel
theorem dX6_refusesWitness_67 : decode prog_8_method_12_code 67 = .ok (.iconst 0, 1) := by decide +kernel
theorem dX6_refusesWitness_68 : decode prog_8_method_12_code 68 = .ok (.ireturn, 1) := by decide +kernel
theorem nX6_refusesYears : zDs yX6_refusesYears 2 := ⟨by decide, by decide, by decide +kernel⟩
theorem dX6_refusesYears_0 : decode prog_8_method_13_code 0 = .ok (.iload_n 1, 1) := by decide +kernel
theorem dX6_refusesYears_1 : decode prog_8_method_13_code 1 = .ok (.iconst 1, 1) := by decide +kernel
theorem dX6_refusesYears_2 : decode prog_8_method_13_code 2 = .ok (.bipush 60, 2) := by decide +kernel
theorem dX6_refusesYears_4 : decode prog_8_method_13_code 4 = .ok (.invokestatic 64, 3) := by decide +kernel
theorem dX6_refusesYears_7 : decode prog_8_method_13_code 7 = .ok (.ifCond .eq 16, 3) := by decide +kernel
theorem dX6_refusesYears_10 : decode prog_8_method_13_code 10 = .ok (.aload_n 2, 1) := by decide +kernel
theorem dX6_refusesYears_11 : decode prog_8_method_13_code 11 = .ok (.iconst 1, 1) := by decide +kernel
theorem dX6_refusesYears_12 : decode prog_8_method_13_code 12 = .ok (.iconst 0, 1) := by decide +kernel
theorem dX6_refusesYears_13 : decode prog_8_method_13_code 13 = .ok (.invokevirtual 70, 3) := by decide +kernel
theorem dX6_refusesYears_16 : decode prog_8_method_13_code 16 = .ok (.ifCond .eq 7, 3) := by decide +kernel
theorem dX6_refusesYears_19 : decode prog_8_method_13_code 19 = .ok (.iconst 1, 1) := by decide +kernel
theorem dX6_refusesYears_20 : decode prog_8_method_13_code 20 = .ok (.goto 4, 3) := by decide +kernel
theorem dX6_refusesYears_23 : decode prog_8_method_13_code 23 = .ok (.iconst 0, 1) := by decide +kernel
theorem dX6_refusesYears_24 : decode prog_8_method_13_code 24 = .ok (.ireturn, 1) := by decide +kernel
theorem nX6_cutMark : zDs yX6_cutMark 3 := ⟨by decide, by decide, by decide +kernel⟩
theorem dX6_cutMark_0 : decode prog_8_method_14_code 0 = .ok (.aload_n 0, 1) := by decide +kernel
theorem dX6_cutMark_1 : decode prog_8_method_14_code 1 = .ok (.iload_n 1, 1) := by decide +kernel
theorem dX6_cutMark_2 : decode prog_8_method_14_code 2 = .ok (.iload_n 2, 1) := by decide +kernel
theorem dX6_cutMark_3 : decode prog_8_method_14_code 3 = .ok (.invokevirtual 102, 3) := by decide +kernel
theorem dX6_cutMark_6 : decode prog_8_method_14_code 6 = .ok (.istore 4, 2) := by decide +kernel
theorem dX6_cutMark_8 : decode prog_8_method_14_code 8 = .ok (.aload_n 0, 1) := by decide +kernel
theorem dX6_cutMark_9 : decode prog_8_method_14_code 9 = .ok (.getfield 37, 3) := by decide +kernel
theorem dX6_cutMark_12 : decode prog_8_method_14_code 12 = .ok (.getfield 105, 3) := by decide +kernel
theorem dX6_cutMark_15 : decode prog_8_method_14_code 15 = .ok (.iload_n 3, 1) := by decide +kernel
theorem dX6_cutMark_16 : decode prog_8_method_14_code 16 = .ok (.invokestatic 109, 3) := by decide +kernel
theorem dX6_cutMark_19 : decode prog_8_method_14_code 19 = .ok (.iconst 2, 1) := by decide +kernel
theorem dX6_cutMark_20 : decode prog_8_method_14_code 20 = .ok (.idiv, 1) := by decide +kernel
theorem dX6_cutMark_21 : decode prog_8_method_14_code 21 = .ok (.iconst 1, 1) := by decide +kernel
theorem dX6_cutMark_22 : decode prog_8_method_14_code 22 = .ok (.iadd, 1) := by decide +kernel
theorem dX6_cutMark_23 : decode prog_8_method_14_code 23 = .ok (.istore 5, 2) := by decide +kernel
theorem dX6_cutMark_25 : decode prog_8_method_14_code 25 = .ok (.aload_n 0, 1) := by decide +kernel
theorem dX6_cutMark_26 : decode prog_8_method_14_code 26 = .ok (.getfield 44, 3) := by decide +kernel
theorem dX6_cutMark_29 : decode prog_8_method_14_code 29 = .ok (.iload_n 1, 1) := by decide +kernel
theorem dX6_cutMark_30 : decode prog_8_method_14_code 30 = .ok (.iload_n 2, 1) := by decide +kernel
theorem dX6_cutMark_31 : decode prog_8_method_14_code 31 = .ok (.invokestatic 127, 3) := by decide +kernel
theorem dX6_cutMark_34 : decode prog_8_method_14_code 34 = .ok (.iload 4, 2) := by decide +kernel
theorem dX6_cutMark_36 : decode prog_8_method_14_code 36 = .ok (.iload 5, 2) := by decide +kernel
theorem dX6_cutMark_38 : decode prog_8_method_14_code 38 = .ok (.aload_n 0, 1) := by decide +kernel
theorem dX6_cutMark_39 : decode prog_8_method_14_code 39 = .ok (.getfield 9, 3) := by decide +kernel
theorem dX6_cutMark_42 : decode prog_8_method_14_code 42 = .ok (.invokevirtual 130, 3) := by decide +kernel
theorem dX6_cutMark_45 : decode prog_8_method_14_code 45 = .ok (.aload_n 0, 1) := by decide +kernel
theorem dX6_cutMark_46 : decode prog_8_method_14_code 46 = .ok (.getfield 37, 3) := by decide +kernel
theorem dX6_cutMark_49 : decode prog_8_method_14_code 49 = .ok (.iload_n 3, 1) := by decide +kernel
theorem dX6_cutMark_50 : decode prog_8_method_14_code 50 = .ok (.aload_n 0, 1) := by decide +kernel
theorem dX6_cutMark_51 : decode prog_8_method_14_code 51 = .ok (.getfield 16, 3) := by decide +kernel
theorem dX6_cutMark_54 : decode prog_8_method_14_code 54 = .ok (.getfield 115, 3) := by decide +kernel
theorem dX6_cutMark_57 : decode prog_8_method_14_code 57 = .ok (.iload_n 1, 1) := by decide +kernel
theorem dX6_cutMark_58 : decode prog_8_method_14_code 58 = .ok (.invokestatic 109, 3) := by decide +kernel
theorem dX6_cutMark_61 : decode prog_8_method_14_code 61 = .ok (.invokevirtual 134, 3) := by decide +kernel
theorem dX6_cutMark_64 : decode prog_8_method_14_code 64 = .ok (.iload 4, 2) := by decide +kernel
theorem dX6_cutMark_66 : decode prog_8_method_14_code 66 = .ok (.ireturn, 1) := by decide +kernel
theorem nX6_passYears : zDs yX6_passYears 1 := ⟨by decide, by decide, by decide +kernel⟩
theorem dX6_passYears_0 : decode prog_8_method_15_code 0 = .ok (.iconst 0, 1) := by decide +kernel
theorem dX6_passYears_1 : decode prog_8_method_15_code 1 = .ok (.istore_n 2, 1) := by decide +kernel
theorem dX6_passYears_2 : decode prog_8_method_15_code 2 = .ok (.iconst 0, 1) := by decide +kernel
theorem dX6_passYears_3 : decode prog_8_method_15_code 3 = .ok (.istore_n 3, 1) := by decide +kernel
theorem dX6_passYears_4 : decode prog_8_method_15_code 4 = .ok (.iload_n 3, 1) := by decide +kernel
theorem dX6_passYears_5 : decode prog_8_method_15_code 5 = .ok (.iload_n 1, 1) := by decide +kernel
theorem dX6_passYears_6 : decode prog_8_method_15_code 6 = .ok (.if_icmp .ge 54, 3) := by decide +kernel
theorem dX6_passYears_9 : decode prog_8_method_15_code 9 = .ok (.aload_n 0, 1) := by decide +kernel
theorem dX6_passYears_10 : decode prog_8_method_15_code 10 = .ok (.dup, 1) := by decide +kernel
theorem dX6_passYears_11 : decode prog_8_method_15_code 11 = .ok (.getfield 9, 3) := by decide +kernel
theorem dX6_passYears_14 : decode prog_8_method_15_code 14 = .ok (.iconst 1, 1) := by decide +kernel
theorem dX6_passYears_15 : decode prog_8_method_15_code 15 = .ok (.iadd, 1) := by decide +kernel
theorem dX6_passYears_16 : decode prog_8_method_15_code 16 = .ok (.putfield 9, 3) := by decide +kernel
theorem dX6_passYears_19 : decode prog_8_method_15_code 19 = .ok (.aload_n 0, 1) := by decide +kernel
theorem dX6_passYears_20 : decode prog_8_method_15_code 20 = .ok (.getfield 9, 3) := by decide +kernel
theorem dX6_passYears_23 : decode prog_8_method_15_code 23 = .ok (.iconst 3, 1) := by decide +kernel
theorem dX6_passYears_24 : decode prog_8_method_15_code 24 = .ok (.irem, 1) := by decide +kernel
theorem dX6_passYears_25 : decode prog_8_method_15_code 25 = .ok (.ifCond .ne 10, 3) := by decide +kernel
theorem dX6_passYears_28 : decode prog_8_method_15_code 28 = .ok (.aload_n 0, 1) := by decide +kernel
theorem dX6_passYears_29 : decode prog_8_method_15_code 29 = .ok (.getfield 16, 3) := by decide +kernel
theorem dX6_passYears_32 : decode prog_8_method_15_code 32 = .ok (.invokevirtual 138, 3) := by decide +kernel
theorem dX6_passYears_35 : decode prog_8_method_15_code 35 = .ok (.aload_n 0, 1) := by decide +kernel
theorem dX6_passYears_36 : decode prog_8_method_15_code 36 = .ok (.getfield 9, 3) := by decide +kernel
theorem dX6_passYears_39 : decode prog_8_method_15_code 39 = .ok (.iconst 5, 1) := by decide +kernel
theorem dX6_passYears_40 : decode prog_8_method_15_code 40 = .ok (.irem, 1) := by decide +kernel
theorem dX6_passYears_41 : decode prog_8_method_15_code 41 = .ok (.ifCond .ne 13, 3) := by decide +kernel
theorem dX6_passYears_44 : decode prog_8_method_15_code 44 = .ok (.iload_n 2, 1) := by decide +kernel
theorem dX6_passYears_45 : decode prog_8_method_15_code 45 = .ok (.aload_n 0, 1) := by decide +kernel
theorem dX6_passYears_46 : decode prog_8_method_15_code 46 = .ok (.getfield 44, 3) := by decide +kernel
theorem dX6_passYears_49 : decode prog_8_method_15_code 49 = .ok (.invokevirtual 141, 3) := by decide +kernel
theorem dX6_passYears_52 : decode prog_8_method_15_code 52 = .ok (.iadd, 1) := by decide +kernel
theorem dX6_passYears_53 : decode prog_8_method_15_code 53 = .ok (.istore_n 2, 1) := by decide +kernel
theorem dX6_passYears_54 : decode prog_8_method_15_code 54 = .ok (.iinc 3 1, 3) := by decide +kernel
theorem dX6_passYears_57 : decode prog_8_method_15_code 57 = .ok (.goto (-53), 3) := by decide +kernel
theorem dX6_passYears_60 : decode prog_8_method_15_code 60 = .ok (.iload_n 2, 1) := by decide +kernel
theorem dX6_passYears_61 : decode prog_8_method_15_code 61 = .ok (.ireturn, 1) := by decide +kernel
theorem nX6_errorAfter : zDs yX6_errorAfter 2 := ⟨by decide, by decide, by decide +kernel⟩
theorem dX6_errorAfter_0 : decode prog_8_method_16_code 0 = .ok (.aload_n 0, 1) := by decide +kernel
theorem dX6_errorAfter_1 : decode prog_8_method_16_code 1 = .ok (.getfield 16, 3) := by decide +kernel
theorem dX6_errorAfter_4 : decode prog_8_method_16_code 4 = .ok (.getfield 145, 3) := by decide +kernel
theorem dX6_errorAfter_7 : decode prog_8_method_16_code 7 = .ok (.iload_n 1, 1) := by decide +kernel
theorem dX6_errorAfter_8 : decode prog_8_method_16_code 8 = .ok (.invokestatic 109, 3) := by decide +kernel
theorem dX6_errorAfter_11 : decode prog_8_method_16_code 11 = .ok (.istore_n 3, 1) := by decide +kernel
theorem dX6_errorAfter_12 : decode prog_8_method_16_code 12 = .ok (.iconst 1, 1) := by decide +kernel
theorem dX6_errorAfter_13 : decode prog_8_method_16_code 13 = .ok (.istore 4, 2) := by decide +kernel
theorem dX6_errorAfter_15 : decode prog_8_method_16_code 15 = .ok (.iload 4, 2) := by decide +kernel
theorem dX6_errorAfter_17 : decode prog_8_method_16_code 17 = .ok (.iload_n 2, 1) := by decide +kernel
theorem dX6_errorAfter_18 : decode prog_8_method_16_code 18 = .ok (.if_icmp .gt 26, 3) := by decide +kernel
theorem dX6_errorAfter_21 : decode prog_8_method_16_code 21 = .ok (.aload_n 0, 1) := by decide +kernel
theorem dX6_errorAfter_22 : decode prog_8_method_16_code 22 = .ok (.getfield 9, 3) := by decide +kernel
theorem dX6_errorAfter_25 : decode prog_8_method_16_code 25 = .ok (.iload 4, 2) := by decide +kernel
theorem dX6_errorAfter_27 : decode prog_8_method_16_code 27 = .ok (.iadd, 1) := by decide +kernel
theorem dX6_errorAfter_28 : decode prog_8_method_16_code 28 = .ok (.iconst 3, 1) := by decide +kernel
theorem dX6_errorAfter_29 : decode prog_8_method_16_code 29 = .ok (.irem, 1) := by decide +kernel
theorem dX6_errorAfter_30 : decode prog_8_method_16_code 30 = .ok (.ifCond .ne 8, 3) := by decide +kernel
theorem dX6_errorAfter_33 : decode prog_8_method_16_code 33 = .ok (.iload_n 3, 1) := by decide +kernel
theorem dX6_errorAfter_34 : decode prog_8_method_16_code 34 = .ok (.invokestatic 148, 3) := by decide +kernel
theorem dX6_errorAfter_37 : decode prog_8_method_16_code 37 = .ok (.istore_n 3, 1) := by decide +kernel
theorem dX6_errorAfter_38 : decode prog_8_method_16_code 38 = .ok (.iinc 4 1, 3) := by decide +kernel
theorem dX6_errorAfter_41 : decode prog_8_method_16_code 41 = .ok (.goto (-26), 3) := by decide +kernel
theorem dX6_errorAfter_44 : decode prog_8_method_16_code 44 = .ok (.iload_n 3, 1) := by decide +kernel
theorem dX6_errorAfter_45 : decode prog_8_method_16_code 45 = .ok (.ireturn, 1) := by decide +kernel
theorem nX6_yearsLeft : zDs yX6_yearsLeft 2 := ⟨by decide, by decide, by decide +kernel⟩
theorem dX6_yearsLeft_0 : decode prog_8_method_17_code 0 = .ok (.aload_n 0, 1) := by decide +kernel
theorem dX6_yearsLeft_1 : decode prog_8_method_17_code 1 = .ok (.getfield 9, 3) := by decide +kernel
theorem dX6_yearsLeft_4 : decode prog_8_method_17_code 4 = .ok (.iconst 5, 1) := by decide +kernel
theorem dX6_yearsLeft_5 : decode prog_8_method_17_code 5 = .ok (.idiv, 1) := by decide +kernel
theorem dX6_yearsLeft_6 : decode prog_8_method_17_code 6 = .ok (.aload_n 0, 1) := by decide +kernel
theorem dX6_yearsLeft_7 : decode prog_8_method_17_code 7 = .ok (.getfield 44, 3) := by decide +kernel
theorem dX6_yearsLeft_10 : decode prog_8_method_17_code 10 = .ok (.iload_n 1, 1) := by decide +kernel
theorem dX6_yearsLeft_11 : decode prog_8_method_17_code 11 = .ok (.iload_n 2, 1) := by decide +kernel
theorem dX6_yearsLeft_12 : decode prog_8_method_17_code 12 = .ok (.invokevirtual 151, 3) := by decide +kernel
theorem dX6_yearsLeft_15 : decode prog_8_method_17_code 15 = .ok (.iadd, 1) := by decide +kernel
theorem dX6_yearsLeft_16 : decode prog_8_method_17_code 16 = .ok (.iconst 5, 1) := by decide +kernel
theorem dX6_yearsLeft_17 : decode prog_8_method_17_code 17 = .ok (.imul, 1) := by decide +kernel
theorem dX6_yearsLeft_18 : decode prog_8_method_17_code 18 = .ok (.istore_n 3, 1) := by decide +kernel
theorem dX6_yearsLeft_19 : decode prog_8_method_17_code 19 = .ok (.iload_n 3, 1) := by decide +kernel
theorem dX6_yearsLeft_20 : decode prog_8_method_17_code 20 = .ok (.aload_n 0, 1) := by decide +kernel
theorem dX6_yearsLeft_21 : decode prog_8_method_17_code 21 = .ok (.getfield 9, 3) := by decide +kernel
theorem dX6_yearsLeft_24 : decode prog_8_method_17_code 24 = .ok (.isub, 1) := by decide +kernel
theorem dX6_yearsLeft_25 : decode prog_8_method_17_code 25 = .ok (.ireturn, 1) := by decide +kernel
theorem nX6_levelAt : zDs yX6_levelAt 2 := ⟨by decide, by decide, by decide +kernel⟩
theorem dX6_levelAt_0 : decode prog_8_method_18_code 0 = .ok (.aload_n 0, 1) := by decide +kernel
theorem dX6_levelAt_1 : decode prog_8_method_18_code 1 = .ok (.getfield 23, 3) := by decide +kernel
theorem dX6_levelAt_4 : decode prog_8_method_18_code 4 = .ok (.getfield 154, 3) := by decide +kernel
theorem dX6_levelAt_7 : decode prog_8_method_18_code 7 = .ok (.iload_n 2, 1) := by decide +kernel
theorem dX6_levelAt_8 : decode prog_8_method_18_code 8 = .ok (.invokestatic 109, 3) := by decide +kernel
theorem dX6_levelAt_11 : decode prog_8_method_18_code 11 = .ok (.aload_n 0, 1) := by decide +kernel
theorem dX6_levelAt_12 : decode prog_8_method_18_code 12 = .ok (.getfield 16, 3) := by decide +kernel
theorem dX6_levelAt_15 : decode prog_8_method_18_code 15 = .ok (.iload_n 1, 1) := by decide +kernel
theorem dX6_levelAt_16 : decode prog_8_method_18_code 16 = .ok (.invokevirtual 157, 3) := by decide +kernel
theorem dX6_levelAt_19 : decode prog_8_method_18_code 19 = .ok (.isub, 1) := by decide +kernel
theorem dX6_levelAt_20 : decode prog_8_method_18_code 20 = .ok (.ireturn, 1) := by decide +kernel
theorem nX6_readingAt : zDs yX6_readingAt 2 := ⟨by decide, by decide, by decide +kernel⟩
theorem dX6_readingAt_0 : decode prog_8_method_19_code 0 = .ok (.aload_n 0, 1) := by decide +kernel
theorem dX6_readingAt_1 : decode prog_8_method_19_code 1 = .ok (.iload_n 1, 1) := by decide +kernel
theorem dX6_readingAt_2 : decode prog_8_method_19_code 2 = .ok (.iload_n 2, 1) := by decide +kernel
theorem dX6_readingAt_3 : decode prog_8_method_19_code 3 = .ok (.invokevirtual 99, 3) := by decide +kernel
theorem dX6_readingAt_6 : decode prog_8_method_19_code 6 = .ok (.aload_n 0, 1) := by decide +kernel
theorem dX6_readingAt_7 : decode prog_8_method_19_code 7 = .ok (.getfield 16, 3) := by decide +kernel
theorem dX6_readingAt_10 : decode prog_8_method_19_code 10 = .ok (.getfield 145, 3) := by decide +kernel
theorem dX6_readingAt_13 : decode prog_8_method_19_code 13 = .ok (.iload_n 1, 1) := by decide +kernel
theorem dX6_readingAt_14 : decode prog_8_method_19_code 14 = .ok (.invokestatic 109, 3) := by decide +kernel
theorem dX6_readingAt_17 : decode prog_8_method_19_code 17 = .ok (.iadd, 1) := by decide +kernel
theorem dX6_readingAt_18 : decode prog_8_method_19_code 18 = .ok (.aload_n 0, 1) := by decide +kernel
theorem dX6_readingAt_19 : decode prog_8_method_19_code 19 = .ok (.getfield 30, 3) := by decide +kernel
theorem dX6_readingAt_22 : decode prog_8_method_19_code 22 = .ok (.aload_n 0, 1) := by decide +kernel
theorem dX6_readingAt_23 : decode prog_8_method_19_code 23 = .ok (.getfield 9, 3) := by decide +kernel
theorem dX6_readingAt_26 : decode prog_8_method_19_code 26 = .ok (.invokevirtual 160, 3) := by decide +kernel
theorem dX6_readingAt_29 : decode prog_8_method_19_code 29 = .ok (.iadd, 1) := by decide +kernel
theorem dX6_readingAt_30 : decode prog_8_method_19_code 30 = .ok (.ireturn, 1) := by decide +kernel
theorem nX6_trueHeight : zDs yX6_trueHeight 2 := ⟨by decide, by decide, by decide +kernel⟩
theorem dX6_trueHeight_0 : decode prog_8_method_20_code 0 = .ok (.aload_n 0, 1) := by decide +kernel
theorem dX6_trueHeight_1 : decode prog_8_method_20_code 1 = .ok (.getfield 44, 3) := by decide +kernel
theorem dX6_trueHeight_4 : decode prog_8_method_20_code 4 = .ok (.iload_n 1, 1) := by decide +kernel
theorem dX6_trueHeight_5 : decode prog_8_method_20_code 5 = .ok (.iload_n 2, 1) := by decide +kernel
theorem dX6_trueHeight_6 : decode prog_8_method_20_code 6 = .ok (.invokevirtual 95, 3) := by decide +kernel
theorem dX6_trueHeight_9 : decode prog_8_method_20_code 9 = .ok (.aload_n 0, 1) := by decide +kernel
theorem dX6_trueHeight_10 : decode prog_8_method_20_code 10 = .ok (.getfield 30, 3) := by decide +kernel
theorem dX6_trueHeight_13 : decode prog_8_method_20_code 13 = .ok (.aload_n 0, 1) := by decide +kernel
theorem dX6_trueHeight_14 : decode prog_8_method_20_code 14 = .ok (.getfield 44, 3) := by decide +kernel
theorem dX6_trueHeight_17 : decode prog_8_method_20_code 17 = .ok (.iload_n 1, 1) := by decide +kernel
theorem dX6_trueHeight_18 : decode prog_8_method_20_code 18 = .ok (.iload_n 2, 1) := by decide +kernel
theorem dX6_trueHeight_19 : decode prog_8_method_20_code 19 = .ok (.invokevirtual 163, 3) := by decide +kernel
theorem dX6_trueHeight_22 : decode prog_8_method_20_code 22 = .ok (.invokevirtual 160, 3) := by decide +kernel
theorem dX6_trueHeight_25 : decode prog_8_method_20_code 25 = .ok (.isub, 1) := by decide +kernel
theorem dX6_trueHeight_26 : decode prog_8_method_20_code 26 = .ok (.ireturn, 1) := by decide +kernel
theorem nX6_areInDoubt : zDs yX6_areInDoubt 3 := ⟨by decide, by decide, by decide +kernel⟩
theorem dX6_areInDoubt_0 : decode prog_8_method_21_code 0 = .ok (.iload_n 2, 1) := by decide +kernel
theorem dX6_areInDoubt_1 : decode prog_8_method_21_code 1 = .ok (.iload_n 3, 1) := by decide +kernel
theorem dX6_areInDoubt_2 : decode prog_8_method_21_code 2 = .ok (.if_icmp .eq 27, 3) := by decide +kernel
theorem dX6_areInDoubt_5 : decode prog_8_method_21_code 5 = .ok (.aload_n 0, 1) := by decide +kernel
theorem dX6_areInDoubt_6 : decode prog_8_method_21_code 6 = .ok (.getfield 44, 3) := by decide +kernel
theorem dX6_areInDoubt_9 : decode prog_8_method_21_code 9 = .ok (.iload_n 1, 1) := by decide +kernel
theorem dX6_areInDoubt_10 : decode prog_8_method_21_code 10 = .ok (.iload_n 2, 1) := by decide +kernel
theorem dX6_areInDoubt_11 : decode prog_8_method_21_code 11 = .ok (.invokevirtual 93, 3) := by decide +kernel
theorem dX6_areInDoubt_14 : decode prog_8_method_21_code 14 = .ok (.ifCond .eq 15, 3) := by decide +kernel
theorem dX6_areInDoubt_17 : decode prog_8_method_21_code 17 = .ok (.aload_n 0, 1) := by decide +kernel
theorem dX6_areInDoubt_18 : decode prog_8_method_21_code 18 = .ok (.getfield 44, 3) := by decide +kernel
theorem dX6_areInDoubt_21 : decode prog_8_method_21_code 21 = .ok (.iload_n 1, 1) := by decide +kernel
theorem dX6_areInDoubt_22 : decode prog_8_method_21_code 22 = .ok (.iload_n 3, 1) := by decide +kernel
theorem dX6_areInDoubt_23 : decode prog_8_method_21_code 23 = .ok (.invokevirtual 93, 3) := by decide +kernel
theorem dX6_areInDoubt_26 : decode prog_8_method_21_code 26 = .ok (.ifCond .ne 5, 3) := by decide +kernel
theorem dX6_areInDoubt_29 : decode prog_8_method_21_code 29 = .ok (.iconst 0, 1) := by decide +kernel
theorem dX6_areInDoubt_30 : decode prog_8_method_21_code 30 = .ok (.ireturn, 1) := by decide +kernel
theorem dX6_areInDoubt_31 : decode prog_8_method_21_code 31 = .ok (.aload_n 0, 1) := by decide +kernel
theorem dX6_areInDoubt_32 : decode prog_8_method_21_code 32 = .ok (.getfield 23, 3) := by decide +kernel
theorem dX6_areInDoubt_35 : decode prog_8_method_21_code 35 = .ok (.getfield 154, 3) := by decide +kernel
theorem dX6_areInDoubt_38 : decode prog_8_method_21_code 38 = .ok (.iload_n 2, 1) := by decide +kernel
theorem dX6_areInDoubt_39 : decode prog_8_method_21_code 39 = .ok (.invokestatic 109, 3) := by decide +kernel
theorem dX6_areInDoubt_42 : decode prog_8_method_21_code 42 = .ok (.aload_n 0, 1) := by decide +kernel
theorem dX6_areInDoubt_43 : decode prog_8_method_21_code 43 = .ok (.getfield 23, 3) := by decide +kernel
theorem dX6_areInDoubt_46 : decode prog_8_method_21_code 46 = .ok (.getfield 154, 3) := by decide +kernel
theorem dX6_areInDoubt_49 : decode prog_8_method_21_code 49 = .ok (.iload_n 3, 1) := by decide +kernel
theorem dX6_areInDoubt_50 : decode prog_8_method_21_code 50 = .ok (.invokestatic 109, 3) := by decide +kernel
theorem dX6_areInDoubt_53 : decode prog_8_method_21_code 53 = .ok (.isub, 1) := by decide +kernel
theorem dX6_areInDoubt_54 : decode prog_8_method_21_code 54 = .ok (.istore 4, 2) := by decide +kernel
theorem dX6_areInDoubt_56 : decode prog_8_method_21_code 56 = .ok (.aload_n 0, 1) := by decide +kernel
theorem dX6_areInDoubt_57 : decode prog_8_method_21_code 57 = .ok (.iload_n 1, 1) := by decide +kernel
theorem dX6_areInDoubt_58 : decode prog_8_method_21_code 58 = .ok (.iload_n 2, 1) := by decide +kernel
theorem dX6_areInDoubt_59 : decode prog_8_method_21_code 59 = .ok (.invokevirtual 166, 3) := by decide +kernel
theorem dX6_areInDoubt_62 : decode prog_8_method_21_code 62 = .ok (.aload_n 0, 1) := by decide +kernel
theorem dX6_areInDoubt_63 : decode prog_8_method_21_code 63 = .ok (.iload_n 1, 1) := by decide +kernel
theorem dX6_areInDoubt_64 : decode prog_8_method_21_code 64 = .ok (.iload_n 3, 1) := by decide +kernel
theorem dX6_areInDoubt_65 : decode prog_8_method_21_code 65 = .ok (.invokevirtual 166, 3) := by decide +kernel
theorem dX6_areInDoubt_68 : decode prog_8_method_21_code 68 = .ok (.isub, 1) := by decide +kernel
theorem dX6_areInDoubt_69 : decode prog_8_method_21_code 69 = .ok (.istore 5, 2) := by decide +kernel
theorem dX6_areInDoubt_71 : decode prog_8_method_21_code 71 = .ok (.iload 4, 2) := by decide +kernel
theorem dX6_areInDoubt_73 : decode prog_8_method_21_code 73 = .ok (.ifCond .ne 14, 3) := by decide +kernel
theorem dX6_areInDoubt_76 : decode prog_8_method_21_code 76 = .ok (.iload 5, 2) := by decide +kernel
theorem dX6_areInDoubt_78 : decode prog_8_method_21_code 78 = .ok (.ifCond .eq 7, 3) := by decide +kernel
theorem dX6_areInDoubt_81 : decode prog_8_method_21_code 81 = .ok (.iconst 1, 1) := by decide +kernel
theorem dX6_areInDoubt_82 : decode prog_8_method_21_code 82 = .ok (.goto 4, 3) := by decide +kernel
theorem dX6_areInDoubt_85 : decode prog_8_method_21_code 85 = .ok (.iconst 0, 1) := by decide +kernel
theorem dX6_areInDoubt_86 : decode prog_8_method_21_code 86 = .ok (.ireturn, 1) := by decide +kernel
theorem dX6_areInDoubt_87 : decode prog_8_method_21_code 87 = .ok (.iload 4, 2) := by decide +kernel
theorem dX6_areInDoubt_89 : decode prog_8_method_21_code 89 = .ok (.ifCond .le 16, 3) := by decide +kernel
theorem dX6_areInDoubt_92 : decode prog_8_method_21_code 92 = .ok (.iload 5, 2) := by decide +kernel
theorem dX6_areInDoubt_94 : decode prog_8_method_21_code 94 = .ok (.ifCond .gt 7, 3) := by decide +kernel
theorem dX6_areInDoubt_97 : decode prog_8_method_21_code 97 = .ok (.iconst 1, 1) := by decide +kernel
theorem dX6_areInDoubt_98 : decode prog_8_method_21_code 98 = .ok (.goto 17, 3) := by decide +kernel
theorem dX6_areInDoubt_101 : decode prog_8_method_21_code 101 = .ok (.iconst 0, 1) := by decide +kernel
theorem dX6_areInDoubt_102 : decode prog_8_method_21_code 102 = .ok (.goto 13, 3) := by decide +kernel
theorem dX6_areInDoubt_105 : decode prog_8_method_21_code 105 = .ok (.iload 5, 2) := by decide +kernel
theorem dX6_areInDoubt_107 : decode prog_8_method_21_code 107 = .ok (.ifCond .lt 7, 3) := by decide +kernel
theorem dX6_areInDoubt_110 : decode prog_8_method_21_code 110 = .ok (.iconst 1, 1) := by decide +kernel
theorem dX6_areInDoubt_111 : decode prog_8_method_21_code 111 = .ok (.goto 4, 3) := by decide +kernel
theorem dX6_areInDoubt_114 : decode prog_8_method_21_code 114 = .ok (.iconst 0, 1) := by decide +kernel
theorem dX6_areInDoubt_115 : decode prog_8_method_21_code 115 = .ok (.ireturn, 1) := by decide +kernel
theorem nX6_doubtsOnStone : zDs yX6_doubtsOnStone 1 := ⟨by decide, by decide, by decide +kernel⟩
theorem dX6_doubtsOnStone_0 : decode prog_8_method_22_code 0 = .ok (.iconst 0, 1) := by decide +kernel
theorem dX6_doubtsOnStone_1 : decode prog_8_method_22_code 1 = .ok (.istore_n 2, 1) := by decide +kernel
theorem dX6_doubtsOnStone_2 : decode prog_8_method_22_code 2 = .ok (.iconst 0, 1) := by decide +kernel
theorem dX6_doubtsOnStone_3 : decode prog_8_method_22_code 3 = .ok (.istore_n 3, 1) := by decide +kernel
theorem dX6_doubtsOnStone_4 : decode prog_8_method_22_code 4 = .ok (.iload_n 3, 1) := by decide +kernel
theorem dX6_doubtsOnStone_5 : decode prog_8_method_22_code 5 = .ok (.aload_n 0, 1) := by decide +kernel
theorem dX6_doubtsOnStone_6 : decode prog_8_method_22_code 6 = .ok (.getfield 23, 3) := by decide +kernel
theorem dX6_doubtsOnStone_9 : decode prog_8_method_22_code 9 = .ok (.getfield 81, 3) := by decide +kernel
theorem dX6_doubtsOnStone_12 : decode prog_8_method_22_code 12 = .ok (.if_icmp .ge 43, 3) := by decide +kernel
theorem dX6_doubtsOnStone_15 : decode prog_8_method_22_code 15 = .ok (.iconst 0, 1) := by decide +kernel
theorem dX6_doubtsOnStone_16 : decode prog_8_method_22_code 16 = .ok (.istore 4, 2) := by decide +kernel
theorem dX6_doubtsOnStone_18 : decode prog_8_method_22_code 18 = .ok (.iload 4, 2) := by decide +kernel
theorem dX6_doubtsOnStone_20 : decode prog_8_method_22_code 20 = .ok (.iload_n 3, 1) := by decide +kernel
theorem dX6_doubtsOnStone_21 : decode prog_8_method_22_code 21 = .ok (.if_icmp .ge 28, 3) := by decide +kernel
theorem dX6_doubtsOnStone_24 : decode prog_8_method_22_code 24 = .ok (.iload_n 2, 1) := by decide +kernel
theorem dX6_doubtsOnStone_25 : decode prog_8_method_22_code 25 = .ok (.aload_n 0, 1) := by decide +kernel
theorem dX6_doubtsOnStone_26 : decode prog_8_method_22_code 26 = .ok (.iload_n 1, 1) := by decide +kernel
theorem dX6_doubtsOnStone_27 : decode prog_8_method_22_code 27 = .ok (.iload_n 3, 1) := by decide +kernel
theorem dX6_doubtsOnStone_28 : decode prog_8_method_22_code 28 = .ok (.iload 4, 2) := by decide +kernel
theorem dX6_doubtsOnStone_30 : decode prog_8_method_22_code 30 = .ok (.invokevirtual 169, 3) := by decide +kernel
theorem dX6_doubtsOnStone_33 : decode prog_8_method_22_code 33 = .ok (.ifCond .eq 7, 3) := by decide +kernel
theorem dX6_doubtsOnStone_36 : decode prog_8_method_22_code 36 = .ok (.iconst 1, 1) := by decide +kernel
theorem dX6_doubtsOnStone_37 : decode prog_8_method_22_code 37 = .ok (.goto 4, 3) := by decide +kernel
theorem dX6_doubtsOnStone_40 : decode prog_8_method_22_code 40 = .ok (.iconst 0, 1) := by decide +kernel
theorem dX6_doubtsOnStone_41 : decode prog_8_method_22_code 41 = .ok (.iadd, 1) := by decide +kernel
theorem dX6_doubtsOnStone_42 : decode prog_8_method_22_code 42 = .ok (.istore_n 2, 1) := by decide +kernel
theorem dX6_doubtsOnStone_43 : decode prog_8_method_22_code 43 = .ok (.iinc 4 1, 3) := by decide +kernel
theorem dX6_doubtsOnStone_46 : decode prog_8_method_22_code 46 = .ok (.goto (-28), 3) := by decide +kernel
theorem dX6_doubtsOnStone_49 : decode prog_8_method_22_code 49 = .ok (.iinc 3 1, 3) := by decide +kernel
theorem dX6_doubtsOnStone_52 : decode prog_8_method_22_code 52 = .ok (.goto (-48), 3) := by decide +kernel
theorem dX6_doubtsOnStone_55 : decode prog_8_method_22_code 55 = .ok (.iload_n 2, 1) := by decide +kernel
theorem dX6_doubtsOnStone_56 : decode prog_8_method_22_code 56 = .ok (.ireturn, 1) := by decide +kernel
theorem nX6_doubtsOfFlood : zDs yX6_doubtsOfFlood 1 := ⟨by decide, by decide, by decide +kernel⟩
theorem dX6_doubtsOfFlood_0 : decode prog_8_method_23_code 0 = .ok (.iconst 0, 1) := by decide +kernel
theorem dX6_doubtsOfFlood_1 : decode prog_8_method_23_code 1 = .ok (.istore_n 2, 1) := by decide +kernel
theorem dX6_doubtsOfFlood_2 : decode prog_8_method_23_code 2 = .ok (.iconst 0, 1) := by decide +kernel
theorem dX6_doubtsOfFlood_3 : decode prog_8_method_23_code 3 = .ok (.istore_n 3, 1) := by decide +kernel
theorem dX6_doubtsOfFlood_4 : decode prog_8_method_23_code 4 = .ok (.iload_n 3, 1) := by decide +kernel
theorem dX6_doubtsOfFlood_5 : decode prog_8_method_23_code 5 = .ok (.aload_n 0, 1) := by decide +kernel
theorem dX6_doubtsOfFlood_6 : decode prog_8_method_23_code 6 = .ok (.getfield 16, 3) := by decide +kernel
theorem dX6_doubtsOfFlood_9 : decode prog_8_method_23_code 9 = .ok (.getfield 74, 3) := by decide +kernel
theorem dX6_doubtsOfFlood_12 : decode prog_8_method_23_code 12 = .ok (.if_icmp .ge 49, 3) := by decide +kernel
theorem dX6_doubtsOfFlood_15 : decode prog_8_method_23_code 15 = .ok (.iconst 0, 1) := by decide +kernel
theorem dX6_doubtsOfFlood_16 : decode prog_8_method_23_code 16 = .ok (.istore 4, 2) := by decide +kernel
theorem dX6_doubtsOfFlood_18 : decode prog_8_method_23_code 18 = .ok (.iload 4, 2) := by decide +kernel
theorem dX6_doubtsOfFlood_20 : decode prog_8_method_23_code 20 = .ok (.aload_n 0, 1) := by decide +kernel
theorem dX6_doubtsOfFlood_21 : decode prog_8_method_23_code 21 = .ok (.getfield 23, 3) := by decide +kernel
theorem dX6_doubtsOfFlood_24 : decode prog_8_method_23_code 24 = .ok (.getfield 81, 3) := by decide +kernel
theorem dX6_doubtsOfFlood_27 : decode prog_8_method_23_code 27 = .ok (.if_icmp .ge 28, 3) := by decide +kernel
theorem dX6_doubtsOfFlood_30 : decode prog_8_method_23_code 30 = .ok (.iload_n 2, 1) := by decide +kernel
theorem dX6_doubtsOfFlood_31 : decode prog_8_method_23_code 31 = .ok (.aload_n 0, 1) := by decide +kernel
theorem dX6_doubtsOfFlood_32 : decode prog_8_method_23_code 32 = .ok (.iload_n 3, 1) := by decide +kernel
theorem dX6_doubtsOfFlood_33 : decode prog_8_method_23_code 33 = .ok (.iload_n 1, 1) := by decide +kernel
theorem dX6_doubtsOfFlood_34 : decode prog_8_method_23_code 34 = .ok (.iload 4, 2) := by decide +kernel
theorem dX6_doubtsOfFlood_36 : decode prog_8_method_23_code 36 = .ok (.invokevirtual 169, 3) := by decide +kernel
theorem dX6_doubtsOfFlood_39 : decode prog_8_method_23_code 39 = .ok (.ifCond .eq 7, 3) := by decide +kernel
theorem dX6_doubtsOfFlood_42 : decode prog_8_method_23_code 42 = .ok (.iconst 1, 1) := by decide +kernel
theorem dX6_doubtsOfFlood_43 : decode prog_8_method_23_code 43 = .ok (.goto 4, 3) := by decide +kernel
theorem dX6_doubtsOfFlood_46 : decode prog_8_method_23_code 46 = .ok (.iconst 0, 1) := by decide +kernel
theorem dX6_doubtsOfFlood_47 : decode prog_8_method_23_code 47 = .ok (.iadd, 1) := by decide +kernel
theorem dX6_doubtsOfFlood_48 : decode prog_8_method_23_code 48 = .ok (.istore_n 2, 1) := by decide +kernel
theorem dX6_doubtsOfFlood_49 : decode prog_8_method_23_code 49 = .ok (.iinc 4 1, 3) := by decide +kernel
theorem dX6_doubtsOfFlood_52 : decode prog_8_method_23_code 52 = .ok (.goto (-34), 3) := by decide +kernel
theorem dX6_doubtsOfFlood_55 : decode prog_8_method_23_code 55 = .ok (.iinc 3 1, 3) := by decide +kernel
theorem dX6_doubtsOfFlood_58 : decode prog_8_method_23_code 58 = .ok (.goto (-54), 3) := by decide +kernel
theorem dX6_doubtsOfFlood_61 : decode prog_8_method_23_code 61 = .ok (.iload_n 2, 1) := by decide +kernel
theorem dX6_doubtsOfFlood_62 : decode prog_8_method_23_code 62 = .ok (.ireturn, 1) := by decide +kernel
theorem nX6_doubtsByStones : zDs yX6_doubtsByStones 0 := ⟨by decide, by decide, by decide +kernel⟩
theorem dX6_doubtsByStones_0 : decode prog_8_method_24_code 0 = .ok (.iconst 0, 1) := by decide +kernel
theorem dX6_doubtsByStones_1 : decode prog_8_method_24_code 1 = .ok (.istore_n 1, 1) := by decide +kernel
theorem dX6_doubtsByStones_2 : decode prog_8_method_24_code 2 = .ok (.iconst 0, 1) := by decide +kernel
theorem dX6_doubtsByStones_3 : decode prog_8_method_24_code 3 = .ok (.istore_n 2, 1) := by decide +kernel
theorem dX6_doubtsByStones_4 : decode prog_8_method_24_code 4 = .ok (.iload_n 2, 1) := by decide +kernel
theorem dX6_doubtsByStones_5 : decode prog_8_method_24_code 5 = .ok (.aload_n 0, 1) := by decide +kernel
theorem dX6_doubtsByStones_6 : decode prog_8_method_24_code 6 = .ok (.getfield 16, 3) := by decide +kernel
theorem dX6_doubtsByStones_9 : decode prog_8_method_24_code 9 = .ok (.getfield 74, 3) := by decide +kernel
theorem dX6_doubtsByStones_12 : decode prog_8_method_24_code 12 = .ok (.if_icmp .ge 17, 3) := by decide +kernel
theorem dX6_doubtsByStones_15 : decode prog_8_method_24_code 15 = .ok (.iload_n 1, 1) := by decide +kernel
theorem dX6_doubtsByStones_16 : decode prog_8_method_24_code 16 = .ok (.aload_n 0, 1) := by decide +kernel
theorem dX6_doubtsByStones_17 : decode prog_8_method_24_code 17 = .ok (.iload_n 2, 1) := by decide +kernel
theorem dX6_doubtsByStones_18 : decode prog_8_method_24_code 18 = .ok (.invokevirtual 172, 3) := by decide +kernel
theorem dX6_doubtsByStones_21 : decode prog_8_method_24_code 21 = .ok (.iadd, 1) := by decide +kernel
theorem dX6_doubtsByStones_22 : decode prog_8_method_24_code 22 = .ok (.istore_n 1, 1) := by decide +kernel
theorem dX6_doubtsByStones_23 : decode prog_8_method_24_code 23 = .ok (.iinc 2 1, 3) := by decide +kernel
theorem dX6_doubtsByStones_26 : decode prog_8_method_24_code 26 = .ok (.goto (-22), 3) := by decide +kernel
theorem dX6_doubtsByStones_29 : decode prog_8_method_24_code 29 = .ok (.iload_n 1, 1) := by decide +kernel
theorem dX6_doubtsByStones_30 : decode prog_8_method_24_code 30 = .ok (.ireturn, 1) := by decide +kernel
theorem nX6_doubtsByFloods : zDs yX6_doubtsByFloods 0 := ⟨by decide, by decide, by decide +kernel⟩
theorem dX6_doubtsByFloods_0 : decode prog_8_method_25_code 0 = .ok (.iconst 0, 1) := by decide +kernel
theorem dX6_doubtsByFloods_1 : decode prog_8_method_25_code 1 = .ok (.istore_n 1, 1) := by decide +kernel
theorem dX6_doubtsByFloods_2 : decode prog_8_method_25_code 2 = .ok (.iconst 0, 1) := by decide +kernel
theorem dX6_doubtsByFloods_3 : decode prog_8_method_25_code 3 = .ok (.istore_n 2, 1) := by decide +kernel
theorem dX6_doubtsByFloods_4 : decode prog_8_method_25_code 4 = .ok (.iload_n 2, 1) := by decide +kernel
theorem dX6_doubtsByFloods_5 : decode prog_8_method_25_code 5 = .ok (.aload_n 0, 1) := by decide +kernel
theorem dX6_doubtsByFloods_6 : decode prog_8_method_25_code 6 = .ok (.getfield 23, 3) := by decide +kernel
theorem dX6_doubtsByFloods_9 : decode prog_8_method_25_code 9 = .ok (.getfield 81, 3) := by decide +kernel
theorem dX6_doubtsByFloods_12 : decode prog_8_method_25_code 12 = .ok (.if_icmp .ge 17, 3) := by decide +kernel
theorem dX6_doubtsByFloods_15 : decode prog_8_method_25_code 15 = .ok (.iload_n 1, 1) := by decide +kernel
theorem dX6_doubtsByFloods_16 : decode prog_8_method_25_code 16 = .ok (.aload_n 0, 1) := by decide +kernel
theorem dX6_doubtsByFloods_17 : decode prog_8_method_25_code 17 = .ok (.iload_n 2, 1) := by decide +kernel
theorem dX6_doubtsByFloods_18 : decode prog_8_method_25_code 18 = .ok (.invokevirtual 175, 3) := by decide +kernel
theorem dX6_doubtsByFloods_21 : decode prog_8_method_25_code 21 = .ok (.iadd, 1) := by decide +kernel
theorem dX6_doubtsByFloods_22 : decode prog_8_method_25_code 22 = .ok (.istore_n 1, 1) := by decide +kernel
theorem dX6_doubtsByFloods_23 : decode prog_8_method_25_code 23 = .ok (.iinc 2 1, 3) := by decide +kernel
theorem dX6_doubtsByFloods_26 : decode prog_8_method_25_code 26 = .ok (.goto (-22), 3) := by decide +kernel
theorem dX6_doubtsByFloods_29 : decode prog_8_method_25_code 29 = .ok (.iload_n 1, 1) := by decide +kernel
theorem dX6_doubtsByFloods_30 : decode prog_8_method_25_code 30 = .ok (.iconst 2, 1) := by decide +kernel
theorem dX6_doubtsByFloods_31 : decode prog_8_method_25_code 31 = .ok (.idiv, 1) := by decide +kernel
theorem dX6_doubtsByFloods_32 : decode prog_8_method_25_code 32 = .ok (.ireturn, 1) := by decide +kernel
theorem nX6_stonesInDoubt : zDs yX6_stonesInDoubt 0 := ⟨by decide, by decide, by decide +kernel⟩
theorem dX6_stonesInDoubt_0 : decode prog_8_method_26_code 0 = .ok (.iconst 0, 1) := by decide +kernel
theorem dX6_stonesInDoubt_1 : decode prog_8_method_26_code 1 = .ok (.istore_n 1, 1) := by decide +kernel
theorem dX6_stonesInDoubt_2 : decode prog_8_method_26_code 2 = .ok (.iconst 0, 1) := by decide +kernel
theorem dX6_stonesInDoubt_3 : decode prog_8_method_26_code 3 = .ok (.istore_n 2, 1) := by decide +kernel
theorem dX6_stonesInDoubt_4 : decode prog_8_method_26_code 4 = .ok (.iload_n 2, 1) := by decide +kernel
theorem dX6_stonesInDoubt_5 : decode prog_8_method_26_code 5 = .ok (.aload_n 0, 1) := by decide +kernel
theorem dX6_stonesInDoubt_6 : decode prog_8_method_26_code 6 = .ok (.getfield 16, 3) := by decide +kernel
theorem dX6_stonesInDoubt_9 : decode prog_8_method_26_code 9 = .ok (.getfield 74, 3) := by decide +kernel
theorem dX6_stonesInDoubt_12 : decode prog_8_method_26_code 12 = .ok (.if_icmp .ge 25, 3) := by decide +kernel
theorem dX6_stonesInDoubt_15 : decode prog_8_method_26_code 15 = .ok (.iload_n 1, 1) := by decide +kernel
theorem dX6_stonesInDoubt_16 : decode prog_8_method_26_code 16 = .ok (.aload_n 0, 1) := by decide +kernel
theorem dX6_stonesInDoubt_17 : decode prog_8_method_26_code 17 = .ok (.iload_n 2, 1) := by decide +kernel
theorem dX6_stonesInDoubt_18 : decode prog_8_method_26_code 18 = .ok (.invokevirtual 172, 3) := by decide +kernel
theorem dX6_stonesInDoubt_21 : decode prog_8_method_26_code 21 = .ok (.ifCond .le 7, 3) := by decide +kernel
theorem dX6_stonesInDoubt_24 : decode prog_8_method_26_code 24 = .ok (.iconst 1, 1) := by decide +kernel
theorem dX6_stonesInDoubt_25 : decode prog_8_method_26_code 25 = .ok (.goto 4, 3) := by decide +kernel
theorem dX6_stonesInDoubt_28 : decode prog_8_method_26_code 28 = .ok (.iconst 0, 1) := by decide +kernel
theorem dX6_stonesInDoubt_29 : decode prog_8_method_26_code 29 = .ok (.iadd, 1) := by decide +kernel
theorem dX6_stonesInDoubt_30 : decode prog_8_method_26_code 30 = .ok (.istore_n 1, 1) := by decide +kernel
theorem dX6_stonesInDoubt_31 : decode prog_8_method_26_code 31 = .ok (.iinc 2 1, 3) := by decide +kernel
theorem dX6_stonesInDoubt_34 : decode prog_8_method_26_code 34 = .ok (.goto (-30), 3) := by decide +kernel
theorem dX6_stonesInDoubt_37 : decode prog_8_method_26_code 37 = .ok (.iload_n 1, 1) := by decide +kernel
theorem dX6_stonesInDoubt_38 : decode prog_8_method_26_code 38 = .ok (.ireturn, 1) := by decide +kernel
theorem nX6_creditOf : zDs yX6_creditOf 1 := ⟨by decide, by decide, by decide +kernel⟩
theorem dX6_creditOf_0 : decode prog_8_method_27_code 0 = .ok (.iconst 0, 1) := by decide +kernel
theorem dX6_creditOf_1 : decode prog_8_method_27_code 1 = .ok (.bipush 10, 2) := by decide +kernel
theorem dX6_creditOf_3 : decode prog_8_method_27_code 3 = .ok (.aload_n 0, 1) := by decide +kernel
theorem dX6_creditOf_4 : decode prog_8_method_27_code 4 = .ok (.getfield 23, 3) := by decide +kernel
theorem dX6_creditOf_7 : decode prog_8_method_27_code 7 = .ok (.getfield 124, 3) := by decide +kernel
theorem dX6_creditOf_10 : decode prog_8_method_27_code 10 = .ok (.iload_n 1, 1) := by decide +kernel
theorem dX6_creditOf_11 : decode prog_8_method_27_code 11 = .ok (.invokestatic 109, 3) := by decide +kernel
theorem dX6_creditOf_14 : decode prog_8_method_27_code 14 = .ok (.imul, 1) := by decide +kernel
theorem dX6_creditOf_15 : decode prog_8_method_27_code 15 = .ok (.iconst 5, 1) := by decide +kernel
theorem dX6_creditOf_16 : decode prog_8_method_27_code 16 = .ok (.aload_n 0, 1) := by decide +kernel
theorem dX6_creditOf_17 : decode prog_8_method_27_code 17 = .ok (.iload_n 1, 1) := by decide +kernel
theorem dX6_creditOf_18 : decode prog_8_method_27_code 18 = .ok (.invokevirtual 175, 3) := by decide +kernel
theorem dX6_creditOf_21 : decode prog_8_method_27_code 21 = .ok (.imul, 1) := by decide +kernel
theorem dX6_creditOf_22 : decode prog_8_method_27_code 22 = .ok (.isub, 1) := by decide +kernel
theorem dX6_creditOf_23 : decode prog_8_method_27_code 23 = .ok (.invokestatic 178, 3) := by decide +kernel
theorem dX6_creditOf_26 : decode prog_8_method_27_code 26 = .ok (.ireturn, 1) := by decide +kernel
theorem nX6_floodAtRank : zDs yX6_floodAtRank 2 := ⟨by decide, by decide, by decide +kernel⟩
theorem dX6_floodAtRank_0 : decode prog_8_method_28_code 0 = .ok (.iconst 0, 1) := by decide +kernel
theorem dX6_floodAtRank_1 : decode prog_8_method_28_code 1 = .ok (.istore_n 3, 1) := by decide +kernel
theorem dX6_floodAtRank_2 : decode prog_8_method_28_code 2 = .ok (.iload_n 3, 1) := by decide +kernel
theorem dX6_floodAtRank_3 : decode prog_8_method_28_code 3 = .ok (.aload_n 0, 1) := by decide +kernel
theorem dX6_floodAtRank_4 : decode prog_8_method_28_code 4 = .ok (.getfield 23, 3) := by decide +kernel
theorem dX6_floodAtRank_7 : decode prog_8_method_28_code 7 = .ok (.getfield 81, 3) := by decide +kernel
theorem dX6_floodAtRank_10 : decode prog_8_method_28_code 10 = .ok (.if_icmp .ge 62, 3) := by decide +kernel
theorem dX6_floodAtRank_13 : decode prog_8_method_28_code 13 = .ok (.iconst 0, 1) := by decide +kernel
theorem dX6_floodAtRank_14 : decode prog_8_method_28_code 14 = .ok (.istore 4, 2) := by decide +kernel
theorem dX6_floodAtRank_16 : decode prog_8_method_28_code 16 = .ok (.iconst 0, 1) := by decide +kernel
theorem dX6_floodAtRank_17 : decode prog_8_method_28_code 17 = .ok (.istore 5, 2) := by decide +kernel
theorem dX6_floodAtRank_19 : decode prog_8_method_28_code 19 = .ok (.iload 5, 2) := by decide +kernel
theorem dX6_floodAtRank_21 : decode prog_8_method_28_code 21 = .ok (.aload_n 0, 1) := by decide +kernel
theorem dX6_floodAtRank_22 : decode prog_8_method_28_code 22 = .ok (.getfield 23, 3) := by decide +kernel
theorem dX6_floodAtRank_25 : decode prog_8_method_28_code 25 = .ok (.getfield 81, 3) := by decide +kernel
theorem dX6_floodAtRank_28 : decode prog_8_method_28_code 28 = .ok (.if_icmp .ge 30, 3) := by decide +kernel
theorem dX6_floodAtRank_31 : decode prog_8_method_28_code 31 = .ok (.iload 4, 2) := by decide +kernel
theorem dX6_floodAtRank_33 : decode prog_8_method_28_code 33 = .ok (.aload_n 0, 1) := by decide +kernel
theorem dX6_floodAtRank_34 : decode prog_8_method_28_code 34 = .ok (.iload 5, 2) := by decide +kernel
theorem dX6_floodAtRank_36 : decode prog_8_method_28_code 36 = .ok (.iload_n 3, 1) := by decide +kernel
theorem dX6_floodAtRank_37 : decode prog_8_method_28_code 37 = .ok (.aload_n 2, 1) := by decide +kernel
theorem dX6_floodAtRank_38 : decode prog_8_method_28_code 38 = .ok (.invokevirtual 183, 3) := by decide +kernel
theorem dX6_floodAtRank_41 : decode prog_8_method_28_code 41 = .ok (.ifCond .eq 7, 3) := by decide +kernel
theorem dX6_floodAtRank_44 : decode prog_8_method_28_code 44 = .ok (.iconst 1, 1) := by decide +kernel
theorem dX6_floodAtRank_45 : decode prog_8_method_28_code 45 = .ok (.goto 4, 3) := by decide +kernel
theorem dX6_floodAtRank_48 : decode prog_8_method_28_code 48 = .ok (.iconst 0, 1) := by decide +kernel
theorem dX6_floodAtRank_49 : decode prog_8_method_28_code 49 = .ok (.iadd, 1) := by decide +kernel
theorem dX6_floodAtRank_50 : decode prog_8_method_28_code 50 = .ok (.istore 4, 2) := by decide +kernel
theorem dX6_floodAtRank_52 : decode prog_8_method_28_code 52 = .ok (.iinc 5 1, 3) := by decide +kernel
theorem dX6_floodAtRank_55 : decode prog_8_method_28_code 55 = .ok (.goto (-36), 3) := by decide +kernel
theorem dX6_floodAtRank_58 : decode prog_8_method_28_code 58 = .ok (.iload 4, 2) := by decide +kernel
theorem dX6_floodAtRank_60 : decode prog_8_method_28_code 60 = .ok (.iload_n 1, 1) := by decide +kernel
theorem dX6_floodAtRank_61 : decode prog_8_method_28_code 61 = .ok (.if_icmp .ne 5, 3) := by decide +kernel
theorem dX6_floodAtRank_64 : decode prog_8_method_28_code 64 = .ok (.iload_n 3, 1) := by decide +kernel
theorem dX6_floodAtRank_65 : decode prog_8_method_28_code 65 = .ok (.ireturn, 1) := by decide +kernel
theorem dX6_floodAtRank_66 : decode prog_8_method_28_code 66 = .ok (.iinc 3 1, 3) := by decide +kernel
theorem dX6_floodAtRank_69 : decode prog_8_method_28_code 69 = .ok (.goto (-67), 3) := by decide +kernel
theorem dX6_floodAtRank_72 : decode prog_8_method_28_code 72 = .ok (.iconst (-1), 1) := by decide +kernel
theorem dX6_floodAtRank_73 : decode prog_8_method_28_code 73 = .ok (.ireturn, 1) := by decide +kernel
theorem nX6_isAhead : zDs yX6_isAhead 3 := ⟨by decide, by decide, by decide +kernel⟩
theorem dX6_isAhead_0 : decode prog_8_method_29_code 0 = .ok (.aload_n 3, 1) := by decide +kernel
theorem dX6_isAhead_1 : decode prog_8_method_29_code 1 = .ok (.iload_n 1, 1) := by decide +kernel
theorem dX6_isAhead_2 : decode prog_8_method_29_code 2 = .ok (.invokestatic 109, 3) := by decide +kernel
theorem dX6_isAhead_5 : decode prog_8_method_29_code 5 = .ok (.aload_n 3, 1) := by decide +kernel
theorem dX6_isAhead_6 : decode prog_8_method_29_code 6 = .ok (.iload_n 2, 1) := by decide +kernel
theorem dX6_isAhead_7 : decode prog_8_method_29_code 7 = .ok (.invokestatic 109, 3) := by decide +kernel
theorem dX6_isAhead_10 : decode prog_8_method_29_code 10 = .ok (.isub, 1) := by decide +kernel
theorem dX6_isAhead_11 : decode prog_8_method_29_code 11 = .ok (.istore 4, 2) := by decide +kernel
theorem dX6_isAhead_13 : decode prog_8_method_29_code 13 = .ok (.iload 4, 2) := by decide +kernel
theorem dX6_isAhead_15 : decode prog_8_method_29_code 15 = .ok (.ifCond .eq 14, 3) := by decide +kernel
theorem dX6_isAhead_18 : decode prog_8_method_29_code 18 = .ok (.iload 4, 2) := by decide +kernel
theorem dX6_isAhead_20 : decode prog_8_method_29_code 20 = .ok (.ifCond .le 7, 3) := by decide +kernel
theorem dX6_isAhead_23 : decode prog_8_method_29_code 23 = .ok (.iconst 1, 1) := by decide +kernel
theorem dX6_isAhead_24 : decode prog_8_method_29_code 24 = .ok (.goto 4, 3) := by decide +kernel
theorem dX6_isAhead_27 : decode prog_8_method_29_code 27 = .ok (.iconst 0, 1) := by decide +kernel
theorem dX6_isAhead_28 : decode prog_8_method_29_code 28 = .ok (.ireturn, 1) := by decide +kernel
theorem dX6_isAhead_29 : decode prog_8_method_29_code 29 = .ok (.aload_n 0, 1) := by decide +kernel
theorem dX6_isAhead_30 : decode prog_8_method_29_code 30 = .ok (.getfield 23, 3) := by decide +kernel
theorem dX6_isAhead_33 : decode prog_8_method_29_code 33 = .ok (.getfield 154, 3) := by decide +kernel
theorem dX6_isAhead_36 : decode prog_8_method_29_code 36 = .ok (.iload_n 1, 1) := by decide +kernel
theorem dX6_isAhead_37 : decode prog_8_method_29_code 37 = .ok (.invokestatic 109, 3) := by decide +kernel
theorem dX6_isAhead_40 : decode prog_8_method_29_code 40 = .ok (.aload_n 0, 1) := by decide +kernel
theorem dX6_isAhead_41 : decode prog_8_method_29_code 41 = .ok (.getfield 23, 3) := by decide +kernel
theorem dX6_isAhead_44 : decode prog_8_method_29_code 44 = .ok (.getfield 154, 3) := by decide +kernel
theorem dX6_isAhead_47 : decode prog_8_method_29_code 47 = .ok (.iload_n 2, 1) := by decide +kernel
theorem dX6_isAhead_48 : decode prog_8_method_29_code 48 = .ok (.invokestatic 109, 3) := by decide +kernel
theorem dX6_isAhead_51 : decode prog_8_method_29_code 51 = .ok (.isub, 1) := by decide +kernel
theorem dX6_isAhead_52 : decode prog_8_method_29_code 52 = .ok (.istore 5, 2) := by decide +kernel
theorem dX6_isAhead_54 : decode prog_8_method_29_code 54 = .ok (.iload 5, 2) := by decide +kernel
theorem dX6_isAhead_56 : decode prog_8_method_29_code 56 = .ok (.ifCond .eq 14, 3) := by decide +kernel
theorem dX6_isAhead_59 : decode prog_8_method_29_code 59 = .ok (.iload 5, 2) := by decide +kernel
theorem dX6_isAhead_61 : decode prog_8_method_29_code 61 = .ok (.ifCond .le 7, 3) := by decide +kernel
theorem dX6_isAhead_64 : decode prog_8_method_29_code 64 = .ok (.iconst 1, 1) := by decide +kernel
theorem dX6_isAhead_65 : decode prog_8_method_29_code 65 = .ok (.goto 4, 3) := by decide +kernel
theorem dX6_isAhead_68 : decode prog_8_method_29_code 68 = .ok (.iconst 0, 1) := by decide +kernel
theorem dX6_isAhead_69 : decode prog_8_method_29_code 69 = .ok (.ireturn, 1) := by decide +kernel
theorem dX6_isAhead_70 : decode prog_8_method_29_code 70 = .ok (.aload_n 0, 1) := by decide +kernel
theorem dX6_isAhead_71 : decode prog_8_method_29_code 71 = .ok (.getfield 23, 3) := by decide +kernel
theorem dX6_isAhead_74 : decode prog_8_method_29_code 74 = .ok (.getfield 187, 3) := by decide +kernel
theorem dX6_isAhead_77 : decode prog_8_method_29_code 77 = .ok (.iload_n 1, 1) := by decide +kernel
theorem dX6_isAhead_78 : decode prog_8_method_29_code 78 = .ok (.invokestatic 109, 3) := by decide +kernel
theorem dX6_isAhead_81 : decode prog_8_method_29_code 81 = .ok (.aload_n 0, 1) := by decide +kernel
theorem dX6_isAhead_82 : decode prog_8_method_29_code 82 = .ok (.getfield 23, 3) := by decide +kernel
theorem dX6_isAhead_85 : decode prog_8_method_29_code 85 = .ok (.getfield 187, 3) := by decide +kernel
theorem dX6_isAhead_88 : decode prog_8_method_29_code 88 = .ok (.iload_n 2, 1) := by decide +kernel
theorem dX6_isAhead_89 : decode prog_8_method_29_code 89 = .ok (.invokestatic 109, 3) := by decide +kernel
theorem dX6_isAhead_92 : decode prog_8_method_29_code 92 = .ok (.if_icmp .ge 7, 3) := by decide +kernel
theorem dX6_isAhead_95 : decode prog_8_method_29_code 95 = .ok (.iconst 1, 1) := by decide +kernel
theorem dX6_isAhead_96 : decode prog_8_method_29_code 96 = .ok (.goto 4, 3) := by decide +kernel
theorem dX6_isAhead_99 : decode prog_8_method_29_code 99 = .ok (.iconst 0, 1) := by decide +kernel
theorem dX6_isAhead_100 : decode prog_8_method_29_code 100 = .ok (.ireturn, 1) := by decide +kernel
theorem nX6_crestsTold : zDs yX6_crestsTold 1 := ⟨by decide, by decide, by decide +kernel⟩
theorem dX6_crestsTold_0 : decode prog_8_method_30_code 0 = .ok (.iconst 0, 1) := by decide +kernel
theorem dX6_crestsTold_1 : decode prog_8_method_30_code 1 = .ok (.istore_n 2, 1) := by decide +kernel
theorem dX6_crestsTold_2 : decode prog_8_method_30_code 2 = .ok (.iconst 0, 1) := by decide +kernel
theorem dX6_crestsTold_3 : decode prog_8_method_30_code 3 = .ok (.istore_n 3, 1) := by decide +kernel
theorem dX6_crestsTold_4 : decode prog_8_method_30_code 4 = .ok (.iload_n 3, 1) := by decide +kernel
theorem dX6_crestsTold_5 : decode prog_8_method_30_code 5 = .ok (.aload_n 0, 1) := by decide +kernel
theorem dX6_crestsTold_6 : decode prog_8_method_30_code 6 = .ok (.getfield 16, 3) := by decide +kernel
theorem dX6_crestsTold_9 : decode prog_8_method_30_code 9 = .ok (.getfield 74, 3) := by decide +kernel
theorem dX6_crestsTold_12 : decode prog_8_method_30_code 12 = .ok (.if_icmp .ge 39, 3) := by decide +kernel
theorem dX6_crestsTold_15 : decode prog_8_method_30_code 15 = .ok (.aload_n 0, 1) := by decide +kernel
theorem dX6_crestsTold_16 : decode prog_8_method_30_code 16 = .ok (.getfield 44, 3) := by decide +kernel
theorem dX6_crestsTold_19 : decode prog_8_method_30_code 19 = .ok (.iload_n 3, 1) := by decide +kernel
theorem dX6_crestsTold_20 : decode prog_8_method_30_code 20 = .ok (.iload_n 1, 1) := by decide +kernel
theorem dX6_crestsTold_21 : decode prog_8_method_30_code 21 = .ok (.invokevirtual 93, 3) := by decide +kernel
theorem dX6_crestsTold_24 : decode prog_8_method_30_code 24 = .ok (.ifCond .eq 21, 3) := by decide +kernel
theorem dX6_crestsTold_27 : decode prog_8_method_30_code 27 = .ok (.iload_n 2, 1) := by decide +kernel
theorem dX6_crestsTold_28 : decode prog_8_method_30_code 28 = .ok (.aload_n 0, 1) := by decide +kernel
theorem dX6_crestsTold_29 : decode prog_8_method_30_code 29 = .ok (.iload_n 3, 1) := by decide +kernel
theorem dX6_crestsTold_30 : decode prog_8_method_30_code 30 = .ok (.iload_n 1, 1) := by decide +kernel
theorem dX6_crestsTold_31 : decode prog_8_method_30_code 31 = .ok (.invokevirtual 166, 3) := by decide +kernel
theorem dX6_crestsTold_34 : decode prog_8_method_30_code 34 = .ok (.aload_n 0, 1) := by decide +kernel
theorem dX6_crestsTold_35 : decode prog_8_method_30_code 35 = .ok (.getfield 16, 3) := by decide +kernel
theorem dX6_crestsTold_38 : decode prog_8_method_30_code 38 = .ok (.iload_n 3, 1) := by decide +kernel
theorem dX6_crestsTold_39 : decode prog_8_method_30_code 39 = .ok (.invokevirtual 157, 3) := by decide +kernel
theorem dX6_crestsTold_42 : decode prog_8_method_30_code 42 = .ok (.iadd, 1) := by decide +kernel
theorem dX6_crestsTold_43 : decode prog_8_method_30_code 43 = .ok (.iadd, 1) := by decide +kernel
theorem dX6_crestsTold_44 : decode prog_8_method_30_code 44 = .ok (.istore_n 2, 1) := by decide +kernel
theorem dX6_crestsTold_45 : decode prog_8_method_30_code 45 = .ok (.iinc 3 1, 3) := by decide +kernel
theorem dX6_crestsTold_48 : decode prog_8_method_30_code 48 = .ok (.goto (-44), 3) := by decide +kernel
theorem dX6_crestsTold_51 : decode prog_8_method_30_code 51 = .ok (.iload_n 2, 1) := by decide +kernel
theorem dX6_crestsTold_52 : decode prog_8_method_30_code 52 = .ok (.ireturn, 1) := by decide +kernel
theorem pnX7 : plainName RX7 = true := by decide +kernel
theorem nX7_at : zDs yX7_at 2 := ⟨by decide, by decide, by decide +kernel⟩
theorem dX7_at_0 : decode prog_9_method_2_code 0 = .ok (.iload_n 1, 1) := by decide +kernel
theorem dX7_at_1 : decode prog_9_method_2_code 1 = .ok (.ifCond .lt 15, 3) := by decide +kernel
theorem dX7_at_4 : decode prog_9_method_2_code 4 = .ok (.iload_n 1, 1) := by decide +kernel
theorem dX7_at_5 : decode prog_9_method_2_code 5 = .ok (.aload_n 0, 1) := by decide +kernel
theorem dX7_at_6 : decode prog_9_method_2_code 6 = .ok (.arraylength, 1) := by decide +kernel
theorem dX7_at_7 : decode prog_9_method_2_code 7 = .ok (.if_icmp .ge 9, 3) := by decide +kernel
theorem dX7_at_10 : decode prog_9_method_2_code 10 = .ok (.aload_n 0, 1) := by decide +kernel
theorem dX7_at_11 : decode prog_9_method_2_code 11 = .ok (.iload_n 1, 1) := by decide +kernel
theorem dX7_at_12 : decode prog_9_method_2_code 12 = .ok (.iaload, 1) := by decide +kernel
theorem dX7_at_13 : decode prog_9_method_2_code 13 = .ok (.goto 4, 3) := by decide +kernel
theorem dX7_at_16 : decode prog_9_method_2_code 16 = .ok (.iconst 0, 1) := by decide +kernel
theorem dX7_at_17 : decode prog_9_method_2_code 17 = .ok (.ireturn, 1) := by decide +kernel
theorem nX7_set : zDs yX7_set 3 := ⟨by decide, by decide, by decide +kernel⟩
theorem dX7_set_0 : decode prog_9_method_3_code 0 = .ok (.iload_n 1, 1) := by decide +kernel
theorem dX7_set_1 : decode prog_9_method_3_code 1 = .ok (.ifCond .lt 13, 3) := by decide +kernel
theorem dX7_set_4 : decode prog_9_method_3_code 4 = .ok (.iload_n 1, 1) := by decide +kernel
theorem dX7_set_5 : decode prog_9_method_3_code 5 = .ok (.aload_n 0, 1) := by decide +kernel
theorem dX7_set_6 : decode prog_9_method_3_code 6 = .ok (.arraylength, 1) := by decide +kernel
theorem dX7_set_7 : decode prog_9_method_3_code 7 = .ok (.if_icmp .ge 7, 3) := by decide +kernel
theorem dX7_set_10 : decode prog_9_method_3_code 10 = .ok (.aload_n 0, 1) := by decide +kernel
theorem dX7_set_11 : decode prog_9_method_3_code 11 = .ok (.iload_n 1, 1) := by decide +kernel
theorem dX7_set_12 : decode prog_9_method_3_code 12 = .ok (.iload_n 2, 1) := by decide +kernel
theorem dX7_set_13 : decode prog_9_method_3_code 13 = .ok (.iastore, 1) := by decide +kernel
theorem dX7_set_14 : decode prog_9_method_3_code 14 = .ok (.return_, 1) := by decide +kernel
theorem nX7_copy : zDs yX7_copy 2 := ⟨by decide, by decide, by decide +kernel⟩
theorem dX7_copy_0 : decode prog_9_method_4_code 0 = .ok (.aload_n 0, 1) := by decide +kernel
theorem dX7_copy_1 : decode prog_9_method_4_code 1 = .ok (.iconst 0, 1) := by decide +kernel
theorem dX7_copy_2 : decode prog_9_method_4_code 2 = .ok (.aload_n 1, 1) := by decide +kernel
theorem dX7_copy_3 : decode prog_9_method_4_code 3 = .ok (.iconst 0, 1) := by decide +kernel
theorem dX7_copy_4 : decode prog_9_method_4_code 4 = .ok (.aload_n 0, 1) := by decide +kernel
theorem dX7_copy_5 : decode prog_9_method_4_code 5 = .ok (.arraylength, 1) := by decide +kernel
theorem dX7_copy_6 : decode prog_9_method_4_code 6 = .ok (.aload_n 1, 1) := by decide +kernel
theorem dX7_copy_7 : decode prog_9_method_4_code 7 = .ok (.arraylength, 1) := by decide +kernel
theorem dX7_copy_8 : decode prog_9_method_4_code 8 = .ok (.invokestatic 7, 3) := by decide +kernel
theorem dX7_copy_11 : decode prog_9_method_4_code 11 = .ok (.invokestatic 13, 3) := by decide +kernel
theorem dX7_copy_14 : decode prog_9_method_4_code 14 = .ok (.return_, 1) := by decide +kernel
theorem pnX8 : plainName RX8 = true := by decide +kernel
theorem nX8_init : zDs yX8_init 0 := ⟨by decide, by decide, by decide +kernel⟩
theorem dX8_init_0 : decode prog_10_method_1_code 0 = .ok (.aload_n 0, 1) := by decide +kernel
theorem dX8_init_1 : decode prog_10_method_1_code 1 = .ok (.invokespecial 1, 3) := by decide +kernel
theorem dX8_init_4 : decode prog_10_method_1_code 4 = .ok (.aload_n 0, 1) := by decide +kernel
theorem dX8_init_5 : decode prog_10_method_1_code 5 = .ok (.iconst 0, 1) := by decide +kernel
theorem dX8_init_6 : decode prog_10_method_1_code 6 = .ok (.putfield 7, 3) := by decide +kernel
theorem dX8_init_9 : decode prog_10_method_1_code 9 = .ok (.aload_n 0, 1) := by decide +kernel
theorem dX8_init_10 : decode prog_10_method_1_code 10 = .ok (.bipush 6, 2) := by decide +kernel
theorem dX8_init_12 : decode prog_10_method_1_code 12 = .ok (.newarray .int, 2) := by decide +kernel
theorem dX8_init_14 : decode prog_10_method_1_code 14 = .ok (.putfield 13, 3) := by decide +kernel
theorem dX8_init_17 : decode prog_10_method_1_code 17 = .ok (.aload_n 0, 1) := by decide +kernel
theorem dX8_init_18 : decode prog_10_method_1_code 18 = .ok (.bipush 6, 2) := by decide +kernel
theorem dX8_init_20 : decode prog_10_method_1_code 20 = .ok (.newarray .int, 2) := by decide +kernel
theorem dX8_init_22 : decode prog_10_method_1_code 22 = .ok (.putfield 17, 3) := by decide +kernel
theorem dX8_init_25 : decode prog_10_method_1_code 25 = .ok (.aload_n 0, 1) := by decide +kernel
theorem dX8_init_26 : decode prog_10_method_1_code 26 = .ok (.bipush 6, 2) := by decide +kernel
theorem dX8_init_28 : decode prog_10_method_1_code 28 = .ok (.newarray .int, 2) := by decide +kernel
theorem dX8_init_30 : decode prog_10_method_1_code 30 = .ok (.putfield 20, 3) := by decide +kernel
theorem dX8_init_33 : decode prog_10_method_1_code 33 = .ok (.aload_n 0, 1) := by decide +kernel
theorem dX8_init_34 : decode prog_10_method_1_code 34 = .ok (.bipush 6, 2) := by decide +kernel
theorem dX8_init_36 : decode prog_10_method_1_code 36 = .ok (.newarray .int, 2) := by decide +kernel
theorem dX8_init_38 : decode prog_10_method_1_code 38 = .ok (.putfield 23, 3) := by decide +kernel
theorem dX8_init_41 : decode prog_10_method_1_code 41 = .ok (.return_, 1) := by decide +kernel
theorem nX8_copyFrom : zDs yX8_copyFrom 1 := ⟨by decide, by decide, by decide +kernel⟩
theorem dX8_copyFrom_0 : decode prog_10_method_2_code 0 = .ok (.aload_n 0, 1) := by decide +kernel
theorem dX8_copyFrom_1 : decode prog_10_method_2_code 1 = .ok (.aload_n 1, 1) := by decide +kernel
theorem dX8_copyFrom_2 : decode prog_10_method_2_code 2 = .ok (.getfield 7, 3) := by decide +kernel
theorem dX8_copyFrom_5 : decode prog_10_method_2_code 5 = .ok (.putfield 7, 3) := by decide +kernel
theorem dX8_copyFrom_8 : decode prog_10_method_2_code 8 = .ok (.aload_n 1, 1) := by decide +kernel
theorem dX8_copyFrom_9 : decode prog_10_method_2_code 9 = .ok (.getfield 13, 3) := by decide +kernel
theorem dX8_copyFrom_12 : decode prog_10_method_2_code 12 = .ok (.aload_n 0, 1) := by decide +kernel
theorem dX8_copyFrom_13 : decode prog_10_method_2_code 13 = .ok (.getfield 13, 3) := by decide +kernel
theorem dX8_copyFrom_16 : decode prog_10_method_2_code 16 = .ok (.invokestatic 26, 3) := by decide +kernel
theorem dX8_copyFrom_19 : decode prog_10_method_2_code 19 = .ok (.aload_n 1, 1) := by decide +kernel
theorem dX8_copyFrom_20 : decode prog_10_method_2_code 20 = .ok (.getfield 17, 3) := by decide +kernel
theorem dX8_copyFrom_23 : decode prog_10_method_2_code 23 = .ok (.aload_n 0, 1) := by decide +kernel
theorem dX8_copyFrom_24 : decode prog_10_method_2_code 24 = .ok (.getfield 17, 3) := by decide +kernel
theorem dX8_copyFrom_27 : decode prog_10_method_2_code 27 = .ok (.invokestatic 26, 3) := by decide +kernel
theorem dX8_copyFrom_30 : decode prog_10_method_2_code 30 = .ok (.aload_n 1, 1) := by decide +kernel
theorem dX8_copyFrom_31 : decode prog_10_method_2_code 31 = .ok (.getfield 20, 3) := by decide +kernel
theorem dX8_copyFrom_34 : decode prog_10_method_2_code 34 = .ok (.aload_n 0, 1) := by decide +kernel
theorem dX8_copyFrom_35 : decode prog_10_method_2_code 35 = .ok (.getfield 20, 3) := by decide +kernel
theorem dX8_copyFrom_38 : decode prog_10_method_2_code 38 = .ok (.invokestatic 26, 3) := by decide +kernel
theorem dX8_copyFrom_41 : decode prog_10_method_2_code 41 = .ok (.aload_n 1, 1) := by decide +kernel
theorem dX8_copyFrom_42 : decode prog_10_method_2_code 42 = .ok (.getfield 23, 3) := by decide +kernel
theorem dX8_copyFrom_45 : decode prog_10_method_2_code 45 = .ok (.aload_n 0, 1) := by decide +kernel
theorem dX8_copyFrom_46 : decode prog_10_method_2_code 46 = .ok (.getfield 23, 3) := by decide +kernel
theorem dX8_copyFrom_49 : decode prog_10_method_2_code 49 = .ok (.invokestatic 26, 3) := by decide +kernel
theorem dX8_copyFrom_52 : decode prog_10_method_2_code 52 = .ok (.return_, 1) := by decide +kernel
theorem nX8_has : zDs yX8_has 1 := ⟨by decide, by decide, by decide +kernel⟩
theorem dX8_has_0 : decode prog_10_method_3_code 0 = .ok (.iload_n 1, 1) := by decide +kernel
theorem dX8_has_1 : decode prog_10_method_3_code 1 = .ok (.ifCond .lt 15, 3) := by decide +kernel
theorem dX8_has_4 : decode prog_10_method_3_code 4 = .ok (.iload_n 1, 1) := by decide +kernel
theorem dX8_has_5 : decode prog_10_method_3_code 5 = .ok (.aload_n 0, 1) := by decide +kernel
theorem dX8_has_6 : decode prog_10_method_3_code 6 = .ok (.getfield 7, 3) := by decide +kernel
theorem dX8_has_9 : decode prog_10_method_3_code 9 = .ok (.if_icmp .ge 7, 3) := by decide +kernel
theorem dX8_has_12 : decode prog_10_method_3_code 12 = .ok (.iconst 1, 1) := by decide +kernel
theorem dX8_has_13 : decode prog_10_method_3_code 13 = .ok (.goto 4, 3) := by decide +kernel
theorem dX8_has_16 : decode prog_10_method_3_code 16 = .ok (.iconst 0, 1) := by decide +kernel
theorem dX8_has_17 : decode prog_10_method_3_code 17 = .ok (.ireturn, 1) := by decide +kernel
theorem nX8_add : zDs yX8_add 3 := ⟨by decide, by decide, by decide +kernel⟩
theorem dX8_add_0 : decode prog_10_method_4_code 0 = .ok (.aload_n 0, 1) := by decide +kernel
theorem dX8_add_1 : decode prog_10_method_4_code 1 = .ok (.getfield 7, 3) := by decide +kernel
theorem dX8_add_4 : decode prog_10_method_4_code 4 = .ok (.istore 4, 2) := by decide +kernel
theorem dX8_add_6 : decode prog_10_method_4_code 6 = .ok (.aload_n 0, 1) := by decide +kernel
theorem dX8_add_7 : decode prog_10_method_4_code 7 = .ok (.getfield 13, 3) := by decide +kernel
theorem dX8_add_10 : decode prog_10_method_4_code 10 = .ok (.iload 4, 2) := by decide +kernel
theorem dX8_add_12 : decode prog_10_method_4_code 12 = .ok (.iload_n 1, 1) := by decide +kernel
theorem dX8_add_13 : decode prog_10_method_4_code 13 = .ok (.invokestatic 32, 3) := by decide +kernel
theorem dX8_add_16 : decode prog_10_method_4_code 16 = .ok (.aload_n 0, 1) := by decide +kernel
theorem dX8_add_17 : decode prog_10_method_4_code 17 = .ok (.getfield 17, 3) := by decide +kernel
theorem dX8_add_20 : decode prog_10_method_4_code 20 = .ok (.iload 4, 2) := by decide +kernel
theorem dX8_add_22 : decode prog_10_method_4_code 22 = .ok (.iload_n 2, 1) := by decide +kernel
theorem dX8_add_23 : decode prog_10_method_4_code 23 = .ok (.invokestatic 32, 3) := by decide +kernel
theorem dX8_add_26 : decode prog_10_method_4_code 26 = .ok (.aload_n 0, 1) := by decide +kernel
theorem dX8_add_27 : decode prog_10_method_4_code 27 = .ok (.getfield 20, 3) := by decide +kernel
theorem dX8_add_30 : decode prog_10_method_4_code 30 = .ok (.iload 4, 2) := by decide +kernel
theorem dX8_add_32 : decode prog_10_method_4_code 32 = .ok (.iload_n 3, 1) := by decide +kernel
theorem dX8_add_33 : decode prog_10_method_4_code 33 = .ok (.invokestatic 32, 3) := by decide +kernel
theorem dX8_add_36 : decode prog_10_method_4_code 36 = .ok (.aload_n 0, 1) := by decide +kernel
theorem dX8_add_37 : decode prog_10_method_4_code 37 = .ok (.getfield 23, 3) := by decide +kernel
theorem dX8_add_40 : decode prog_10_method_4_code 40 = .ok (.iload 4, 2) := by decide +kernel
theorem dX8_add_42 : decode prog_10_method_4_code 42 = .ok (.iconst 0, 1) := by decide +kernel
theorem dX8_add_43 : decode prog_10_method_4_code 43 = .ok (.invokestatic 32, 3) := by decide +kernel
theorem dX8_add_46 : decode prog_10_method_4_code 46 = .ok (.aload_n 0, 1) := by decide +kernel
theorem dX8_add_47 : decode prog_10_method_4_code 47 = .ok (.iload 4, 2) := by decide +kernel
theorem dX8_add_49 : decode prog_10_method_4_code 49 = .ok (.iconst 1, 1) := by decide +kernel
theorem dX8_add_50 : decode prog_10_method_4_code 50 = .ok (.iadd, 1) := by decide +kernel
theorem dX8_add_51 : decode prog_10_method_4_code 51 = .ok (.putfield 7, 3) := by decide +kernel
theorem dX8_add_54 : decode prog_10_method_4_code 54 = .ok (.iload 4, 2) := by decide +kernel
theorem dX8_add_56 : decode prog_10_method_4_code 56 = .ok (.ireturn, 1) := by decide +kernel
theorem nX8_setRight : zDs yX8_setRight 1 := ⟨by decide, by decide, by decide +kernel⟩
theorem dX8_setRight_0 : decode prog_10_method_5_code 0 = .ok (.aload_n 0, 1) := by decide +kernel
theorem dX8_setRight_1 : decode prog_10_method_5_code 1 = .ok (.getfield 23, 3) := by decide +kernel
theorem dX8_setRight_4 : decode prog_10_method_5_code 4 = .ok (.iload_n 1, 1) := by decide +kernel
theorem dX8_setRight_5 : decode prog_10_method_5_code 5 = .ok (.invokestatic 36, 3) := by decide +kernel
theorem dX8_setRight_8 : decode prog_10_method_5_code 8 = .ok (.istore_n 2, 1) := by decide +kernel
theorem dX8_setRight_9 : decode prog_10_method_5_code 9 = .ok (.aload_n 0, 1) := by decide +kernel
theorem dX8_setRight_10 : decode prog_10_method_5_code 10 = .ok (.getfield 23, 3) := by decide +kernel
theorem dX8_setRight_13 : decode prog_10_method_5_code 13 = .ok (.iload_n 1, 1) := by decide +kernel
theorem dX8_setRight_14 : decode prog_10_method_5_code 14 = .ok (.iconst 0, 1) := by decide +kernel
theorem dX8_setRight_15 : decode prog_10_method_5_code 15 = .ok (.invokestatic 32, 3) := by decide +kernel
theorem dX8_setRight_18 : decode prog_10_method_5_code 18 = .ok (.iload_n 2, 1) := by decide +kernel
theorem dX8_setRight_19 : decode prog_10_method_5_code 19 = .ok (.ireturn, 1) := by decide +kernel
theorem nX8_driftAll : zDs yX8_driftAll 0 := ⟨by decide, by decide, by decide +kernel⟩
theorem dX8_driftAll_0 : decode prog_10_method_6_code 0 = .ok (.iconst 0, 1) := by decide +kernel
theorem dX8_driftAll_1 : decode prog_10_method_6_code 1 = .ok (.istore_n 1, 1) := by decide +kernel
theorem dX8_driftAll_2 : decode prog_10_method_6_code 2 = .ok (.iload_n 1, 1) := by decide +kernel
theorem dX8_driftAll_3 : decode prog_10_method_6_code 3 = .ok (.aload_n 0, 1) := by decide +kernel
theorem dX8_driftAll_4 : decode prog_10_method_6_code 4 = .ok (.getfield 7, 3) := by decide +kernel
theorem dX8_driftAll_7 : decode prog_10_method_6_code 7 = .ok (.if_icmp .ge 28, 3) := by decide +kernel
theorem dX8_driftAll_10 : decode prog_10_method_6_code 10 = .ok (.aload_n 0, 1) := by decide +kernel
theorem dX8_driftAll_11 : decode prog_10_method_6_code 11 = .ok (.getfield 23, 3) := by decide +kernel
theorem dX8_driftAll_14 : decode prog_10_method_6_code 14 = .ok (.iload_n 1, 1) := by decide +kernel
theorem dX8_driftAll_15 : decode prog_10_method_6_code 15 = .ok (.aload_n 0, 1) := by decide +kernel
theorem dX8_driftAll_16 : decode prog_10_method_6_code 16 = .ok (.getfield 23, 3) := by decide +kernel
theorem dX8_driftAll_19 : decode prog_10_method_6_code 19 = .ok (.iload_n 1, 1) := by decide +kernel
theorem dX8_driftAll_20 : decode prog_10_method_6_code 20 = .ok (.invokestatic 36, 3) := by decide +kernel
theorem dX8_driftAll_23 : decode prog_10_method_6_code 23 = .ok (.invokestatic 40, 3) := by decide +kernel
theorem dX8_driftAll_26 : decode prog_10_method_6_code 26 = .ok (.invokestatic 32, 3) := by decide +kernel
theorem dX8_driftAll_29 : decode prog_10_method_6_code 29 = .ok (.iinc 1 1, 3) := by decide +kernel
theorem dX8_driftAll_32 : decode prog_10_method_6_code 32 = .ok (.goto (-30), 3) := by decide +kernel
theorem dX8_driftAll_35 : decode prog_10_method_6_code 35 = .ok (.return_, 1) := by decide +kernel
theorem nX8_drift : zDs yX8_drift 1 := ⟨by decide, by decide, by decide +kernel⟩
theorem dX8_drift_0 : decode prog_10_method_7_code 0 = .ok (.iload_n 0, 1) := by decide +kernel
theorem dX8_drift_1 : decode prog_10_method_7_code 1 = .ok (.ifCond .lt 14, 3) := by decide +kernel
theorem dX8_drift_4 : decode prog_10_method_7_code 4 = .ok (.iload_n 0, 1) := by decide +kernel
theorem dX8_drift_5 : decode prog_10_method_7_code 5 = .ok (.iconst 1, 1) := by decide +kernel
theorem dX8_drift_6 : decode prog_10_method_7_code 6 = .ok (.iadd, 1) := by decide +kernel
theorem dX8_drift_7 : decode prog_10_method_7_code 7 = .ok (.bipush 9, 2) := by decide +kernel
theorem dX8_drift_9 : decode prog_10_method_7_code 9 = .ok (.invokestatic 44, 3) := by decide +kernel
theorem dX8_drift_12 : decode prog_10_method_7_code 12 = .ok (.goto 11, 3) := by decide +kernel
theorem dX8_drift_15 : decode prog_10_method_7_code 15 = .ok (.iload_n 0, 1) := by decide +kernel
theorem dX8_drift_16 : decode prog_10_method_7_code 16 = .ok (.iconst 1, 1) := by decide +kernel
theorem dX8_drift_17 : decode prog_10_method_7_code 17 = .ok (.isub, 1) := by decide +kernel
theorem dX8_drift_18 : decode prog_10_method_7_code 18 = .ok (.bipush (-9), 2) := by decide +kernel
theorem dX8_drift_20 : decode prog_10_method_7_code 20 = .ok (.invokestatic 50, 3) := by decide +kernel
theorem dX8_drift_23 : decode prog_10_method_7_code 23 = .ok (.ireturn, 1) := by decide +kernel
theorem nX8_loss : zDs yX8_loss 1 := ⟨by decide, by decide, by decide +kernel⟩
theorem dX8_loss_0 : decode prog_10_method_8_code 0 = .ok (.aload_n 0, 1) := by decide +kernel
theorem dX8_loss_1 : decode prog_10_method_8_code 1 = .ok (.getfield 13, 3) := by decide +kernel
theorem dX8_loss_4 : decode prog_10_method_8_code 4 = .ok (.iload_n 1, 1) := by decide +kernel
theorem dX8_loss_5 : decode prog_10_method_8_code 5 = .ok (.invokestatic 36, 3) := by decide +kernel
theorem dX8_loss_8 : decode prog_10_method_8_code 8 = .ok (.iconst 5, 1) := by decide +kernel
theorem dX8_loss_9 : decode prog_10_method_8_code 9 = .ok (.idiv, 1) := by decide +kernel
theorem dX8_loss_10 : decode prog_10_method_8_code 10 = .ok (.aload_n 0, 1) := by decide +kernel
theorem dX8_loss_11 : decode prog_10_method_8_code 11 = .ok (.getfield 17, 3) := by decide +kernel
theorem dX8_loss_14 : decode prog_10_method_8_code 14 = .ok (.iload_n 1, 1) := by decide +kernel
theorem dX8_loss_15 : decode prog_10_method_8_code 15 = .ok (.invokestatic 36, 3) := by decide +kernel
theorem dX8_loss_18 : decode prog_10_method_8_code 18 = .ok (.iadd, 1) := by decide +kernel
theorem dX8_loss_19 : decode prog_10_method_8_code 19 = .ok (.ireturn, 1) := by decide +kernel
theorem pnX9 : plainName RX9 = true := by decide +kernel
theorem nX9_init : zDs yX9_init 0 := ⟨by decide, by decide, by decide +kernel⟩
theorem dX9_init_0 : decode prog_11_method_1_code 0 = .ok (.aload_n 0, 1) := by decide +kernel
theorem dX9_init_1 : decode prog_11_method_1_code 1 = .ok (.invokespecial 1, 3) := by decide +kernel
theorem dX9_init_4 : decode prog_11_method_1_code 4 = .ok (.aload_n 0, 1) := by decide +kernel
theorem dX9_init_5 : decode prog_11_method_1_code 5 = .ok (.bipush 60, 2) := by decide +kernel
theorem dX9_init_7 : decode prog_11_method_1_code 7 = .ok (.newarray .char, 2) := by decide +kernel
theorem dX9_init_9 : decode prog_11_method_1_code 9 = .ok (.putfield 9, 3) := by decide +kernel
theorem dX9_init_12 : decode prog_11_method_1_code 12 = .ok (.aload_n 0, 1) := by decide +kernel
theorem dX9_init_13 : decode prog_11_method_1_code 13 = .ok (.iconst 0, 1) := by decide +kernel
theorem dX9_init_14 : decode prog_11_method_1_code 14 = .ok (.putfield 13, 3) := by decide +kernel
theorem dX9_init_17 : decode prog_11_method_1_code 17 = .ok (.aload_n 0, 1) := by decide +kernel
theorem dX9_init_18 : decode prog_11_method_1_code 18 = .ok (.bipush 60, 2) := by decide +kernel
theorem dX9_init_20 : decode prog_11_method_1_code 20 = .ok (.newarray .int, 2) := by decide +kernel
theorem dX9_init_22 : decode prog_11_method_1_code 22 = .ok (.putfield 17, 3) := by decide +kernel
theorem dX9_init_25 : decode prog_11_method_1_code 25 = .ok (.aload_n 0, 1) := by decide +kernel
theorem dX9_init_26 : decode prog_11_method_1_code 26 = .ok (.sipush 180, 3) := by decide +kernel
theorem dX9_init_29 : decode prog_11_method_1_code 29 = .ok (.newarray .int, 2) := by decide +kernel
theorem dX9_init_31 : decode prog_11_method_1_code 31 = .ok (.putfield 21, 3) := by decide +kernel
theorem dX9_init_34 : decode prog_11_method_1_code 34 = .ok (.aload_n 0, 1) := by decide +kernel
theorem dX9_init_35 : decode prog_11_method_1_code 35 = .ok (.iconst 0, 1) := by decide +kernel
theorem dX9_init_36 : decode prog_11_method_1_code 36 = .ok (.putfield 24, 3) := by decide +kernel
theorem dX9_init_39 : decode prog_11_method_1_code 39 = .ok (.aload_n 0, 1) := by decide +kernel
theorem dX9_init_40 : decode prog_11_method_1_code 40 = .ok (.iconst 0, 1) := by decide +kernel
theorem dX9_init_41 : decode prog_11_method_1_code 41 = .ok (.putfield 27, 3) := by decide +kernel
theorem dX9_init_44 : decode prog_11_method_1_code 44 = .ok (.return_, 1) := by decide +kernel
theorem nX9_isFull : zDs yX9_isFull 0 := ⟨by decide, by decide, by decide +kernel⟩
theorem dX9_isFull_0 : decode prog_11_method_2_code 0 = .ok (.aload_n 0, 1) := by decide +kernel
theorem dX9_isFull_1 : decode prog_11_method_2_code 1 = .ok (.getfield 13, 3) := by decide +kernel
theorem dX9_isFull_4 : decode prog_11_method_2_code 4 = .ok (.bipush 60, 2) := by decide +kernel
theorem dX9_isFull_6 : decode prog_11_method_2_code 6 = .ok (.if_icmp .lt 7, 3) := by decide +kernel
theorem dX9_isFull_9 : decode prog_11_method_2_code 9 = .ok (.iconst 1, 1) := by decide +kernel
theorem dX9_isFull_10 : decode prog_11_method_2_code 10 = .ok (.goto 4, 3) := by decide +kernel
theorem dX9_isFull_13 : decode prog_11_method_2_code 13 = .ok (.iconst 0, 1) := by decide +kernel
theorem dX9_isFull_14 : decode prog_11_method_2_code 14 = .ok (.ireturn, 1) := by decide +kernel
theorem nX9_put : zDs yX9_put 1 := ⟨by decide, by decide, by decide +kernel⟩
theorem dX9_put_0 : decode prog_11_method_3_code 0 = .ok (.aload_n 0, 1) := by decide +kernel
theorem dX9_put_1 : decode prog_11_method_3_code 1 = .ok (.getfield 13, 3) := by decide +kernel
theorem dX9_put_4 : decode prog_11_method_3_code 4 = .ok (.ifCond .lt 35, 3) := by decide +kernel
theorem dX9_put_7 : decode prog_11_method_3_code 7 = .ok (.aload_n 0, 1) := by decide +kernel
theorem dX9_put_8 : decode prog_11_method_3_code 8 = .ok (.getfield 13, 3) := by decide +kernel
theorem dX9_put_11 : decode prog_11_method_3_code 11 = .ok (.aload_n 0, 1) := by decide +kernel
theorem dX9_put_12 : decode prog_11_method_3_code 12 = .ok (.getfield 9, 3) := by decide +kernel
theorem dX9_put_15 : decode prog_11_method_3_code 15 = .ok (.arraylength, 1) := by decide +kernel
theorem dX9_put_16 : decode prog_11_method_3_code 16 = .ok (.if_icmp .ge 23, 3) := by decide +kernel
theorem dX9_put_19 : decode prog_11_method_3_code 19 = .ok (.aload_n 0, 1) := by decide +kernel
theorem dX9_put_20 : decode prog_11_method_3_code 20 = .ok (.getfield 9, 3) := by decide +kernel
theorem dX9_put_23 : decode prog_11_method_3_code 23 = .ok (.aload_n 0, 1) := by decide +kernel
theorem dX9_put_24 : decode prog_11_method_3_code 24 = .ok (.getfield 13, 3) := by decide +kernel
theorem dX9_put_27 : decode prog_11_method_3_code 27 = .ok (.iload_n 1, 1) := by decide +kernel
theorem dX9_put_28 : decode prog_11_method_3_code 28 = .ok (.castore, 1) := by decide +kernel
theorem dX9_put_29 : decode prog_11_method_3_code 29 = .ok (.aload_n 0, 1) := by decide +kernel
theorem dX9_put_30 : decode prog_11_method_3_code 30 = .ok (.dup, 1) := by decide +kernel
theorem dX9_put_31 : decode prog_11_method_3_code 31 = .ok (.getfield 13, 3) := by decide +kernel
theorem dX9_put_34 : decode prog_11_method_3_code 34 = .ok (.iconst 1, 1) := by decide +kernel
theorem dX9_put_35 : decode prog_11_method_3_code 35 = .ok (.iadd, 1) := by decide +kernel
theorem dX9_put_36 : decode prog_11_method_3_code 36 = .ok (.putfield 13, 3) := by decide +kernel
theorem dX9_put_39 : decode prog_11_method_3_code 39 = .ok (.aload_n 0, 1) := by decide +kernel
theorem dX9_put_40 : decode prog_11_method_3_code 40 = .ok (.getfield 13, 3) := by decide +kernel
theorem dX9_put_43 : decode prog_11_method_3_code 43 = .ok (.ireturn, 1) := by decide +kernel
theorem nX9_empty : zDs yX9_empty 0 := ⟨by decide, by decide, by decide +kernel⟩
theorem dX9_empty_0 : decode prog_11_method_4_code 0 = .ok (.aload_n 0, 1) := by decide +kernel
theorem dX9_empty_1 : decode prog_11_method_4_code 1 = .ok (.iconst 0, 1) := by decide +kernel
theorem dX9_empty_2 : decode prog_11_method_4_code 2 = .ok (.putfield 13, 3) := by decide +kernel
theorem dX9_empty_5 : decode prog_11_method_4_code 5 = .ok (.return_, 1) := by decide +kernel
theorem nX9_kindOf : zDs yX9_kindOf 1 := ⟨by decide, by decide, by decide +kernel⟩
theorem dX9_kindOf_0 : decode prog_11_method_5_code 0 = .ok (.aload_n 0, 1) := by decide +kernel
theorem dX9_kindOf_1 : decode prog_11_method_5_code 1 = .ok (.getfield 17, 3) := by decide +kernel
theorem dX9_kindOf_4 : decode prog_11_method_5_code 4 = .ok (.iload_n 1, 1) := by decide +kernel
theorem dX9_kindOf_5 : decode prog_11_method_5_code 5 = .ok (.invokestatic 30, 3) := by decide +kernel
theorem dX9_kindOf_8 : decode prog_11_method_5_code 8 = .ok (.ireturn, 1) := by decide +kernel
theorem nX9_numberOf : zDs yX9_numberOf 2 := ⟨by decide, by decide, by decide +kernel⟩
theorem dX9_numberOf_0 : decode prog_11_method_6_code 0 = .ok (.aload_n 0, 1) := by decide +kernel
theorem dX9_numberOf_1 : decode prog_11_method_6_code 1 = .ok (.getfield 21, 3) := by decide +kernel
theorem dX9_numberOf_4 : decode prog_11_method_6_code 4 = .ok (.iload_n 1, 1) := by decide +kernel
theorem dX9_numberOf_5 : decode prog_11_method_6_code 5 = .ok (.iconst 3, 1) := by decide +kernel
theorem dX9_numberOf_6 : decode prog_11_method_6_code 6 = .ok (.imul, 1) := by decide +kernel
theorem dX9_numberOf_7 : decode prog_11_method_6_code 7 = .ok (.iload_n 2, 1) := by decide +kernel
theorem dX9_numberOf_8 : decode prog_11_method_6_code 8 = .ok (.iadd, 1) := by decide +kernel
theorem dX9_numberOf_9 : decode prog_11_method_6_code 9 = .ok (.invokestatic 30, 3) := by decide +kernel
theorem dX9_numberOf_12 : decode prog_11_method_6_code 12 = .ok (.ireturn, 1) := by decide +kernel
theorem nX9_scan : zDs yX9_scan 0 := ⟨by decide, by decide, by decide +kernel⟩
theorem dX9_scan_0 : decode prog_11_method_7_code 0 = .ok (.aload_n 0, 1) := by decide +kernel
theorem dX9_scan_1 : decode prog_11_method_7_code 1 = .ok (.iconst 0, 1) := by decide +kernel
theorem dX9_scan_2 : decode prog_11_method_7_code 2 = .ok (.putfield 27, 3) := by decide +kernel
theorem dX9_scan_5 : decode prog_11_method_7_code 5 = .ok (.aload_n 0, 1) := by decide +kernel
theorem dX9_scan_6 : decode prog_11_method_7_code 6 = .ok (.iconst 0, 1) := by decide +kernel
theorem dX9_scan_7 : decode prog_11_method_7_code 7 = .ok (.putfield 24, 3) := by decide +kernel
theorem dX9_scan_10 : decode prog_11_method_7_code 10 = .ok (.iconst 0, 1) := by decide +kernel
theorem dX9_scan_11 : decode prog_11_method_7_code 11 = .ok (.istore_n 1, 1) := by decide +kernel
theorem dX9_scan_12 : decode prog_11_method_7_code 12 = .ok (.iload_n 1, 1) := by decide +kernel
theorem dX9_scan_13 : decode prog_11_method_7_code 13 = .ok (.bipush 60, 2) := by decide +kernel
theorem dX9_scan_15 : decode prog_11_method_7_code 15 = .ok (.if_icmp .ge 66, 3) := by decide +kernel
theorem dX9_scan_18 : decode prog_11_method_7_code 18 = .ok (.aload_n 0, 1) := by decide +kernel
theorem dX9_scan_19 : decode prog_11_method_7_code 19 = .ok (.iload_n 1, 1) := by decide +kernel
theorem dX9_scan_20 : decode prog_11_method_7_code 20 = .ok (.invokevirtual 36, 3) := by decide +kernel
theorem dX9_scan_23 : decode prog_11_method_7_code 23 = .ok (.ifCond .ne 8, 3) := by decide +kernel
theorem dX9_scan_26 : decode prog_11_method_7_code 26 = .ok (.aload_n 0, 1) := by decide +kernel
theorem dX9_scan_27 : decode prog_11_method_7_code 27 = .ok (.getfield 27, 3) := by decide +kernel
theorem dX9_scan_30 : decode prog_11_method_7_code 30 = .ok (.ireturn, 1) := by decide +kernel
theorem dX9_scan_31 : decode prog_11_method_7_code 31 = .ok (.aload_n 0, 1) := by decide +kernel
theorem dX9_scan_32 : decode prog_11_method_7_code 32 = .ok (.getfield 27, 3) := by decide +kernel
theorem dX9_scan_35 : decode prog_11_method_7_code 35 = .ok (.aload_n 0, 1) := by decide +kernel
theorem dX9_scan_36 : decode prog_11_method_7_code 36 = .ok (.getfield 13, 3) := by decide +kernel
theorem dX9_scan_39 : decode prog_11_method_7_code 39 = .ok (.if_icmp .lt 12, 3) := by decide +kernel
theorem dX9_scan_42 : decode prog_11_method_7_code 42 = .ok (.aload_n 0, 1) := by decide +kernel
theorem dX9_scan_43 : decode prog_11_method_7_code 43 = .ok (.iload_n 1, 1) := by decide +kernel
theorem dX9_scan_44 : decode prog_11_method_7_code 44 = .ok (.iconst 1, 1) := by decide +kernel
theorem dX9_scan_45 : decode prog_11_method_7_code 45 = .ok (.iadd, 1) := by decide +kernel
theorem dX9_scan_46 : decode prog_11_method_7_code 46 = .ok (.putfield 24, 3) := by decide +kernel
theorem dX9_scan_49 : decode prog_11_method_7_code 49 = .ok (.iconst (-1), 1) := by decide +kernel
theorem dX9_scan_50 : decode prog_11_method_7_code 50 = .ok (.ireturn, 1) := by decide +kernel
theorem dX9_scan_51 : decode prog_11_method_7_code 51 = .ok (.aload_n 0, 1) := by decide +kernel
theorem dX9_scan_52 : decode prog_11_method_7_code 52 = .ok (.invokevirtual 40, 3) := by decide +kernel
theorem dX9_scan_55 : decode prog_11_method_7_code 55 = .ok (.bipush 59, 2) := by decide +kernel
theorem dX9_scan_57 : decode prog_11_method_7_code 57 = .ok (.if_icmp .eq 8, 3) := by decide +kernel
theorem dX9_scan_60 : decode prog_11_method_7_code 60 = .ok (.aload_n 0, 1) := by decide +kernel
theorem dX9_scan_61 : decode prog_11_method_7_code 61 = .ok (.getfield 27, 3) := by decide +kernel
theorem dX9_scan_64 : decode prog_11_method_7_code 64 = .ok (.ireturn, 1) := by decide +kernel
theorem dX9_scan_65 : decode prog_11_method_7_code 65 = .ok (.aload_n 0, 1) := by decide +kernel
theorem dX9_scan_66 : decode prog_11_method_7_code 66 = .ok (.dup, 1) := by decide +kernel
theorem dX9_scan_67 : decode prog_11_method_7_code 67 = .ok (.getfield 27, 3) := by decide +kernel
theorem dX9_scan_70 : decode prog_11_method_7_code 70 = .ok (.iconst 1, 1) := by decide +kernel
theorem dX9_scan_71 : decode prog_11_method_7_code 71 = .ok (.iadd, 1) := by decide +kernel
theorem dX9_scan_72 : decode prog_11_method_7_code 72 = .ok (.putfield 27, 3) := by decide +kernel
theorem dX9_scan_75 : decode prog_11_method_7_code 75 = .ok (.iinc 1 1, 3) := by decide +kernel
theorem dX9_scan_78 : decode prog_11_method_7_code 78 = .ok (.goto (-66), 3) := by decide +kernel
theorem dX9_scan_81 : decode prog_11_method_7_code 81 = .ok (.aload_n 0, 1) := by decide +kernel
theorem dX9_scan_82 : decode prog_11_method_7_code 82 = .ok (.getfield 27, 3) := by decide +kernel
theorem dX9_scan_85 : decode prog_11_method_7_code 85 = .ok (.ireturn, 1) := by decide +kernel
theorem nX9_signHere : zDs yX9_signHere 0 := ⟨by decide, by decide, by decide +kernel⟩
theorem dX9_signHere_0 : decode prog_11_method_8_code 0 = .ok (.aload_n 0, 1) := by decide +kernel
theorem dX9_signHere_1 : decode prog_11_method_8_code 1 = .ok (.getfield 27, 3) := by decide +kernel
theorem dX9_signHere_4 : decode prog_11_method_8_code 4 = .ok (.ifCond .lt 38, 3) := by decide +kernel
theorem dX9_signHere_7 : decode prog_11_method_8_code 7 = .ok (.aload_n 0, 1) := by decide +kernel
theorem dX9_signHere_8 : decode prog_11_method_8_code 8 = .ok (.getfield 27, 3) := by decide +kernel
theorem dX9_signHere_11 : decode prog_11_method_8_code 11 = .ok (.aload_n 0, 1) := by decide +kernel
theorem dX9_signHere_12 : decode prog_11_method_8_code 12 = .ok (.getfield 13, 3) := by decide +kernel
theorem dX9_signHere_15 : decode prog_11_method_8_code 15 = .ok (.if_icmp .ge 27, 3) := by decide +kernel
theorem dX9_signHere_18 : decode prog_11_method_8_code 18 = .ok (.aload_n 0, 1) := by decide +kernel
theorem dX9_signHere_19 : decode prog_11_method_8_code 19 = .ok (.getfield 27, 3) := by decide +kernel
theorem dX9_signHere_22 : decode prog_11_method_8_code 22 = .ok (.aload_n 0, 1) := by decide +kernel
theorem dX9_signHere_23 : decode prog_11_method_8_code 23 = .ok (.getfield 9, 3) := by decide +kernel
theorem dX9_signHere_26 : decode prog_11_method_8_code 26 = .ok (.arraylength, 1) := by decide +kernel
theorem dX9_signHere_27 : decode prog_11_method_8_code 27 = .ok (.if_icmp .ge 15, 3) := by decide +kernel
theorem dX9_signHere_30 : decode prog_11_method_8_code 30 = .ok (.aload_n 0, 1) := by decide +kernel
theorem dX9_signHere_31 : decode prog_11_method_8_code 31 = .ok (.getfield 9, 3) := by decide +kernel
theorem dX9_signHere_34 : decode prog_11_method_8_code 34 = .ok (.aload_n 0, 1) := by decide +kernel
theorem dX9_signHere_35 : decode prog_11_method_8_code 35 = .ok (.getfield 27, 3) := by decide +kernel
theorem dX9_signHere_38 : decode prog_11_method_8_code 38 = .ok (.caload, 1) := by decide +kernel
theorem dX9_signHere_39 : decode prog_11_method_8_code 39 = .ok (.goto 4, 3) := by decide +kernel
theorem dX9_signHere_42 : decode prog_11_method_8_code 42 = .ok (.iconst 0, 1) := by decide +kernel
theorem dX9_signHere_43 : decode prog_11_method_8_code 43 = .ok (.ireturn, 1) := by decide +kernel
theorem nX9_formOf : zDs yX9_formOf 1 := ⟨by decide, by decide, by decide +kernel⟩
theorem dX9_formOf_0 : decode prog_11_method_9_code 0 = .ok (.iload_n 0, 1) := by decide +kernel
theorem dX9_formOf_1 : decode prog_11_method_9_code 1 = .ok (.tableswitch 93 107 121 #[81, 93, 75, 93, 93, 93, 93, 93, 84, 93, 93, 93, 87, 78, 90], 75) := by decide +kernel
theorem dX9_formOf_76 : decode prog_11_method_9_code 76 = .ok (.ldc 44, 2) := by decide +kernel
theorem dX9_formOf_78 : decode prog_11_method_9_code 78 = .ok (.areturn, 1) := by decide +kernel
theorem dX9_formOf_79 : decode prog_11_method_9_code 79 = .ok (.ldc 46, 2) := by decide +kernel
theorem dX9_formOf_81 : decode prog_11_method_9_code 81 = .ok (.areturn, 1) := by decide +kernel
theorem dX9_formOf_82 : decode prog_11_method_9_code 82 = .ok (.ldc 48, 2) := by decide +kernel
theorem dX9_formOf_84 : decode prog_11_method_9_code 84 = .ok (.areturn, 1) := by decide +kernel
theorem dX9_formOf_85 : decode prog_11_method_9_code 85 = .ok (.ldc 48, 2) := by decide +kernel
theorem dX9_formOf_87 : decode prog_11_method_9_code 87 = .ok (.areturn, 1) := by decide +kernel
theorem dX9_formOf_88 : decode prog_11_method_9_code 88 = .ok (.ldc 50, 2) := by decide +kernel
theorem dX9_formOf_90 : decode prog_11_method_9_code 90 = .ok (.areturn, 1) := by decide +kernel
theorem dX9_formOf_91 : decode prog_11_method_9_code 91 = .ok (.ldc 52, 2) := by decide +kernel
theorem dX9_formOf_93 : decode prog_11_method_9_code 93 = .ok (.areturn, 1) := by decide +kernel
theorem dX9_formOf_94 : decode prog_11_method_9_code 94 = .ok (.ldc 54, 2) := by decide +kernel
theorem dX9_formOf_96 : decode prog_11_method_9_code 96 = .ok (.areturn, 1) := by decide +kernel
theorem nX9_readCommand : zDs yX9_readCommand 1 := ⟨by decide, by decide, by decide +kernel⟩
theorem dX9_readCommand_0 : decode prog_11_method_10_code 0 = .ok (.aload_n 0, 1) := by decide +kernel
theorem dX9_readCommand_1 : decode prog_11_method_10_code 1 = .ok (.invokevirtual 40, 3) := by decide +kernel
theorem dX9_readCommand_4 : decode prog_11_method_10_code 4 = .ok (.istore_n 2, 1) := by decide +kernel
theorem dX9_readCommand_5 : decode prog_11_method_10_code 5 = .ok (.iload_n 2, 1) := by decide +kernel
theorem dX9_readCommand_6 : decode prog_11_method_10_code 6 = .ok (.invokestatic 56, 3) := by decide +kernel
theorem dX9_readCommand_9 : decode prog_11_method_10_code 9 = .ok (.astore_n 3, 1) := by decide +kernel
theorem dX9_readCommand_10 : decode prog_11_method_10_code 10 = .ok (.aload_n 3, 1) := by decide +kernel
theorem dX9_readCommand_11 : decode prog_11_method_10_code 11 = .ok (.invokevirtual 60, 3) := by decide +kernel
theorem dX9_readCommand_14 : decode prog_11_method_10_code 14 = .ok (.ifCond .eq 5, 3) := by decide +kernel
theorem dX9_readCommand_17 : decode prog_11_method_10_code 17 = .ok (.iconst 0, 1) := by decide +kernel
theorem dX9_readCommand_18 : decode prog_11_method_10_code 18 = .ok (.ireturn, 1) := by decide +kernel
theorem dX9_readCommand_19 : decode prog_11_method_10_code 19 = .ok (.aload_n 0, 1) := by decide +kernel
theorem dX9_readCommand_20 : decode prog_11_method_10_code 20 = .ok (.dup, 1) := by decide +kernel
theorem dX9_readCommand_21 : decode prog_11_method_10_code 21 = .ok (.getfield 27, 3) := by decide +kernel
theorem dX9_readCommand_24 : decode prog_11_method_10_code 24 = .ok (.iconst 1, 1) := by decide +kernel
theorem dX9_readCommand_25 : decode prog_11_method_10_code 25 = .ok (.iadd, 1) := by decide +kernel
theorem dX9_readCommand_26 : decode prog_11_method_10_code 26 = .ok (.putfield 27, 3) := by decide +kernel
theorem dX9_readCommand_29 : decode prog_11_method_10_code 29 = .ok (.aload_n 0, 1) := by decide +kernel
theorem dX9_readCommand_30 : decode prog_11_method_10_code 30 = .ok (.getfield 17, 3) := by decide +kernel
theorem dX9_readCommand_33 : decode prog_11_method_10_code 33 = .ok (.iload_n 1, 1) := by decide +kernel
theorem dX9_readCommand_34 : decode prog_11_method_10_code 34 = .ok (.iload_n 2, 1) := by decide +kernel
theorem dX9_readCommand_35 : decode prog_11_method_10_code 35 = .ok (.invokestatic 66, 3) := by decide +kernel
theorem dX9_readCommand_38 : decode prog_11_method_10_code 38 = .ok (.iload_n 1, 1) := by decide +kernel
theorem dX9_readCommand_39 : decode prog_11_method_10_code 39 = .ok (.iconst 3, 1) := by decide +kernel
theorem dX9_readCommand_40 : decode prog_11_method_10_code 40 = .ok (.imul, 1) := by decide +kernel
theorem dX9_readCommand_41 : decode prog_11_method_10_code 41 = .ok (.istore 4, 2) := by decide +kernel
theorem dX9_readCommand_43 : decode prog_11_method_10_code 43 = .ok (.iconst 0, 1) := by decide +kernel
theorem dX9_readCommand_44 : decode prog_11_method_10_code 44 = .ok (.istore 5, 2) := by decide +kernel
theorem dX9_readCommand_46 : decode prog_11_method_10_code 46 = .ok (.iload 5, 2) := by decide +kernel
theorem dX9_readCommand_48 : decode prog_11_method_10_code 48 = .ok (.aload_n 3, 1) := by decide +kernel
theorem dX9_readCommand_49 : decode prog_11_method_10_code 49 = .ok (.invokevirtual 70, 3) := by decide +kernel
theorem dX9_readCommand_52 : decode prog_11_method_10_code 52 = .ok (.if_icmp .ge 98, 3) := by decide +kernel
theorem dX9_readCommand_55 : decode prog_11_method_10_code 55 = .ok (.aload_n 3, 1) := by decide +kernel
theorem dX9_readCommand_56 : decode prog_11_method_10_code 56 = .ok (.iload 5, 2) := by decide +kernel
theorem dX9_readCommand_58 : decode prog_11_method_10_code 58 = .ok (.invokevirtual 73, 3) := by decide +kernel
theorem dX9_readCommand_61 : decode prog_11_method_10_code 61 = .ok (.istore 6, 2) := by decide +kernel
theorem dX9_readCommand_63 : decode prog_11_method_10_code 63 = .ok (.iload 6, 2) := by decide +kernel
theorem dX9_readCommand_65 : decode prog_11_method_10_code 65 = .ok (.bipush 49, 2) := by decide +kernel
theorem dX9_readCommand_67 : decode prog_11_method_10_code 67 = .ok (.if_icmp .eq 10, 3) := by decide +kernel
theorem dX9_readCommand_70 : decode prog_11_method_10_code 70 = .ok (.iload 6, 2) := by decide +kernel
theorem dX9_readCommand_72 : decode prog_11_method_10_code 72 = .ok (.bipush 50, 2) := by decide +kernel
theorem dX9_readCommand_74 : decode prog_11_method_10_code 74 = .ok (.if_icmp .ne 46, 3) := by decide +kernel
theorem dX9_readCommand_77 : decode prog_11_method_10_code 77 = .ok (.aload_n 0, 1) := by decide +kernel
theorem dX9_readCommand_78 : decode prog_11_method_10_code 78 = .ok (.invokevirtual 40, 3) := by decide +kernel
theorem dX9_readCommand_81 : decode prog_11_method_10_code 81 = .ok (.invokestatic 77, 3) := by decide +kernel
theorem dX9_readCommand_84 : decode prog_11_method_10_code 84 = .ok (.ifCond .ne 5, 3) := by decide +kernel
theorem dX9_readCommand_87 : decode prog_11_method_10_code 87 = .ok (.iconst 0, 1) := by decide +kernel
theorem dX9_readCommand_88 : decode prog_11_method_10_code 88 = .ok (.ireturn, 1) := by decide +kernel
theorem dX9_readCommand_89 : decode prog_11_method_10_code 89 = .ok (.aload_n 0, 1) := by decide +kernel
theorem dX9_readCommand_90 : decode prog_11_method_10_code 90 = .ok (.getfield 21, 3) := by decide +kernel
theorem dX9_readCommand_93 : decode prog_11_method_10_code 93 = .ok (.iload 4, 2) := by decide +kernel
theorem dX9_readCommand_95 : decode prog_11_method_10_code 95 = .ok (.aload_n 0, 1) := by decide +kernel
theorem dX9_readCommand_96 : decode prog_11_method_10_code 96 = .ok (.iload 6, 2) := by decide +kernel
theorem dX9_readCommand_98 : decode prog_11_method_10_code 98 = .ok (.bipush 50, 2) := by decide +kernel
theorem dX9_readCommand_100 : decode prog_11_method_10_code 100 = .ok (.if_icmp .ne 7, 3) := by decide +kernel
theorem dX9_readCommand_103 : decode prog_11_method_10_code 103 = .ok (.iconst 1, 1) := by decide +kernel
theorem dX9_readCommand_104 : decode prog_11_method_10_code 104 = .ok (.goto 4, 3) := by decide +kernel
theorem dX9_readCommand_107 : decode prog_11_method_10_code 107 = .ok (.iconst 0, 1) := by decide +kernel
theorem dX9_readCommand_108 : decode prog_11_method_10_code 108 = .ok (.invokevirtual 81, 3) := by decide +kernel
theorem dX9_readCommand_111 : decode prog_11_method_10_code 111 = .ok (.invokestatic 66, 3) := by decide +kernel
theorem dX9_readCommand_114 : decode prog_11_method_10_code 114 = .ok (.iinc 4 1, 3) := by decide +kernel
theorem dX9_readCommand_117 : decode prog_11_method_10_code 117 = .ok (.goto 27, 3) := by decide +kernel
theorem dX9_readCommand_120 : decode prog_11_method_10_code 120 = .ok (.aload_n 0, 1) := by decide +kernel
theorem dX9_readCommand_121 : decode prog_11_method_10_code 121 = .ok (.invokevirtual 40, 3) := by decide +kernel
theorem dX9_readCommand_124 : decode prog_11_method_10_code 124 = .ok (.iload 6, 2) := by decide +kernel
theorem dX9_readCommand_126 : decode prog_11_method_10_code 126 = .ok (.if_icmp .ne 16, 3) := by decide +kernel
theorem dX9_readCommand_129 : decode prog_11_method_10_code 129 = .ok (.aload_n 0, 1) := by decide +kernel
theorem dX9_readCommand_130 : decode prog_11_method_10_code 130 = .ok (.dup, 1) := by decide +kernel
theorem dX9_readCommand_131 : decode prog_11_method_10_code 131 = .ok (.getfield 27, 3) := by decide +kernel
theorem dX9_readCommand_134 : decode prog_11_method_10_code 134 = .ok (.iconst 1, 1) := by decide +kernel
theorem dX9_readCommand_135 : decode prog_11_method_10_code 135 = .ok (.iadd, 1) := by decide +kernel
theorem dX9_readCommand_136 : decode prog_11_method_10_code 136 = .ok (.putfield 27, 3) := by decide +kernel
theorem dX9_readCommand_139 : decode prog_11_method_10_code 139 = .ok (.goto 5, 3) := by decide +kernel
theorem dX9_readCommand_142 : decode prog_11_method_10_code 142 = .ok (.iconst 0, 1) := by decide +kernel
theorem dX9_readCommand_143 : decode prog_11_method_10_code 143 = .ok (.ireturn, 1) := by decide +kernel
theorem dX9_readCommand_144 : decode prog_11_method_10_code 144 = .ok (.iinc 5 1, 3) := by decide +kernel
theorem dX9_readCommand_147 : decode prog_11_method_10_code 147 = .ok (.goto (-101), 3) := by decide +kernel
theorem dX9_readCommand_150 : decode prog_11_method_10_code 150 = .ok (.iconst 1, 1) := by decide +kernel
theorem dX9_readCommand_151 : decode prog_11_method_10_code 151 = .ok (.ireturn, 1) := by decide +kernel
theorem nX9_isDigit : zDs yX9_isDigit 1 := ⟨by decide, by decide, by decide +kernel⟩
theorem dX9_isDigit_0 : decode prog_11_method_11_code 0 = .ok (.iload_n 0, 1) := by decide +kernel
theorem dX9_isDigit_1 : decode prog_11_method_11_code 1 = .ok (.bipush 48, 2) := by decide +kernel
theorem dX9_isDigit_3 : decode prog_11_method_11_code 3 = .ok (.if_icmp .lt 13, 3) := by decide +kernel
theorem dX9_isDigit_6 : decode prog_11_method_11_code 6 = .ok (.iload_n 0, 1) := by decide +kernel
theorem dX9_isDigit_7 : decode prog_11_method_11_code 7 = .ok (.bipush 57, 2) := by decide +kernel
theorem dX9_isDigit_9 : decode prog_11_method_11_code 9 = .ok (.if_icmp .gt 7, 3) := by decide +kernel
theorem dX9_isDigit_12 : decode prog_11_method_11_code 12 = .ok (.iconst 1, 1) := by decide +kernel
theorem dX9_isDigit_13 : decode prog_11_method_11_code 13 = .ok (.goto 4, 3) := by decide +kernel
theorem dX9_isDigit_16 : decode prog_11_method_11_code 16 = .ok (.iconst 0, 1) := by decide +kernel
theorem dX9_isDigit_17 : decode prog_11_method_11_code 17 = .ok (.ireturn, 1) := by decide +kernel
theorem nX9_readNumber : zDs yX9_readNumber 1 := ⟨by decide, by decide, by decide +kernel⟩
theorem dX9_readNumber_0 : decode prog_11_method_12_code 0 = .ok (.aload_n 0, 1) := by decide +kernel
theorem dX9_readNumber_1 : decode prog_11_method_12_code 1 = .ok (.invokevirtual 85, 3) := by decide +kernel
theorem dX9_readNumber_4 : decode prog_11_method_12_code 4 = .ok (.istore_n 2, 1) := by decide +kernel
theorem dX9_readNumber_5 : decode prog_11_method_12_code 5 = .ok (.iload_n 1, 1) := by decide +kernel
theorem dX9_readNumber_6 : decode prog_11_method_12_code 6 = .ok (.ifCond .eq 23, 3) := by decide +kernel
theorem dX9_readNumber_9 : decode prog_11_method_12_code 9 = .ok (.aload_n 0, 1) := by decide +kernel
theorem dX9_readNumber_10 : decode prog_11_method_12_code 10 = .ok (.invokevirtual 40, 3) := by decide +kernel
theorem dX9_readNumber_13 : decode prog_11_method_12_code 13 = .ok (.invokestatic 77, 3) := by decide +kernel
theorem dX9_readNumber_16 : decode prog_11_method_12_code 16 = .ok (.ifCond .eq 13, 3) := by decide +kernel
theorem dX9_readNumber_19 : decode prog_11_method_12_code 19 = .ok (.bipush 10, 2) := by decide +kernel
theorem dX9_readNumber_21 : decode prog_11_method_12_code 21 = .ok (.iload_n 2, 1) := by decide +kernel
theorem dX9_readNumber_22 : decode prog_11_method_12_code 22 = .ok (.imul, 1) := by decide +kernel
theorem dX9_readNumber_23 : decode prog_11_method_12_code 23 = .ok (.aload_n 0, 1) := by decide +kernel
theorem dX9_readNumber_24 : decode prog_11_method_12_code 24 = .ok (.invokevirtual 85, 3) := by decide +kernel
theorem dX9_readNumber_27 : decode prog_11_method_12_code 27 = .ok (.iadd, 1) := by decide +kernel
theorem dX9_readNumber_28 : decode prog_11_method_12_code 28 = .ok (.istore_n 2, 1) := by decide +kernel
theorem dX9_readNumber_29 : decode prog_11_method_12_code 29 = .ok (.iload_n 2, 1) := by decide +kernel
theorem dX9_readNumber_30 : decode prog_11_method_12_code 30 = .ok (.ireturn, 1) := by decide +kernel
theorem nX9_readDigit : zDs yX9_readDigit 0 := ⟨by decide, by decide, by decide +kernel⟩
theorem dX9_readDigit_0 : decode prog_11_method_13_code 0 = .ok (.aload_n 0, 1) := by decide +kernel
theorem dX9_readDigit_1 : decode prog_11_method_13_code 1 = .ok (.invokevirtual 40, 3) := by decide +kernel
theorem dX9_readDigit_4 : decode prog_11_method_13_code 4 = .ok (.bipush 48, 2) := by decide +kernel
theorem dX9_readDigit_6 : decode prog_11_method_13_code 6 = .ok (.isub, 1) := by decide +kernel
theorem dX9_readDigit_7 : decode prog_11_method_13_code 7 = .ok (.istore_n 1, 1) := by decide +kernel
theorem dX9_readDigit_8 : decode prog_11_method_13_code 8 = .ok (.aload_n 0, 1) := by decide +kernel
theorem dX9_readDigit_9 : decode prog_11_method_13_code 9 = .ok (.dup, 1) := by decide +kernel
theorem dX9_readDigit_10 : decode prog_11_method_13_code 10 = .ok (.getfield 27, 3) := by decide +kernel
theorem dX9_readDigit_13 : decode prog_11_method_13_code 13 = .ok (.iconst 1, 1) := by decide +kernel
theorem dX9_readDigit_14 : decode prog_11_method_13_code 14 = .ok (.iadd, 1) := by decide +kernel
theorem dX9_readDigit_15 : decode prog_11_method_13_code 15 = .ok (.putfield 27, 3) := by decide +kernel
theorem dX9_readDigit_18 : decode prog_11_method_13_code 18 = .ok (.iload_n 1, 1) := by decide +kernel
theorem dX9_readDigit_19 : decode prog_11_method_13_code 19 = .ok (.ireturn, 1) := by decide +kernel
theorem pnX10 : plainName RX10 = true := by decide +kernel
theorem nX10_init : zDs yX10_init 0 := ⟨by decide, by decide, by decide +kernel⟩
theorem dX10_init_0 : decode prog_1_method_1_code 0 = .ok (.aload_n 0, 1) := by decide +kernel
theorem dX10_init_1 : decode prog_1_method_1_code 1 = .ok (.invokespecial 1, 3) := by decide +kernel
theorem dX10_init_4 : decode prog_1_method_1_code 4 = .ok (.aload_n 0, 1) := by decide +kernel
theorem dX10_init_5 : decode prog_1_method_1_code 5 = .ok (.new 7, 3) := by decide +kernel
theorem dX10_init_8 : decode prog_1_method_1_code 8 = .ok (.dup, 1) := by decide +kernel
theorem dX10_init_9 : decode prog_1_method_1_code 9 = .ok (.invokespecial 9, 3) := by decide +kernel
theorem dX10_init_12 : decode prog_1_method_1_code 12 = .ok (.putfield 10, 3) := by decide +kernel
theorem dX10_init_15 : decode prog_1_method_1_code 15 = .ok (.aload_n 0, 1) := by decide +kernel
theorem dX10_init_16 : decode prog_1_method_1_code 16 = .ok (.new 7, 3) := by decide +kernel
theorem dX10_init_19 : decode prog_1_method_1_code 19 = .ok (.dup, 1) := by decide +kernel
theorem dX10_init_20 : decode prog_1_method_1_code 20 = .ok (.invokespecial 9, 3) := by decide +kernel
theorem dX10_init_23 : decode prog_1_method_1_code 23 = .ok (.putfield 16, 3) := by decide +kernel
theorem dX10_init_26 : decode prog_1_method_1_code 26 = .ok (.aload_n 0, 1) := by decide +kernel
theorem dX10_init_27 : decode prog_1_method_1_code 27 = .ok (.new 7, 3) := by decide +kernel
theorem dX10_init_30 : decode prog_1_method_1_code 30 = .ok (.dup, 1) := by decide +kernel
theorem dX10_init_31 : decode prog_1_method_1_code 31 = .ok (.invokespecial 9, 3) := by decide +kernel
theorem dX10_init_34 : decode prog_1_method_1_code 34 = .ok (.putfield 19, 3) := by decide +kernel
theorem dX10_init_37 : decode prog_1_method_1_code 37 = .ok (.aload_n 0, 1) := by decide +kernel
theorem dX10_init_38 : decode prog_1_method_1_code 38 = .ok (.iconst 0, 1) := by decide +kernel
theorem dX10_init_39 : decode prog_1_method_1_code 39 = .ok (.putfield 22, 3) := by decide +kernel
theorem dX10_init_42 : decode prog_1_method_1_code 42 = .ok (.aload_n 0, 1) := by decide +kernel
theorem dX10_init_43 : decode prog_1_method_1_code 43 = .ok (.new 26, 3) := by decide +kernel
theorem dX10_init_46 : decode prog_1_method_1_code 46 = .ok (.dup, 1) := by decide +kernel
theorem dX10_init_47 : decode prog_1_method_1_code 47 = .ok (.bipush 8, 2) := by decide +kernel
theorem dX10_init_49 : decode prog_1_method_1_code 49 = .ok (.invokespecial 28, 3) := by decide +kernel
theorem dX10_init_52 : decode prog_1_method_1_code 52 = .ok (.putfield 31, 3) := by decide +kernel
theorem dX10_init_55 : decode prog_1_method_1_code 55 = .ok (.aload_n 0, 1) := by decide +kernel
theorem dX10_init_56 : decode prog_1_method_1_code 56 = .ok (.new 35, 3) := by decide +kernel
theorem dX10_init_59 : decode prog_1_method_1_code 59 = .ok (.dup, 1) := by decide +kernel
theorem dX10_init_60 : decode prog_1_method_1_code 60 = .ok (.invokespecial 37, 3) := by decide +kernel
theorem dX10_init_63 : decode prog_1_method_1_code 63 = .ok (.putfield 38, 3) := by decide +kernel
theorem dX10_init_66 : decode prog_1_method_1_code 66 = .ok (.aload_n 0, 1) := by decide +kernel
theorem dX10_init_67 : decode prog_1_method_1_code 67 = .ok (.new 42, 3) := by decide +kernel
theorem dX10_init_70 : decode prog_1_method_1_code 70 = .ok (.dup, 1) := by decide +kernel
theorem dX10_init_71 : decode prog_1_method_1_code 71 = .ok (.invokespecial 44, 3) := by decide +kernel
theorem dX10_init_74 : decode prog_1_method_1_code 74 = .ok (.putfield 45, 3) := by decide +kernel
theorem dX10_init_77 : decode prog_1_method_1_code 77 = .ok (.aload_n 0, 1) := by decide +kernel
theorem dX10_init_78 : decode prog_1_method_1_code 78 = .ok (.iconst (-1), 1) := by decide +kernel
theorem dX10_init_79 : decode prog_1_method_1_code 79 = .ok (.putfield 49, 3) := by decide +kernel
theorem dX10_init_82 : decode prog_1_method_1_code 82 = .ok (.aload_n 0, 1) := by decide +kernel
theorem dX10_init_83 : decode prog_1_method_1_code 83 = .ok (.new 53, 3) := by decide +kernel
theorem dX10_init_86 : decode prog_1_method_1_code 86 = .ok (.dup, 1) := by decide +kernel
theorem dX10_init_87 : decode prog_1_method_1_code 87 = .ok (.invokespecial 55, 3) := by decide +kernel
theorem dX10_init_90 : decode prog_1_method_1_code 90 = .ok (.putfield 56, 3) := by decide +kernel
theorem dX10_init_93 : decode prog_1_method_1_code 93 = .ok (.aload_n 0, 1) := by decide +kernel
theorem dX10_init_94 : decode prog_1_method_1_code 94 = .ok (.bipush 12, 2) := by decide +kernel
theorem dX10_init_96 : decode prog_1_method_1_code 96 = .ok (.newarray .int, 2) := by decide +kernel
theorem dX10_init_98 : decode prog_1_method_1_code 98 = .ok (.putfield 62, 3) := by decide +kernel
theorem dX10_init_101 : decode prog_1_method_1_code 101 = .ok (.return_, 1) := by decide +kernel
theorem nX10_stone : zDs yX10_stone 3 := ⟨by decide, by decide, by decide +kernel⟩
theorem dX10_stone_0 : decode prog_1_method_2_code 0 = .ok (.aload_n 0, 1) := by decide +kernel
theorem dX10_stone_1 : decode prog_1_method_2_code 1 = .ok (.getfield 10, 3) := by decide +kernel
theorem dX10_stone_4 : decode prog_1_method_2_code 4 = .ok (.iload_n 1, 1) := by decide +kernel
theorem dX10_stone_5 : decode prog_1_method_2_code 5 = .ok (.iload_n 2, 1) := by decide +kernel
theorem dX10_stone_6 : decode prog_1_method_2_code 6 = .ok (.iload_n 3, 1) := by decide +kernel
theorem dX10_stone_7 : decode prog_1_method_2_code 7 = .ok (.aload_n 0, 1) := by decide +kernel
theorem dX10_stone_8 : decode prog_1_method_2_code 8 = .ok (.getfield 38, 3) := by decide +kernel
theorem dX10_stone_11 : decode prog_1_method_2_code 11 = .ok (.invokevirtual 66, 3) := by decide +kernel
theorem dX10_stone_14 : decode prog_1_method_2_code 14 = .ok (.ifCond .eq 13, 3) := by decide +kernel
theorem dX10_stone_17 : decode prog_1_method_2_code 17 = .ok (.new 70, 3) := by decide +kernel
theorem dX10_stone_20 : decode prog_1_method_2_code 20 = .ok (.dup, 1) := by decide +kernel
theorem dX10_stone_21 : decode prog_1_method_2_code 21 = .ok (.ldc 72, 2) := by decide +kernel
theorem dX10_stone_23 : decode prog_1_method_2_code 23 = .ok (.invokespecial 74, 3) := by decide +kernel
theorem dX10_stone_26 : decode prog_1_method_2_code 26 = .ok (.athrow, 1) := by decide +kernel
theorem dX10_stone_27 : decode prog_1_method_2_code 27 = .ok (.aload_n 0, 1) := by decide +kernel
theorem dX10_stone_28 : decode prog_1_method_2_code 28 = .ok (.getfield 31, 3) := by decide +kernel
theorem dX10_stone_31 : decode prog_1_method_2_code 31 = .ok (.aload_n 0, 1) := by decide +kernel
theorem dX10_stone_32 : decode prog_1_method_2_code 32 = .ok (.getfield 10, 3) := by decide +kernel
theorem dX10_stone_35 : decode prog_1_method_2_code 35 = .ok (.invokevirtual 77, 3) := by decide +kernel
theorem dX10_stone_38 : decode prog_1_method_2_code 38 = .ok (.aload_n 0, 1) := by decide +kernel
theorem dX10_stone_39 : decode prog_1_method_2_code 39 = .ok (.getfield 10, 3) := by decide +kernel
theorem dX10_stone_42 : decode prog_1_method_2_code 42 = .ok (.getfield 81, 3) := by decide +kernel
theorem dX10_stone_45 : decode prog_1_method_2_code 45 = .ok (.iload_n 1, 1) := by decide +kernel
theorem dX10_stone_46 : decode prog_1_method_2_code 46 = .ok (.iload_n 2, 1) := by decide +kernel
theorem dX10_stone_47 : decode prog_1_method_2_code 47 = .ok (.iload_n 3, 1) := by decide +kernel
theorem dX10_stone_48 : decode prog_1_method_2_code 48 = .ok (.invokevirtual 85, 3) := by decide +kernel
theorem dX10_stone_51 : decode prog_1_method_2_code 51 = .ok (.ireturn, 1) := by decide +kernel
theorem nX10_flood : zDs yX10_flood 3 := ⟨by decide, by decide, by decide +kernel⟩
theorem dX10_flood_0 : decode prog_1_method_3_code 0 = .ok (.aload_n 0, 1) := by decide +kernel
theorem dX10_flood_1 : decode prog_1_method_3_code 1 = .ok (.getfield 10, 3) := by decide +kernel
theorem dX10_flood_4 : decode prog_1_method_3_code 4 = .ok (.iload_n 1, 1) := by decide +kernel
theorem dX10_flood_5 : decode prog_1_method_3_code 5 = .ok (.iload_n 2, 1) := by decide +kernel
theorem dX10_flood_6 : decode prog_1_method_3_code 6 = .ok (.iload_n 3, 1) := by decide +kernel
theorem dX10_flood_7 : decode prog_1_method_3_code 7 = .ok (.aload_n 0, 1) := by decide +kernel
theorem dX10_flood_8 : decode prog_1_method_3_code 8 = .ok (.getfield 38, 3) := by decide +kernel
theorem dX10_flood_11 : decode prog_1_method_3_code 11 = .ok (.invokevirtual 91, 3) := by decide +kernel
theorem dX10_flood_14 : decode prog_1_method_3_code 14 = .ok (.ifCond .eq 13, 3) := by decide +kernel
theorem dX10_flood_17 : decode prog_1_method_3_code 17 = .ok (.new 70, 3) := by decide +kernel
theorem dX10_flood_20 : decode prog_1_method_3_code 20 = .ok (.dup, 1) := by decide +kernel
theorem dX10_flood_21 : decode prog_1_method_3_code 21 = .ok (.ldc 94, 2) := by decide +kernel
theorem dX10_flood_23 : decode prog_1_method_3_code 23 = .ok (.invokespecial 74, 3) := by decide +kernel
theorem dX10_flood_26 : decode prog_1_method_3_code 26 = .ok (.athrow, 1) := by decide +kernel
theorem dX10_flood_27 : decode prog_1_method_3_code 27 = .ok (.aload_n 0, 1) := by decide +kernel
theorem dX10_flood_28 : decode prog_1_method_3_code 28 = .ok (.getfield 31, 3) := by decide +kernel
theorem dX10_flood_31 : decode prog_1_method_3_code 31 = .ok (.aload_n 0, 1) := by decide +kernel
theorem dX10_flood_32 : decode prog_1_method_3_code 32 = .ok (.getfield 10, 3) := by decide +kernel
theorem dX10_flood_35 : decode prog_1_method_3_code 35 = .ok (.invokevirtual 77, 3) := by decide +kernel
theorem dX10_flood_38 : decode prog_1_method_3_code 38 = .ok (.aload_n 0, 1) := by decide +kernel
theorem dX10_flood_39 : decode prog_1_method_3_code 39 = .ok (.getfield 10, 3) := by decide +kernel
theorem dX10_flood_42 : decode prog_1_method_3_code 42 = .ok (.getfield 96, 3) := by decide +kernel
theorem dX10_flood_45 : decode prog_1_method_3_code 45 = .ok (.iload_n 1, 1) := by decide +kernel
theorem dX10_flood_46 : decode prog_1_method_3_code 46 = .ok (.iload_n 2, 1) := by decide +kernel
theorem dX10_flood_47 : decode prog_1_method_3_code 47 = .ok (.iload_n 3, 1) := by decide +kernel
theorem dX10_flood_48 : decode prog_1_method_3_code 48 = .ok (.invokevirtual 100, 3) := by decide +kernel
theorem dX10_flood_51 : decode prog_1_method_3_code 51 = .ok (.ireturn, 1) := by decide +kernel
theorem nX10_epoch : zDs yX10_epoch 2 := ⟨by decide, by decide, by decide +kernel⟩
theorem dX10_epoch_0 : decode prog_1_method_4_code 0 = .ok (.aload_n 0, 1) := by decide +kernel
theorem dX10_epoch_1 : decode prog_1_method_4_code 1 = .ok (.getfield 10, 3) := by decide +kernel
theorem dX10_epoch_4 : decode prog_1_method_4_code 4 = .ok (.iload_n 1, 1) := by decide +kernel
theorem dX10_epoch_5 : decode prog_1_method_4_code 5 = .ok (.iload_n 2, 1) := by decide +kernel
theorem dX10_epoch_6 : decode prog_1_method_4_code 6 = .ok (.aload_n 0, 1) := by decide +kernel
theorem dX10_epoch_7 : decode prog_1_method_4_code 7 = .ok (.getfield 38, 3) := by decide +kernel
theorem dX10_epoch_10 : decode prog_1_method_4_code 10 = .ok (.invokevirtual 101, 3) := by decide +kernel
theorem dX10_epoch_13 : decode prog_1_method_4_code 13 = .ok (.ifCond .eq 13, 3) := by decide +kernel
theorem dX10_epoch_16 : decode prog_1_method_4_code 16 = .ok (.new 70, 3) := by decide +kernel
theorem dX10_epoch_19 : decode prog_1_method_4_code 19 = .ok (.dup, 1) := by decide +kernel
theorem dX10_epoch_20 : decode prog_1_method_4_code 20 = .ok (.ldc 105, 2) := by decide +kernel
theorem dX10_epoch_22 : decode prog_1_method_4_code 22 = .ok (.invokespecial 74, 3) := by decide +kernel
theorem dX10_epoch_25 : decode prog_1_method_4_code 25 = .ok (.athrow, 1) := by decide +kernel
theorem dX10_epoch_26 : decode prog_1_method_4_code 26 = .ok (.aload_n 0, 1) := by decide +kernel
theorem dX10_epoch_27 : decode prog_1_method_4_code 27 = .ok (.getfield 31, 3) := by decide +kernel
theorem dX10_epoch_30 : decode prog_1_method_4_code 30 = .ok (.aload_n 0, 1) := by decide +kernel
theorem dX10_epoch_31 : decode prog_1_method_4_code 31 = .ok (.getfield 10, 3) := by decide +kernel
theorem dX10_epoch_34 : decode prog_1_method_4_code 34 = .ok (.invokevirtual 77, 3) := by decide +kernel
theorem dX10_epoch_37 : decode prog_1_method_4_code 37 = .ok (.aload_n 0, 1) := by decide +kernel
theorem dX10_epoch_38 : decode prog_1_method_4_code 38 = .ok (.getfield 10, 3) := by decide +kernel
theorem dX10_epoch_41 : decode prog_1_method_4_code 41 = .ok (.getfield 107, 3) := by decide +kernel
theorem dX10_epoch_44 : decode prog_1_method_4_code 44 = .ok (.iload_n 1, 1) := by decide +kernel
theorem dX10_epoch_45 : decode prog_1_method_4_code 45 = .ok (.iload_n 2, 1) := by decide +kernel
theorem dX10_epoch_46 : decode prog_1_method_4_code 46 = .ok (.invokevirtual 111, 3) := by decide +kernel
theorem dX10_epoch_49 : decode prog_1_method_4_code 49 = .ok (.ireturn, 1) := by decide +kernel
theorem nX10_chisel : zDs yX10_chisel 0 := ⟨by decide, by decide, by decide +kernel⟩
theorem dX10_chisel_0 : decode prog_1_method_5_code 0 = .ok (.aload_n 0, 1) := by decide +kernel
theorem dX10_chisel_1 : decode prog_1_method_5_code 1 = .ok (.getfield 10, 3) := by decide +kernel
theorem dX10_chisel_4 : decode prog_1_method_5_code 4 = .ok (.aload_n 0, 1) := by decide +kernel
theorem dX10_chisel_5 : decode prog_1_method_5_code 5 = .ok (.getfield 38, 3) := by decide +kernel
theorem dX10_chisel_8 : decode prog_1_method_5_code 8 = .ok (.invokevirtual 117, 3) := by decide +kernel
theorem dX10_chisel_11 : decode prog_1_method_5_code 11 = .ok (.ifCond .eq 13, 3) := by decide +kernel
theorem dX10_chisel_14 : decode prog_1_method_5_code 14 = .ok (.new 70, 3) := by decide +kernel
theorem dX10_chisel_17 : decode prog_1_method_5_code 17 = .ok (.dup, 1) := by decide +kernel
theorem dX10_chisel_18 : decode prog_1_method_5_code 18 = .ok (.ldc 121, 2) := by decide +kernel
theorem dX10_chisel_20 : decode prog_1_method_5_code 20 = .ok (.invokespecial 74, 3) := by decide +kernel
theorem dX10_chisel_23 : decode prog_1_method_5_code 23 = .ok (.athrow, 1) := by decide +kernel
theorem dX10_chisel_24 : decode prog_1_method_5_code 24 = .ok (.aload_n 0, 1) := by decide +kernel
theorem dX10_chisel_25 : decode prog_1_method_5_code 25 = .ok (.getfield 31, 3) := by decide +kernel
theorem dX10_chisel_28 : decode prog_1_method_5_code 28 = .ok (.aload_n 0, 1) := by decide +kernel
theorem dX10_chisel_29 : decode prog_1_method_5_code 29 = .ok (.getfield 10, 3) := by decide +kernel
theorem dX10_chisel_32 : decode prog_1_method_5_code 32 = .ok (.invokevirtual 77, 3) := by decide +kernel
theorem dX10_chisel_35 : decode prog_1_method_5_code 35 = .ok (.aload_n 0, 1) := by decide +kernel
theorem dX10_chisel_36 : decode prog_1_method_5_code 36 = .ok (.getfield 10, 3) := by decide +kernel
theorem dX10_chisel_39 : decode prog_1_method_5_code 39 = .ok (.getfield 123, 3) := by decide +kernel
theorem dX10_chisel_42 : decode prog_1_method_5_code 42 = .ok (.invokevirtual 127, 3) := by decide +kernel
theorem dX10_chisel_45 : decode prog_1_method_5_code 45 = .ok (.ireturn, 1) := by decide +kernel
theorem nX10_cut : zDs yX10_cut 3 := ⟨by decide, by decide, by decide +kernel⟩
theorem dX10_cut_0 : decode prog_1_method_6_code 0 = .ok (.aload_n 0, 1) := by decide +kernel
theorem dX10_cut_1 : decode prog_1_method_6_code 1 = .ok (.getfield 10, 3) := by decide +kernel
theorem dX10_cut_4 : decode prog_1_method_6_code 4 = .ok (.iload_n 1, 1) := by decide +kernel
theorem dX10_cut_5 : decode prog_1_method_6_code 5 = .ok (.iload_n 2, 1) := by decide +kernel
theorem dX10_cut_6 : decode prog_1_method_6_code 6 = .ok (.iload_n 3, 1) := by decide +kernel
theorem dX10_cut_7 : decode prog_1_method_6_code 7 = .ok (.aload_n 0, 1) := by decide +kernel
theorem dX10_cut_8 : decode prog_1_method_6_code 8 = .ok (.getfield 38, 3) := by decide +kernel
theorem dX10_cut_11 : decode prog_1_method_6_code 11 = .ok (.invokevirtual 132, 3) := by decide +kernel
theorem dX10_cut_14 : decode prog_1_method_6_code 14 = .ok (.ifCond .eq 13, 3) := by decide +kernel
theorem dX10_cut_17 : decode prog_1_method_6_code 17 = .ok (.new 70, 3) := by decide +kernel
theorem dX10_cut_20 : decode prog_1_method_6_code 20 = .ok (.dup, 1) := by decide +kernel
theorem dX10_cut_21 : decode prog_1_method_6_code 21 = .ok (.ldc 135, 2) := by decide +kernel
theorem dX10_cut_23 : decode prog_1_method_6_code 23 = .ok (.invokespecial 74, 3) := by decide +kernel
theorem dX10_cut_26 : decode prog_1_method_6_code 26 = .ok (.athrow, 1) := by decide +kernel
theorem dX10_cut_27 : decode prog_1_method_6_code 27 = .ok (.aload_n 0, 1) := by decide +kernel
theorem dX10_cut_28 : decode prog_1_method_6_code 28 = .ok (.getfield 31, 3) := by decide +kernel
theorem dX10_cut_31 : decode prog_1_method_6_code 31 = .ok (.aload_n 0, 1) := by decide +kernel
theorem dX10_cut_32 : decode prog_1_method_6_code 32 = .ok (.getfield 10, 3) := by decide +kernel
theorem dX10_cut_35 : decode prog_1_method_6_code 35 = .ok (.invokevirtual 77, 3) := by decide +kernel
theorem dX10_cut_38 : decode prog_1_method_6_code 38 = .ok (.aload_n 0, 1) := by decide +kernel
theorem dX10_cut_39 : decode prog_1_method_6_code 39 = .ok (.getfield 10, 3) := by decide +kernel
theorem dX10_cut_42 : decode prog_1_method_6_code 42 = .ok (.iload_n 1, 1) := by decide +kernel
theorem dX10_cut_43 : decode prog_1_method_6_code 43 = .ok (.iload_n 2, 1) := by decide +kernel
theorem dX10_cut_44 : decode prog_1_method_6_code 44 = .ok (.iload_n 3, 1) := by decide +kernel
theorem dX10_cut_45 : decode prog_1_method_6_code 45 = .ok (.invokevirtual 137, 3) := by decide +kernel
theorem dX10_cut_48 : decode prog_1_method_6_code 48 = .ok (.ireturn, 1) := by decide +kernel
theorem nX10_efface : zDs yX10_efface 2 := ⟨by decide, by decide, by decide +kernel⟩
theorem dX10_efface_0 : decode prog_1_method_7_code 0 = .ok (.aload_n 0, 1) := by decide +kernel
theorem dX10_efface_1 : decode prog_1_method_7_code 1 = .ok (.getfield 10, 3) := by decide +kernel
theorem dX10_efface_4 : decode prog_1_method_7_code 4 = .ok (.iload_n 1, 1) := by decide +kernel
theorem dX10_efface_5 : decode prog_1_method_7_code 5 = .ok (.iload_n 2, 1) := by decide +kernel
theorem dX10_efface_6 : decode prog_1_method_7_code 6 = .ok (.aload_n 0, 1) := by decide +kernel
theorem dX10_efface_7 : decode prog_1_method_7_code 7 = .ok (.getfield 38, 3) := by decide +kernel
theorem dX10_efface_10 : decode prog_1_method_7_code 10 = .ok (.invokevirtual 140, 3) := by decide +kernel
theorem dX10_efface_13 : decode prog_1_method_7_code 13 = .ok (.ifCond .eq 13, 3) := by decide +kernel
theorem dX10_efface_16 : decode prog_1_method_7_code 16 = .ok (.new 70, 3) := by decide +kernel
theorem dX10_efface_19 : decode prog_1_method_7_code 19 = .ok (.dup, 1) := by decide +kernel
theorem dX10_efface_20 : decode prog_1_method_7_code 20 = .ok (.ldc 143, 2) := by decide +kernel
theorem dX10_efface_22 : decode prog_1_method_7_code 22 = .ok (.invokespecial 74, 3) := by decide +kernel
theorem dX10_efface_25 : decode prog_1_method_7_code 25 = .ok (.athrow, 1) := by decide +kernel
theorem dX10_efface_26 : decode prog_1_method_7_code 26 = .ok (.aload_n 0, 1) := by decide +kernel
theorem dX10_efface_27 : decode prog_1_method_7_code 27 = .ok (.getfield 31, 3) := by decide +kernel
theorem dX10_efface_30 : decode prog_1_method_7_code 30 = .ok (.aload_n 0, 1) := by decide +kernel
theorem dX10_efface_31 : decode prog_1_method_7_code 31 = .ok (.getfield 10, 3) := by decide +kernel
theorem dX10_efface_34 : decode prog_1_method_7_code 34 = .ok (.invokevirtual 77, 3) := by decide +kernel
theorem dX10_efface_37 : decode prog_1_method_7_code 37 = .ok (.aload_n 0, 1) := by decide +kernel
theorem dX10_efface_38 : decode prog_1_method_7_code 38 = .ok (.getfield 10, 3) := by decide +kernel
theorem dX10_efface_41 : decode prog_1_method_7_code 41 = .ok (.getfield 145, 3) := by decide +kernel
theorem dX10_efface_44 : decode prog_1_method_7_code 44 = .ok (.iload_n 1, 1) := by decide +kernel
theorem dX10_efface_45 : decode prog_1_method_7_code 45 = .ok (.iload_n 2, 1) := by decide +kernel
theorem dX10_efface_46 : decode prog_1_method_7_code 46 = .ok (.invokevirtual 149, 3) := by decide +kernel
theorem dX10_efface_49 : decode prog_1_method_7_code 49 = .ok (.ireturn, 1) := by decide +kernel
theorem nX10_sharpen : zDs yX10_sharpen 1 := ⟨by decide, by decide, by decide +kernel⟩
theorem dX10_sharpen_0 : decode prog_1_method_8_code 0 = .ok (.aload_n 0, 1) := by decide +kernel
theorem dX10_sharpen_1 : decode prog_1_method_8_code 1 = .ok (.getfield 10, 3) := by decide +kernel
theorem dX10_sharpen_4 : decode prog_1_method_8_code 4 = .ok (.iload_n 1, 1) := by decide +kernel
theorem dX10_sharpen_5 : decode prog_1_method_8_code 5 = .ok (.aload_n 0, 1) := by decide +kernel
theorem dX10_sharpen_6 : decode prog_1_method_8_code 6 = .ok (.getfield 38, 3) := by decide +kernel
theorem dX10_sharpen_9 : decode prog_1_method_8_code 9 = .ok (.invokevirtual 154, 3) := by decide +kernel
theorem dX10_sharpen_12 : decode prog_1_method_8_code 12 = .ok (.ifCond .eq 13, 3) := by decide +kernel
theorem dX10_sharpen_15 : decode prog_1_method_8_code 15 = .ok (.new 70, 3) := by decide +kernel
theorem dX10_sharpen_18 : decode prog_1_method_8_code 18 = .ok (.dup, 1) := by decide +kernel
theorem dX10_sharpen_19 : decode prog_1_method_8_code 19 = .ok (.ldc 158, 2) := by decide +kernel
theorem dX10_sharpen_21 : decode prog_1_method_8_code 21 = .ok (.invokespecial 74, 3) := by decide +kernel
theorem dX10_sharpen_24 : decode prog_1_method_8_code 24 = .ok (.athrow, 1) := by decide +kernel
theorem dX10_sharpen_25 : decode prog_1_method_8_code 25 = .ok (.aload_n 0, 1) := by decide +kernel
theorem dX10_sharpen_26 : decode prog_1_method_8_code 26 = .ok (.getfield 31, 3) := by decide +kernel
theorem dX10_sharpen_29 : decode prog_1_method_8_code 29 = .ok (.aload_n 0, 1) := by decide +kernel
theorem dX10_sharpen_30 : decode prog_1_method_8_code 30 = .ok (.getfield 10, 3) := by decide +kernel
theorem dX10_sharpen_33 : decode prog_1_method_8_code 33 = .ok (.invokevirtual 77, 3) := by decide +kernel
theorem dX10_sharpen_36 : decode prog_1_method_8_code 36 = .ok (.aload_n 0, 1) := by decide +kernel
theorem dX10_sharpen_37 : decode prog_1_method_8_code 37 = .ok (.getfield 10, 3) := by decide +kernel
theorem dX10_sharpen_40 : decode prog_1_method_8_code 40 = .ok (.getfield 123, 3) := by decide +kernel
theorem dX10_sharpen_43 : decode prog_1_method_8_code 43 = .ok (.iload_n 1, 1) := by decide +kernel
theorem dX10_sharpen_44 : decode prog_1_method_8_code 44 = .ok (.invokevirtual 160, 3) := by decide +kernel
theorem dX10_sharpen_47 : decode prog_1_method_8_code 47 = .ok (.ireturn, 1) := by decide +kernel
theorem nX10_check : zDs yX10_check 1 := ⟨by decide, by decide, by decide +kernel⟩
theorem dX10_check_0 : decode prog_1_method_9_code 0 = .ok (.aload_n 0, 1) := by decide +kernel
theorem dX10_check_1 : decode prog_1_method_9_code 1 = .ok (.getfield 10, 3) := by decide +kernel
theorem dX10_check_4 : decode prog_1_method_9_code 4 = .ok (.iload_n 1, 1) := by decide +kernel
theorem dX10_check_5 : decode prog_1_method_9_code 5 = .ok (.aload_n 0, 1) := by decide +kernel
theorem dX10_check_6 : decode prog_1_method_9_code 6 = .ok (.getfield 38, 3) := by decide +kernel
theorem dX10_check_9 : decode prog_1_method_9_code 9 = .ok (.invokevirtual 164, 3) := by decide +kernel
theorem dX10_check_12 : decode prog_1_method_9_code 12 = .ok (.ifCond .eq 13, 3) := by decide +kernel
theorem dX10_check_15 : decode prog_1_method_9_code 15 = .ok (.new 70, 3) := by decide +kernel
theorem dX10_check_18 : decode prog_1_method_9_code 18 = .ok (.dup, 1) := by decide +kernel
theorem dX10_check_19 : decode prog_1_method_9_code 19 = .ok (.ldc 167, 2) := by decide +kernel
theorem dX10_check_21 : decode prog_1_method_9_code 21 = .ok (.invokespecial 74, 3) := by decide +kernel
theorem dX10_check_24 : decode prog_1_method_9_code 24 = .ok (.athrow, 1) := by decide +kernel
theorem dX10_check_25 : decode prog_1_method_9_code 25 = .ok (.aload_n 0, 1) := by decide +kernel
theorem dX10_check_26 : decode prog_1_method_9_code 26 = .ok (.getfield 31, 3) := by decide +kernel
theorem dX10_check_29 : decode prog_1_method_9_code 29 = .ok (.aload_n 0, 1) := by decide +kernel
theorem dX10_check_30 : decode prog_1_method_9_code 30 = .ok (.getfield 10, 3) := by decide +kernel
theorem dX10_check_33 : decode prog_1_method_9_code 33 = .ok (.invokevirtual 77, 3) := by decide +kernel
theorem dX10_check_36 : decode prog_1_method_9_code 36 = .ok (.aload_n 0, 1) := by decide +kernel
theorem dX10_check_37 : decode prog_1_method_9_code 37 = .ok (.getfield 10, 3) := by decide +kernel
theorem dX10_check_40 : decode prog_1_method_9_code 40 = .ok (.getfield 81, 3) := by decide +kernel
theorem dX10_check_43 : decode prog_1_method_9_code 43 = .ok (.iload_n 1, 1) := by decide +kernel
theorem dX10_check_44 : decode prog_1_method_9_code 44 = .ok (.invokevirtual 169, 3) := by decide +kernel
theorem dX10_check_47 : decode prog_1_method_9_code 47 = .ok (.ireturn, 1) := by decide +kernel
theorem nX10_witness : zDs yX10_witness 2 := ⟨by decide, by decide, by decide +kernel⟩
theorem dX10_witness_0 : decode prog_1_method_10_code 0 = .ok (.aload_n 0, 1) := by decide +kernel
theorem dX10_witness_1 : decode prog_1_method_10_code 1 = .ok (.getfield 10, 3) := by decide +kernel
theorem dX10_witness_4 : decode prog_1_method_10_code 4 = .ok (.iload_n 1, 1) := by decide +kernel
theorem dX10_witness_5 : decode prog_1_method_10_code 5 = .ok (.iload_n 2, 1) := by decide +kernel
theorem dX10_witness_6 : decode prog_1_method_10_code 6 = .ok (.aload_n 0, 1) := by decide +kernel
theorem dX10_witness_7 : decode prog_1_method_10_code 7 = .ok (.getfield 38, 3) := by decide +kernel
theorem dX10_witness_10 : decode prog_1_method_10_code 10 = .ok (.invokevirtual 172, 3) := by decide +kernel
theorem dX10_witness_13 : decode prog_1_method_10_code 13 = .ok (.ifCond .eq 13, 3) := by decide +kernel
theorem dX10_witness_16 : decode prog_1_method_10_code 16 = .ok (.new 70, 3) := by decide +kernel
theorem dX10_witness_19 : decode prog_1_method_10_code 19 = .ok (.dup, 1) := by decide +kernel
theorem dX10_witness_20 : decode prog_1_method_10_code 20 = .ok (.ldc 175, 2) := by decide +kernel
theorem dX10_witness_22 : decode prog_1_method_10_code 22 = .ok (.invokespecial 74, 3) := by decide +kernel
theorem dX10_witness_25 : decode prog_1_method_10_code 25 = .ok (.athrow, 1) := by decide +kernel
theorem dX10_witness_26 : decode prog_1_method_10_code 26 = .ok (.aload_n 0, 1) := by decide +kernel
theorem dX10_witness_27 : decode prog_1_method_10_code 27 = .ok (.getfield 31, 3) := by decide +kernel
theorem dX10_witness_30 : decode prog_1_method_10_code 30 = .ok (.aload_n 0, 1) := by decide +kernel
theorem dX10_witness_31 : decode prog_1_method_10_code 31 = .ok (.getfield 10, 3) := by decide +kernel
theorem dX10_witness_34 : decode prog_1_method_10_code 34 = .ok (.invokevirtual 77, 3) := by decide +kernel
theorem dX10_witness_37 : decode prog_1_method_10_code 37 = .ok (.aload_n 0, 1) := by decide +kernel
theorem dX10_witness_38 : decode prog_1_method_10_code 38 = .ok (.getfield 10, 3) := by decide +kernel
theorem dX10_witness_41 : decode prog_1_method_10_code 41 = .ok (.getfield 96, 3) := by decide +kernel
theorem dX10_witness_44 : decode prog_1_method_10_code 44 = .ok (.iload_n 1, 1) := by decide +kernel
theorem dX10_witness_45 : decode prog_1_method_10_code 45 = .ok (.iload_n 2, 1) := by decide +kernel
theorem dX10_witness_46 : decode prog_1_method_10_code 46 = .ok (.invokevirtual 177, 3) := by decide +kernel
theorem dX10_witness_49 : decode prog_1_method_10_code 49 = .ok (.ireturn, 1) := by decide +kernel
theorem nX10_years : zDs yX10_years 1 := ⟨by decide, by decide, by decide +kernel⟩
theorem dX10_years_0 : decode prog_1_method_11_code 0 = .ok (.aload_n 0, 1) := by decide +kernel
theorem dX10_years_1 : decode prog_1_method_11_code 1 = .ok (.getfield 10, 3) := by decide +kernel
theorem dX10_years_4 : decode prog_1_method_11_code 4 = .ok (.iload_n 1, 1) := by decide +kernel
theorem dX10_years_5 : decode prog_1_method_11_code 5 = .ok (.aload_n 0, 1) := by decide +kernel
theorem dX10_years_6 : decode prog_1_method_11_code 6 = .ok (.getfield 38, 3) := by decide +kernel
theorem dX10_years_9 : decode prog_1_method_11_code 9 = .ok (.invokevirtual 180, 3) := by decide +kernel
theorem dX10_years_12 : decode prog_1_method_11_code 12 = .ok (.ifCond .eq 13, 3) := by decide +kernel
theorem dX10_years_15 : decode prog_1_method_11_code 15 = .ok (.new 70, 3) := by decide +kernel
theorem dX10_years_18 : decode prog_1_method_11_code 18 = .ok (.dup, 1) := by decide +kernel
theorem dX10_years_19 : decode prog_1_method_11_code 19 = .ok (.ldc 183, 2) := by decide +kernel
theorem dX10_years_21 : decode prog_1_method_11_code 21 = .ok (.invokespecial 74, 3) := by decide +kernel
theorem dX10_years_24 : decode prog_1_method_11_code 24 = .ok (.athrow, 1) := by decide +kernel
theorem dX10_years_25 : decode prog_1_method_11_code 25 = .ok (.aload_n 0, 1) := by decide +kernel
theorem dX10_years_26 : decode prog_1_method_11_code 26 = .ok (.getfield 31, 3) := by decide +kernel
theorem dX10_years_29 : decode prog_1_method_11_code 29 = .ok (.aload_n 0, 1) := by decide +kernel
theorem dX10_years_30 : decode prog_1_method_11_code 30 = .ok (.getfield 10, 3) := by decide +kernel
theorem dX10_years_33 : decode prog_1_method_11_code 33 = .ok (.invokevirtual 77, 3) := by decide +kernel
theorem dX10_years_36 : decode prog_1_method_11_code 36 = .ok (.aload_n 0, 1) := by decide +kernel
theorem dX10_years_37 : decode prog_1_method_11_code 37 = .ok (.getfield 10, 3) := by decide +kernel
theorem dX10_years_40 : decode prog_1_method_11_code 40 = .ok (.iload_n 1, 1) := by decide +kernel
theorem dX10_years_41 : decode prog_1_method_11_code 41 = .ok (.invokevirtual 185, 3) := by decide +kernel
theorem dX10_years_44 : decode prog_1_method_11_code 44 = .ok (.ireturn, 1) := by decide +kernel
theorem nX10_stoneOf : zDs yX10_stoneOf 2 := ⟨by decide, by decide, by decide +kernel⟩
theorem dX10_stoneOf_0 : decode prog_1_method_12_code 0 = .ok (.aload_n 0, 1) := by decide +kernel
theorem dX10_stoneOf_1 : decode prog_1_method_12_code 1 = .ok (.getfield 10, 3) := by decide +kernel
theorem dX10_stoneOf_4 : decode prog_1_method_12_code 4 = .ok (.getfield 81, 3) := by decide +kernel
theorem dX10_stoneOf_7 : decode prog_1_method_12_code 7 = .ok (.iload_n 1, 1) := by decide +kernel
theorem dX10_stoneOf_8 : decode prog_1_method_12_code 8 = .ok (.invokevirtual 188, 3) := by decide +kernel
theorem dX10_stoneOf_11 : decode prog_1_method_12_code 11 = .ok (.ifCond .ne 13, 3) := by decide +kernel
theorem dX10_stoneOf_14 : decode prog_1_method_12_code 14 = .ok (.new 192, 3) := by decide +kernel
theorem dX10_stoneOf_17 : decode prog_1_method_12_code 17 = .ok (.dup, 1) := by decide +kernel
theorem dX10_stoneOf_18 : decode prog_1_method_12_code 18 = .ok (.ldc 194, 2) := by decide +kernel
theorem dX10_stoneOf_20 : decode prog_1_method_12_code 20 = .ok (.invokespecial 196, 3) := by decide +kernel
theorem dX10_stoneOf_23 : decode prog_1_method_12_code 23 = .ok (.athrow, 1) := by decide +kernel
theorem dX10_stoneOf_24 : decode prog_1_method_12_code 24 = .ok (.iload_n 2, 1) := by decide +kernel
theorem dX10_stoneOf_25 : decode prog_1_method_12_code 25 = .ok (.tableswitch 120 0 5 #[39, 54, 69, 84, 99, 111], 39) := by decide +kernel
theorem dX10_stoneOf_64 : decode prog_1_method_12_code 64 = .ok (.aload_n 0, 1) := by decide +kernel
theorem dX10_stoneOf_65 : decode prog_1_method_12_code 65 = .ok (.getfield 10, 3) := by decide +kernel
theorem dX10_stoneOf_68 : decode prog_1_method_12_code 68 = .ok (.getfield 81, 3) := by decide +kernel
theorem dX10_stoneOf_71 : decode prog_1_method_12_code 71 = .ok (.getfield 197, 3) := by decide +kernel
theorem dX10_stoneOf_74 : decode prog_1_method_12_code 74 = .ok (.iload_n 1, 1) := by decide +kernel
theorem dX10_stoneOf_75 : decode prog_1_method_12_code 75 = .ok (.invokestatic 200, 3) := by decide +kernel
theorem dX10_stoneOf_78 : decode prog_1_method_12_code 78 = .ok (.ireturn, 1) := by decide +kernel
theorem dX10_stoneOf_79 : decode prog_1_method_12_code 79 = .ok (.aload_n 0, 1) := by decide +kernel
theorem dX10_stoneOf_80 : decode prog_1_method_12_code 80 = .ok (.getfield 10, 3) := by decide +kernel
theorem dX10_stoneOf_83 : decode prog_1_method_12_code 83 = .ok (.getfield 81, 3) := by decide +kernel
theorem dX10_stoneOf_86 : decode prog_1_method_12_code 86 = .ok (.getfield 206, 3) := by decide +kernel
theorem dX10_stoneOf_89 : decode prog_1_method_12_code 89 = .ok (.iload_n 1, 1) := by decide +kernel
theorem dX10_stoneOf_90 : decode prog_1_method_12_code 90 = .ok (.invokestatic 200, 3) := by decide +kernel
theorem dX10_stoneOf_93 : decode prog_1_method_12_code 93 = .ok (.ireturn, 1) := by decide +kernel
theorem dX10_stoneOf_94 : decode prog_1_method_12_code 94 = .ok (.aload_n 0, 1) := by decide +kernel
theorem dX10_stoneOf_95 : decode prog_1_method_12_code 95 = .ok (.getfield 10, 3) := by decide +kernel
theorem dX10_stoneOf_98 : decode prog_1_method_12_code 98 = .ok (.getfield 81, 3) := by decide +kernel
theorem dX10_stoneOf_101 : decode prog_1_method_12_code 101 = .ok (.getfield 209, 3) := by decide +kernel
theorem dX10_stoneOf_104 : decode prog_1_method_12_code 104 = .ok (.iload_n 1, 1) := by decide +kernel
theorem dX10_stoneOf_105 : decode prog_1_method_12_code 105 = .ok (.invokestatic 200, 3) := by decide +kernel
theorem dX10_stoneOf_108 : decode prog_1_method_12_code 108 = .ok (.ireturn, 1) := by decide +kernel
theorem dX10_stoneOf_109 : decode prog_1_method_12_code 109 = .ok (.aload_n 0, 1) := by decide +kernel
theorem dX10_stoneOf_110 : decode prog_1_method_12_code 110 = .ok (.getfield 10, 3) := by decide +kernel
theorem dX10_stoneOf_113 : decode prog_1_method_12_code 113 = .ok (.getfield 81, 3) := by decide +kernel
theorem dX10_stoneOf_116 : decode prog_1_method_12_code 116 = .ok (.getfield 212, 3) := by decide +kernel
theorem dX10_stoneOf_119 : decode prog_1_method_12_code 119 = .ok (.iload_n 1, 1) := by decide +kernel
theorem dX10_stoneOf_120 : decode prog_1_method_12_code 120 = .ok (.invokestatic 200, 3) := by decide +kernel
theorem dX10_stoneOf_123 : decode prog_1_method_12_code 123 = .ok (.ireturn, 1) := by decide +kernel
theorem dX10_stoneOf_124 : decode prog_1_method_12_code 124 = .ok (.aload_n 0, 1) := by decide +kernel
theorem dX10_stoneOf_125 : decode prog_1_method_12_code 125 = .ok (.getfield 10, 3) := by decide +kernel
theorem dX10_stoneOf_128 : decode prog_1_method_12_code 128 = .ok (.getfield 145, 3) := by decide +kernel
theorem dX10_stoneOf_131 : decode prog_1_method_12_code 131 = .ok (.iload_n 1, 1) := by decide +kernel
theorem dX10_stoneOf_132 : decode prog_1_method_12_code 132 = .ok (.invokevirtual 215, 3) := by decide +kernel
theorem dX10_stoneOf_135 : decode prog_1_method_12_code 135 = .ok (.ireturn, 1) := by decide +kernel
theorem dX10_stoneOf_136 : decode prog_1_method_12_code 136 = .ok (.aload_n 0, 1) := by decide +kernel
theorem dX10_stoneOf_137 : decode prog_1_method_12_code 137 = .ok (.getfield 10, 3) := by decide +kernel
theorem dX10_stoneOf_140 : decode prog_1_method_12_code 140 = .ok (.iload_n 1, 1) := by decide +kernel
theorem dX10_stoneOf_141 : decode prog_1_method_12_code 141 = .ok (.invokevirtual 218, 3) := by decide +kernel
theorem dX10_stoneOf_144 : decode prog_1_method_12_code 144 = .ok (.ireturn, 1) := by decide +kernel
theorem dX10_stoneOf_145 : decode prog_1_method_12_code 145 = .ok (.new 221, 3) := by decide +kernel
theorem dX10_stoneOf_148 : decode prog_1_method_12_code 148 = .ok (.dup, 1) := by decide +kernel
theorem dX10_stoneOf_149 : decode prog_1_method_12_code 149 = .ok (.ldc 223, 2) := by decide +kernel
theorem dX10_stoneOf_151 : decode prog_1_method_12_code 151 = .ok (.invokespecial 225, 3) := by decide +kernel
theorem dX10_stoneOf_154 : decode prog_1_method_12_code 154 = .ok (.athrow, 1) := by decide +kernel
theorem nX10_floodOf : zDs yX10_floodOf 2 := ⟨by decide, by decide, by decide +kernel⟩
theorem dX10_floodOf_0 : decode prog_1_method_13_code 0 = .ok (.aload_n 0, 1) := by decide +kernel
theorem dX10_floodOf_1 : decode prog_1_method_13_code 1 = .ok (.getfield 10, 3) := by decide +kernel
theorem dX10_floodOf_4 : decode prog_1_method_13_code 4 = .ok (.getfield 96, 3) := by decide +kernel
theorem dX10_floodOf_7 : decode prog_1_method_13_code 7 = .ok (.iload_n 1, 1) := by decide +kernel
theorem dX10_floodOf_8 : decode prog_1_method_13_code 8 = .ok (.invokevirtual 226, 3) := by decide +kernel
theorem dX10_floodOf_11 : decode prog_1_method_13_code 11 = .ok (.ifCond .ne 13, 3) := by decide +kernel
theorem dX10_floodOf_14 : decode prog_1_method_13_code 14 = .ok (.new 192, 3) := by decide +kernel
theorem dX10_floodOf_17 : decode prog_1_method_13_code 17 = .ok (.dup, 1) := by decide +kernel
theorem dX10_floodOf_18 : decode prog_1_method_13_code 18 = .ok (.ldc 227, 2) := by decide +kernel
theorem dX10_floodOf_20 : decode prog_1_method_13_code 20 = .ok (.invokespecial 196, 3) := by decide +kernel
theorem dX10_floodOf_23 : decode prog_1_method_13_code 23 = .ok (.athrow, 1) := by decide +kernel
theorem dX10_floodOf_24 : decode prog_1_method_13_code 24 = .ok (.iload_n 2, 1) := by decide +kernel
theorem dX10_floodOf_25 : decode prog_1_method_13_code 25 = .ok (.tableswitch 114 0 5 #[39, 54, 69, 84, 96, 105], 39) := by decide +kernel
theorem dX10_floodOf_64 : decode prog_1_method_13_code 64 = .ok (.aload_n 0, 1) := by decide +kernel
theorem dX10_floodOf_65 : decode prog_1_method_13_code 65 = .ok (.getfield 10, 3) := by decide +kernel
theorem dX10_floodOf_68 : decode prog_1_method_13_code 68 = .ok (.getfield 96, 3) := by decide +kernel
theorem dX10_floodOf_71 : decode prog_1_method_13_code 71 = .ok (.getfield 229, 3) := by decide +kernel
theorem dX10_floodOf_74 : decode prog_1_method_13_code 74 = .ok (.iload_n 1, 1) := by decide +kernel
theorem dX10_floodOf_75 : decode prog_1_method_13_code 75 = .ok (.invokestatic 200, 3) := by decide +kernel
theorem dX10_floodOf_78 : decode prog_1_method_13_code 78 = .ok (.ireturn, 1) := by decide +kernel
theorem dX10_floodOf_79 : decode prog_1_method_13_code 79 = .ok (.aload_n 0, 1) := by decide +kernel
theorem dX10_floodOf_80 : decode prog_1_method_13_code 80 = .ok (.getfield 10, 3) := by decide +kernel
theorem dX10_floodOf_83 : decode prog_1_method_13_code 83 = .ok (.getfield 96, 3) := by decide +kernel
theorem dX10_floodOf_86 : decode prog_1_method_13_code 86 = .ok (.getfield 232, 3) := by decide +kernel
theorem dX10_floodOf_89 : decode prog_1_method_13_code 89 = .ok (.iload_n 1, 1) := by decide +kernel
theorem dX10_floodOf_90 : decode prog_1_method_13_code 90 = .ok (.invokestatic 200, 3) := by decide +kernel
theorem dX10_floodOf_93 : decode prog_1_method_13_code 93 = .ok (.ireturn, 1) := by decide +kernel
theorem dX10_floodOf_94 : decode prog_1_method_13_code 94 = .ok (.aload_n 0, 1) := by decide +kernel
theorem dX10_floodOf_95 : decode prog_1_method_13_code 95 = .ok (.getfield 10, 3) := by decide +kernel
theorem dX10_floodOf_98 : decode prog_1_method_13_code 98 = .ok (.getfield 96, 3) := by decide +kernel
theorem dX10_floodOf_101 : decode prog_1_method_13_code 101 = .ok (.getfield 235, 3) := by decide +kernel
theorem dX10_floodOf_104 : decode prog_1_method_13_code 104 = .ok (.iload_n 1, 1) := by decide +kernel
theorem dX10_floodOf_105 : decode prog_1_method_13_code 105 = .ok (.invokestatic 200, 3) := by decide +kernel
theorem dX10_floodOf_108 : decode prog_1_method_13_code 108 = .ok (.ireturn, 1) := by decide +kernel
theorem dX10_floodOf_109 : decode prog_1_method_13_code 109 = .ok (.aload_n 0, 1) := by decide +kernel
theorem dX10_floodOf_110 : decode prog_1_method_13_code 110 = .ok (.getfield 10, 3) := by decide +kernel
theorem dX10_floodOf_113 : decode prog_1_method_13_code 113 = .ok (.getfield 145, 3) := by decide +kernel
theorem dX10_floodOf_116 : decode prog_1_method_13_code 116 = .ok (.iload_n 1, 1) := by decide +kernel
theorem dX10_floodOf_117 : decode prog_1_method_13_code 117 = .ok (.invokevirtual 238, 3) := by decide +kernel
theorem dX10_floodOf_120 : decode prog_1_method_13_code 120 = .ok (.ireturn, 1) := by decide +kernel
theorem dX10_floodOf_121 : decode prog_1_method_13_code 121 = .ok (.aload_n 0, 1) := by decide +kernel
theorem dX10_floodOf_122 : decode prog_1_method_13_code 122 = .ok (.getfield 10, 3) := by decide +kernel
theorem dX10_floodOf_125 : decode prog_1_method_13_code 125 = .ok (.iload_n 1, 1) := by decide +kernel
theorem dX10_floodOf_126 : decode prog_1_method_13_code 126 = .ok (.invokevirtual 241, 3) := by decide +kernel
theorem dX10_floodOf_129 : decode prog_1_method_13_code 129 = .ok (.ireturn, 1) := by decide +kernel
theorem dX10_floodOf_130 : decode prog_1_method_13_code 130 = .ok (.aload_n 0, 1) := by decide +kernel
theorem dX10_floodOf_131 : decode prog_1_method_13_code 131 = .ok (.getfield 10, 3) := by decide +kernel
theorem dX10_floodOf_134 : decode prog_1_method_13_code 134 = .ok (.iload_n 1, 1) := by decide +kernel
theorem dX10_floodOf_135 : decode prog_1_method_13_code 135 = .ok (.invokevirtual 244, 3) := by decide +kernel
theorem dX10_floodOf_138 : decode prog_1_method_13_code 138 = .ok (.ireturn, 1) := by decide +kernel
theorem dX10_floodOf_139 : decode prog_1_method_13_code 139 = .ok (.new 221, 3) := by decide +kernel
theorem dX10_floodOf_142 : decode prog_1_method_13_code 142 = .ok (.dup, 1) := by decide +kernel
theorem dX10_floodOf_143 : decode prog_1_method_13_code 143 = .ok (.ldc 223, 2) := by decide +kernel
theorem dX10_floodOf_145 : decode prog_1_method_13_code 145 = .ok (.invokespecial 225, 3) := by decide +kernel
theorem dX10_floodOf_148 : decode prog_1_method_13_code 148 = .ok (.athrow, 1) := by decide +kernel
theorem nX10_floodIn : zDs yX10_floodIn 1 := ⟨by decide, by decide, by decide +kernel⟩
theorem dX10_floodIn_0 : decode prog_1_method_14_code 0 = .ok (.aload_n 0, 1) := by decide +kernel
theorem dX10_floodIn_1 : decode prog_1_method_14_code 1 = .ok (.getfield 10, 3) := by decide +kernel
theorem dX10_floodIn_4 : decode prog_1_method_14_code 4 = .ok (.getfield 96, 3) := by decide +kernel
theorem dX10_floodIn_7 : decode prog_1_method_14_code 7 = .ok (.iload_n 1, 1) := by decide +kernel
theorem dX10_floodIn_8 : decode prog_1_method_14_code 8 = .ok (.invokevirtual 247, 3) := by decide +kernel
theorem dX10_floodIn_11 : decode prog_1_method_14_code 11 = .ok (.istore_n 2, 1) := by decide +kernel
theorem dX10_floodIn_12 : decode prog_1_method_14_code 12 = .ok (.iload_n 2, 1) := by decide +kernel
theorem dX10_floodIn_13 : decode prog_1_method_14_code 13 = .ok (.ifCond .ge 13, 3) := by decide +kernel
theorem dX10_floodIn_16 : decode prog_1_method_14_code 16 = .ok (.new 250, 3) := by decide +kernel
theorem dX10_floodIn_19 : decode prog_1_method_14_code 19 = .ok (.dup, 1) := by decide +kernel
theorem dX10_floodIn_20 : decode prog_1_method_14_code 20 = .ok (.ldc 252, 2) := by decide +kernel
theorem dX10_floodIn_22 : decode prog_1_method_14_code 22 = .ok (.invokespecial 254, 3) := by decide +kernel
theorem dX10_floodIn_25 : decode prog_1_method_14_code 25 = .ok (.athrow, 1) := by decide +kernel
theorem dX10_floodIn_26 : decode prog_1_method_14_code 26 = .ok (.iload_n 2, 1) := by decide +kernel
theorem dX10_floodIn_27 : decode prog_1_method_14_code 27 = .ok (.ireturn, 1) := by decide +kernel
theorem nX10_before : zDs yX10_before 1 := ⟨by decide, by decide, by decide +kernel⟩
theorem dX10_before_0 : decode prog_1_method_15_code 0 = .ok (.aload_n 0, 1) := by decide +kernel
theorem dX10_before_1 : decode prog_1_method_15_code 1 = .ok (.getfield 10, 3) := by decide +kernel
theorem dX10_before_4 : decode prog_1_method_15_code 4 = .ok (.getfield 96, 3) := by decide +kernel
theorem dX10_before_7 : decode prog_1_method_15_code 7 = .ok (.iload_n 1, 1) := by decide +kernel
theorem dX10_before_8 : decode prog_1_method_15_code 8 = .ok (.invokevirtual 255, 3) := by decide +kernel
theorem dX10_before_11 : decode prog_1_method_15_code 11 = .ok (.istore_n 2, 1) := by decide +kernel
theorem dX10_before_12 : decode prog_1_method_15_code 12 = .ok (.iload_n 2, 1) := by decide +kernel
theorem dX10_before_13 : decode prog_1_method_15_code 13 = .ok (.ifCond .ge 14, 3) := by decide +kernel
theorem dX10_before_16 : decode prog_1_method_15_code 16 = .ok (.new 250, 3) := by decide +kernel
theorem dX10_before_19 : decode prog_1_method_15_code 19 = .ok (.dup, 1) := by decide +kernel
theorem dX10_before_20 : decode prog_1_method_15_code 20 = .ok (.ldc_w 258, 3) := by decide +kernel
theorem dX10_before_23 : decode prog_1_method_15_code 23 = .ok (.invokespecial 254, 3) := by decide +kernel
theorem dX10_before_26 : decode prog_1_method_15_code 26 = .ok (.athrow, 1) := by decide +kernel
theorem dX10_before_27 : decode prog_1_method_15_code 27 = .ok (.iload_n 2, 1) := by decide +kernel
theorem dX10_before_28 : decode prog_1_method_15_code 28 = .ok (.ireturn, 1) := by decide +kernel
theorem nX10_edge : zDs yX10_edge 1 := ⟨by decide, by decide, by decide +kernel⟩
theorem dX10_edge_0 : decode prog_1_method_16_code 0 = .ok (.aload_n 0, 1) := by decide +kernel
theorem dX10_edge_1 : decode prog_1_method_16_code 1 = .ok (.getfield 10, 3) := by decide +kernel
theorem dX10_edge_4 : decode prog_1_method_16_code 4 = .ok (.getfield 123, 3) := by decide +kernel
theorem dX10_edge_7 : decode prog_1_method_16_code 7 = .ok (.iload_n 1, 1) := by decide +kernel
theorem dX10_edge_8 : decode prog_1_method_16_code 8 = .ok (.invokevirtual 260, 3) := by decide +kernel
theorem dX10_edge_11 : decode prog_1_method_16_code 11 = .ok (.ifCond .ne 14, 3) := by decide +kernel
theorem dX10_edge_14 : decode prog_1_method_16_code 14 = .ok (.new 192, 3) := by decide +kernel
theorem dX10_edge_17 : decode prog_1_method_16_code 17 = .ok (.dup, 1) := by decide +kernel
theorem dX10_edge_18 : decode prog_1_method_16_code 18 = .ok (.ldc_w 261, 3) := by decide +kernel
theorem dX10_edge_21 : decode prog_1_method_16_code 21 = .ok (.invokespecial 196, 3) := by decide +kernel
theorem dX10_edge_24 : decode prog_1_method_16_code 24 = .ok (.athrow, 1) := by decide +kernel
theorem dX10_edge_25 : decode prog_1_method_16_code 25 = .ok (.aload_n 0, 1) := by decide +kernel
theorem dX10_edge_26 : decode prog_1_method_16_code 26 = .ok (.getfield 10, 3) := by decide +kernel
theorem dX10_edge_29 : decode prog_1_method_16_code 29 = .ok (.getfield 123, 3) := by decide +kernel
theorem dX10_edge_32 : decode prog_1_method_16_code 32 = .ok (.getfield 263, 3) := by decide +kernel
theorem dX10_edge_35 : decode prog_1_method_16_code 35 = .ok (.iload_n 1, 1) := by decide +kernel
theorem dX10_edge_36 : decode prog_1_method_16_code 36 = .ok (.invokestatic 200, 3) := by decide +kernel
theorem dX10_edge_39 : decode prog_1_method_16_code 39 = .ok (.ireturn, 1) := by decide +kernel
theorem nX10_markOf : zDs yX10_markOf 3 := ⟨by decide, by decide, by decide +kernel⟩
theorem dX10_markOf_0 : decode prog_1_method_17_code 0 = .ok (.aload_n 0, 1) := by decide +kernel
theorem dX10_markOf_1 : decode prog_1_method_17_code 1 = .ok (.getfield 10, 3) := by decide +kernel
theorem dX10_markOf_4 : decode prog_1_method_17_code 4 = .ok (.getfield 81, 3) := by decide +kernel
theorem dX10_markOf_7 : decode prog_1_method_17_code 7 = .ok (.iload_n 1, 1) := by decide +kernel
theorem dX10_markOf_8 : decode prog_1_method_17_code 8 = .ok (.invokevirtual 188, 3) := by decide +kernel
theorem dX10_markOf_11 : decode prog_1_method_17_code 11 = .ok (.ifCond .eq 17, 3) := by decide +kernel
theorem dX10_markOf_14 : decode prog_1_method_17_code 14 = .ok (.aload_n 0, 1) := by decide +kernel
theorem dX10_markOf_15 : decode prog_1_method_17_code 15 = .ok (.getfield 10, 3) := by decide +kernel
theorem dX10_markOf_18 : decode prog_1_method_17_code 18 = .ok (.getfield 96, 3) := by decide +kernel
theorem dX10_markOf_21 : decode prog_1_method_17_code 21 = .ok (.iload_n 2, 1) := by decide +kernel
theorem dX10_markOf_22 : decode prog_1_method_17_code 22 = .ok (.invokevirtual 226, 3) := by decide +kernel
theorem dX10_markOf_25 : decode prog_1_method_17_code 25 = .ok (.ifCond .ne 14, 3) := by decide +kernel
theorem dX10_markOf_28 : decode prog_1_method_17_code 28 = .ok (.new 192, 3) := by decide +kernel
theorem dX10_markOf_31 : decode prog_1_method_17_code 31 = .ok (.dup, 1) := by decide +kernel
theorem dX10_markOf_32 : decode prog_1_method_17_code 32 = .ok (.ldc_w 266, 3) := by decide +kernel
theorem dX10_markOf_35 : decode prog_1_method_17_code 35 = .ok (.invokespecial 196, 3) := by decide +kernel
theorem dX10_markOf_38 : decode prog_1_method_17_code 38 = .ok (.athrow, 1) := by decide +kernel
theorem dX10_markOf_39 : decode prog_1_method_17_code 39 = .ok (.iload_n 3, 1) := by decide +kernel
theorem dX10_markOf_40 : decode prog_1_method_17_code 40 = .ok (.ifCond .lt 8, 3) := by decide +kernel
theorem dX10_markOf_43 : decode prog_1_method_17_code 43 = .ok (.iload_n 3, 1) := by decide +kernel
theorem dX10_markOf_44 : decode prog_1_method_17_code 44 = .ok (.iconst 4, 1) := by decide +kernel
theorem dX10_markOf_45 : decode prog_1_method_17_code 45 = .ok (.if_icmp .le 14, 3) := by decide +kernel
theorem dX10_markOf_48 : decode prog_1_method_17_code 48 = .ok (.new 221, 3) := by decide +kernel
theorem dX10_markOf_51 : decode prog_1_method_17_code 51 = .ok (.dup, 1) := by decide +kernel
theorem dX10_markOf_52 : decode prog_1_method_17_code 52 = .ok (.ldc_w 268, 3) := by decide +kernel
theorem dX10_markOf_55 : decode prog_1_method_17_code 55 = .ok (.invokespecial 225, 3) := by decide +kernel
theorem dX10_markOf_58 : decode prog_1_method_17_code 58 = .ok (.athrow, 1) := by decide +kernel
theorem dX10_markOf_59 : decode prog_1_method_17_code 59 = .ok (.aload_n 0, 1) := by decide +kernel
theorem dX10_markOf_60 : decode prog_1_method_17_code 60 = .ok (.getfield 10, 3) := by decide +kernel
theorem dX10_markOf_63 : decode prog_1_method_17_code 63 = .ok (.getfield 145, 3) := by decide +kernel
theorem dX10_markOf_66 : decode prog_1_method_17_code 66 = .ok (.iload_n 1, 1) := by decide +kernel
theorem dX10_markOf_67 : decode prog_1_method_17_code 67 = .ok (.iload_n 2, 1) := by decide +kernel
theorem dX10_markOf_68 : decode prog_1_method_17_code 68 = .ok (.invokevirtual 270, 3) := by decide +kernel
theorem dX10_markOf_71 : decode prog_1_method_17_code 71 = .ok (.ifCond .ne 14, 3) := by decide +kernel
theorem dX10_markOf_74 : decode prog_1_method_17_code 74 = .ok (.new 250, 3) := by decide +kernel
theorem dX10_markOf_77 : decode prog_1_method_17_code 77 = .ok (.dup, 1) := by decide +kernel
theorem dX10_markOf_78 : decode prog_1_method_17_code 78 = .ok (.ldc_w 273, 3) := by decide +kernel
theorem dX10_markOf_81 : decode prog_1_method_17_code 81 = .ok (.invokespecial 254, 3) := by decide +kernel
theorem dX10_markOf_84 : decode prog_1_method_17_code 84 = .ok (.athrow, 1) := by decide +kernel
theorem dX10_markOf_85 : decode prog_1_method_17_code 85 = .ok (.iload_n 3, 1) := by decide +kernel
theorem dX10_markOf_86 : decode prog_1_method_17_code 86 = .ok (.tableswitch 79 0 3 #[30, 43, 56, 69], 30) := by decide +kernel
theorem dX10_markOf_116 : decode prog_1_method_17_code 116 = .ok (.aload_n 0, 1) := by decide +kernel
theorem dX10_markOf_117 : decode prog_1_method_17_code 117 = .ok (.getfield 10, 3) := by decide +kernel
theorem dX10_markOf_120 : decode prog_1_method_17_code 120 = .ok (.getfield 145, 3) := by decide +kernel
theorem dX10_markOf_123 : decode prog_1_method_17_code 123 = .ok (.iload_n 1, 1) := by decide +kernel
theorem dX10_markOf_124 : decode prog_1_method_17_code 124 = .ok (.iload_n 2, 1) := by decide +kernel
theorem dX10_markOf_125 : decode prog_1_method_17_code 125 = .ok (.invokevirtual 275, 3) := by decide +kernel
theorem dX10_markOf_128 : decode prog_1_method_17_code 128 = .ok (.ireturn, 1) := by decide +kernel
theorem dX10_markOf_129 : decode prog_1_method_17_code 129 = .ok (.aload_n 0, 1) := by decide +kernel
theorem dX10_markOf_130 : decode prog_1_method_17_code 130 = .ok (.getfield 10, 3) := by decide +kernel
theorem dX10_markOf_133 : decode prog_1_method_17_code 133 = .ok (.getfield 145, 3) := by decide +kernel
theorem dX10_markOf_136 : decode prog_1_method_17_code 136 = .ok (.iload_n 1, 1) := by decide +kernel
theorem dX10_markOf_137 : decode prog_1_method_17_code 137 = .ok (.iload_n 2, 1) := by decide +kernel
theorem dX10_markOf_138 : decode prog_1_method_17_code 138 = .ok (.invokevirtual 278, 3) := by decide +kernel
theorem dX10_markOf_141 : decode prog_1_method_17_code 141 = .ok (.ireturn, 1) := by decide +kernel
theorem dX10_markOf_142 : decode prog_1_method_17_code 142 = .ok (.aload_n 0, 1) := by decide +kernel
theorem dX10_markOf_143 : decode prog_1_method_17_code 143 = .ok (.getfield 10, 3) := by decide +kernel
theorem dX10_markOf_146 : decode prog_1_method_17_code 146 = .ok (.getfield 145, 3) := by decide +kernel
theorem dX10_markOf_149 : decode prog_1_method_17_code 149 = .ok (.iload_n 1, 1) := by decide +kernel
theorem dX10_markOf_150 : decode prog_1_method_17_code 150 = .ok (.iload_n 2, 1) := by decide +kernel
theorem dX10_markOf_151 : decode prog_1_method_17_code 151 = .ok (.invokevirtual 281, 3) := by decide +kernel
theorem dX10_markOf_154 : decode prog_1_method_17_code 154 = .ok (.ireturn, 1) := by decide +kernel
theorem dX10_markOf_155 : decode prog_1_method_17_code 155 = .ok (.aload_n 0, 1) := by decide +kernel
theorem dX10_markOf_156 : decode prog_1_method_17_code 156 = .ok (.getfield 10, 3) := by decide +kernel
theorem dX10_markOf_159 : decode prog_1_method_17_code 159 = .ok (.iload_n 1, 1) := by decide +kernel
theorem dX10_markOf_160 : decode prog_1_method_17_code 160 = .ok (.iload_n 2, 1) := by decide +kernel
theorem dX10_markOf_161 : decode prog_1_method_17_code 161 = .ok (.invokevirtual 284, 3) := by decide +kernel
theorem dX10_markOf_164 : decode prog_1_method_17_code 164 = .ok (.ireturn, 1) := by decide +kernel
theorem dX10_markOf_165 : decode prog_1_method_17_code 165 = .ok (.aload_n 0, 1) := by decide +kernel
theorem dX10_markOf_166 : decode prog_1_method_17_code 166 = .ok (.getfield 10, 3) := by decide +kernel
theorem dX10_markOf_169 : decode prog_1_method_17_code 169 = .ok (.iload_n 1, 1) := by decide +kernel
theorem dX10_markOf_170 : decode prog_1_method_17_code 170 = .ok (.iload_n 2, 1) := by decide +kernel
theorem dX10_markOf_171 : decode prog_1_method_17_code 171 = .ok (.invokevirtual 287, 3) := by decide +kernel
theorem dX10_markOf_174 : decode prog_1_method_17_code 174 = .ok (.ireturn, 1) := by decide +kernel
theorem nX10_mark : zDs yX10_mark 2 := ⟨by decide, by decide, by decide +kernel⟩
theorem dX10_mark_0 : decode prog_1_method_18_code 0 = .ok (.aload_n 0, 1) := by decide +kernel
theorem dX10_mark_1 : decode prog_1_method_18_code 1 = .ok (.getfield 10, 3) := by decide +kernel
theorem dX10_mark_4 : decode prog_1_method_18_code 4 = .ok (.getfield 81, 3) := by decide +kernel
theorem dX10_mark_7 : decode prog_1_method_18_code 7 = .ok (.iload_n 1, 1) := by decide +kernel
theorem dX10_mark_8 : decode prog_1_method_18_code 8 = .ok (.invokevirtual 188, 3) := by decide +kernel
theorem dX10_mark_11 : decode prog_1_method_18_code 11 = .ok (.ifCond .ne 13, 3) := by decide +kernel
theorem dX10_mark_14 : decode prog_1_method_18_code 14 = .ok (.new 192, 3) := by decide +kernel
theorem dX10_mark_17 : decode prog_1_method_18_code 17 = .ok (.dup, 1) := by decide +kernel
theorem dX10_mark_18 : decode prog_1_method_18_code 18 = .ok (.ldc 194, 2) := by decide +kernel
theorem dX10_mark_20 : decode prog_1_method_18_code 20 = .ok (.invokespecial 196, 3) := by decide +kernel
theorem dX10_mark_23 : decode prog_1_method_18_code 23 = .ok (.athrow, 1) := by decide +kernel
theorem dX10_mark_24 : decode prog_1_method_18_code 24 = .ok (.aload_n 0, 1) := by decide +kernel
theorem dX10_mark_25 : decode prog_1_method_18_code 25 = .ok (.getfield 10, 3) := by decide +kernel
theorem dX10_mark_28 : decode prog_1_method_18_code 28 = .ok (.getfield 145, 3) := by decide +kernel
theorem dX10_mark_31 : decode prog_1_method_18_code 31 = .ok (.iload_n 1, 1) := by decide +kernel
theorem dX10_mark_32 : decode prog_1_method_18_code 32 = .ok (.iload_n 2, 1) := by decide +kernel
theorem dX10_mark_33 : decode prog_1_method_18_code 33 = .ok (.invokevirtual 290, 3) := by decide +kernel
theorem dX10_mark_36 : decode prog_1_method_18_code 36 = .ok (.istore_n 3, 1) := by decide +kernel
theorem dX10_mark_37 : decode prog_1_method_18_code 37 = .ok (.iload_n 3, 1) := by decide +kernel
theorem dX10_mark_38 : decode prog_1_method_18_code 38 = .ok (.ifCond .ge 14, 3) := by decide +kernel
theorem dX10_mark_41 : decode prog_1_method_18_code 41 = .ok (.new 250, 3) := by decide +kernel
theorem dX10_mark_44 : decode prog_1_method_18_code 44 = .ok (.dup, 1) := by decide +kernel
theorem dX10_mark_45 : decode prog_1_method_18_code 45 = .ok (.ldc_w 293, 3) := by decide +kernel
theorem dX10_mark_48 : decode prog_1_method_18_code 48 = .ok (.invokespecial 254, 3) := by decide +kernel
theorem dX10_mark_51 : decode prog_1_method_18_code 51 = .ok (.athrow, 1) := by decide +kernel
theorem dX10_mark_52 : decode prog_1_method_18_code 52 = .ok (.iload_n 3, 1) := by decide +kernel
theorem dX10_mark_53 : decode prog_1_method_18_code 53 = .ok (.ireturn, 1) := by decide +kernel
theorem nX10_level : zDs yX10_level 2 := ⟨by decide, by decide, by decide +kernel⟩
theorem dX10_level_0 : decode prog_1_method_19_code 0 = .ok (.aload_n 0, 1) := by decide +kernel
theorem dX10_level_1 : decode prog_1_method_19_code 1 = .ok (.getfield 10, 3) := by decide +kernel
theorem dX10_level_4 : decode prog_1_method_19_code 4 = .ok (.getfield 81, 3) := by decide +kernel
theorem dX10_level_7 : decode prog_1_method_19_code 7 = .ok (.iload_n 1, 1) := by decide +kernel
theorem dX10_level_8 : decode prog_1_method_19_code 8 = .ok (.invokevirtual 188, 3) := by decide +kernel
theorem dX10_level_11 : decode prog_1_method_19_code 11 = .ok (.ifCond .eq 17, 3) := by decide +kernel
theorem dX10_level_14 : decode prog_1_method_19_code 14 = .ok (.aload_n 0, 1) := by decide +kernel
theorem dX10_level_15 : decode prog_1_method_19_code 15 = .ok (.getfield 10, 3) := by decide +kernel
theorem dX10_level_18 : decode prog_1_method_19_code 18 = .ok (.getfield 96, 3) := by decide +kernel
theorem dX10_level_21 : decode prog_1_method_19_code 21 = .ok (.iload_n 2, 1) := by decide +kernel
theorem dX10_level_22 : decode prog_1_method_19_code 22 = .ok (.invokevirtual 226, 3) := by decide +kernel
theorem dX10_level_25 : decode prog_1_method_19_code 25 = .ok (.ifCond .ne 14, 3) := by decide +kernel
theorem dX10_level_28 : decode prog_1_method_19_code 28 = .ok (.new 192, 3) := by decide +kernel
theorem dX10_level_31 : decode prog_1_method_19_code 31 = .ok (.dup, 1) := by decide +kernel
theorem dX10_level_32 : decode prog_1_method_19_code 32 = .ok (.ldc_w 266, 3) := by decide +kernel
theorem dX10_level_35 : decode prog_1_method_19_code 35 = .ok (.invokespecial 196, 3) := by decide +kernel
theorem dX10_level_38 : decode prog_1_method_19_code 38 = .ok (.athrow, 1) := by decide +kernel
theorem dX10_level_39 : decode prog_1_method_19_code 39 = .ok (.aload_n 0, 1) := by decide +kernel
theorem dX10_level_40 : decode prog_1_method_19_code 40 = .ok (.getfield 10, 3) := by decide +kernel
theorem dX10_level_43 : decode prog_1_method_19_code 43 = .ok (.iload_n 1, 1) := by decide +kernel
theorem dX10_level_44 : decode prog_1_method_19_code 44 = .ok (.iload_n 2, 1) := by decide +kernel
theorem dX10_level_45 : decode prog_1_method_19_code 45 = .ok (.invokevirtual 295, 3) := by decide +kernel
theorem dX10_level_48 : decode prog_1_method_19_code 48 = .ok (.ireturn, 1) := by decide +kernel
theorem nX10_reads : zDs yX10_reads 2 := ⟨by decide, by decide, by decide +kernel⟩
theorem dX10_reads_0 : decode prog_1_method_20_code 0 = .ok (.aload_n 0, 1) := by decide +kernel
theorem dX10_reads_1 : decode prog_1_method_20_code 1 = .ok (.getfield 10, 3) := by decide +kernel
theorem dX10_reads_4 : decode prog_1_method_20_code 4 = .ok (.getfield 81, 3) := by decide +kernel
theorem dX10_reads_7 : decode prog_1_method_20_code 7 = .ok (.iload_n 1, 1) := by decide +kernel
theorem dX10_reads_8 : decode prog_1_method_20_code 8 = .ok (.invokevirtual 188, 3) := by decide +kernel
theorem dX10_reads_11 : decode prog_1_method_20_code 11 = .ok (.ifCond .eq 17, 3) := by decide +kernel
theorem dX10_reads_14 : decode prog_1_method_20_code 14 = .ok (.aload_n 0, 1) := by decide +kernel
theorem dX10_reads_15 : decode prog_1_method_20_code 15 = .ok (.getfield 10, 3) := by decide +kernel
theorem dX10_reads_18 : decode prog_1_method_20_code 18 = .ok (.getfield 96, 3) := by decide +kernel
theorem dX10_reads_21 : decode prog_1_method_20_code 21 = .ok (.iload_n 2, 1) := by decide +kernel
theorem dX10_reads_22 : decode prog_1_method_20_code 22 = .ok (.invokevirtual 226, 3) := by decide +kernel
theorem dX10_reads_25 : decode prog_1_method_20_code 25 = .ok (.ifCond .ne 14, 3) := by decide +kernel
theorem dX10_reads_28 : decode prog_1_method_20_code 28 = .ok (.new 192, 3) := by decide +kernel
theorem dX10_reads_31 : decode prog_1_method_20_code 31 = .ok (.dup, 1) := by decide +kernel
theorem dX10_reads_32 : decode prog_1_method_20_code 32 = .ok (.ldc_w 266, 3) := by decide +kernel
theorem dX10_reads_35 : decode prog_1_method_20_code 35 = .ok (.invokespecial 196, 3) := by decide +kernel
theorem dX10_reads_38 : decode prog_1_method_20_code 38 = .ok (.athrow, 1) := by decide +kernel
theorem dX10_reads_39 : decode prog_1_method_20_code 39 = .ok (.aload_n 0, 1) := by decide +kernel
theorem dX10_reads_40 : decode prog_1_method_20_code 40 = .ok (.getfield 10, 3) := by decide +kernel
theorem dX10_reads_43 : decode prog_1_method_20_code 43 = .ok (.iload_n 1, 1) := by decide +kernel
theorem dX10_reads_44 : decode prog_1_method_20_code 44 = .ok (.iload_n 2, 1) := by decide +kernel
theorem dX10_reads_45 : decode prog_1_method_20_code 45 = .ok (.invokevirtual 298, 3) := by decide +kernel
theorem dX10_reads_48 : decode prog_1_method_20_code 48 = .ok (.ireturn, 1) := by decide +kernel
theorem nX10_shift : zDs yX10_shift 1 := ⟨by decide, by decide, by decide +kernel⟩
theorem dX10_shift_0 : decode prog_1_method_21_code 0 = .ok (.iload_n 1, 1) := by decide +kernel
theorem dX10_shift_1 : decode prog_1_method_21_code 1 = .ok (.ifCond .lt 10, 3) := by decide +kernel
theorem dX10_shift_4 : decode prog_1_method_21_code 4 = .ok (.iload_n 1, 1) := by decide +kernel
theorem dX10_shift_5 : decode prog_1_method_21_code 5 = .ok (.sipush 999, 3) := by decide +kernel
theorem dX10_shift_8 : decode prog_1_method_21_code 8 = .ok (.if_icmp .le 14, 3) := by decide +kernel
theorem dX10_shift_11 : decode prog_1_method_21_code 11 = .ok (.new 221, 3) := by decide +kernel
theorem dX10_shift_14 : decode prog_1_method_21_code 14 = .ok (.dup, 1) := by decide +kernel
theorem dX10_shift_15 : decode prog_1_method_21_code 15 = .ok (.ldc_w 301, 3) := by decide +kernel
theorem dX10_shift_18 : decode prog_1_method_21_code 18 = .ok (.invokespecial 225, 3) := by decide +kernel
theorem dX10_shift_21 : decode prog_1_method_21_code 21 = .ok (.athrow, 1) := by decide +kernel
theorem dX10_shift_22 : decode prog_1_method_21_code 22 = .ok (.aload_n 0, 1) := by decide +kernel
theorem dX10_shift_23 : decode prog_1_method_21_code 23 = .ok (.getfield 10, 3) := by decide +kernel
theorem dX10_shift_26 : decode prog_1_method_21_code 26 = .ok (.getfield 107, 3) := by decide +kernel
theorem dX10_shift_29 : decode prog_1_method_21_code 29 = .ok (.iload_n 1, 1) := by decide +kernel
theorem dX10_shift_30 : decode prog_1_method_21_code 30 = .ok (.invokevirtual 303, 3) := by decide +kernel
theorem dX10_shift_33 : decode prog_1_method_21_code 33 = .ok (.ireturn, 1) := by decide +kernel
theorem nX10_errorIn : zDs yX10_errorIn 2 := ⟨by decide, by decide, by decide +kernel⟩
theorem dX10_errorIn_0 : decode prog_1_method_22_code 0 = .ok (.aload_n 0, 1) := by decide +kernel
theorem dX10_errorIn_1 : decode prog_1_method_22_code 1 = .ok (.getfield 10, 3) := by decide +kernel
theorem dX10_errorIn_4 : decode prog_1_method_22_code 4 = .ok (.getfield 81, 3) := by decide +kernel
theorem dX10_errorIn_7 : decode prog_1_method_22_code 7 = .ok (.iload_n 1, 1) := by decide +kernel
theorem dX10_errorIn_8 : decode prog_1_method_22_code 8 = .ok (.invokevirtual 188, 3) := by decide +kernel
theorem dX10_errorIn_11 : decode prog_1_method_22_code 11 = .ok (.ifCond .ne 13, 3) := by decide +kernel
theorem dX10_errorIn_14 : decode prog_1_method_22_code 14 = .ok (.new 192, 3) := by decide +kernel
theorem dX10_errorIn_17 : decode prog_1_method_22_code 17 = .ok (.dup, 1) := by decide +kernel
theorem dX10_errorIn_18 : decode prog_1_method_22_code 18 = .ok (.ldc 194, 2) := by decide +kernel
theorem dX10_errorIn_20 : decode prog_1_method_22_code 20 = .ok (.invokespecial 196, 3) := by decide +kernel
theorem dX10_errorIn_23 : decode prog_1_method_22_code 23 = .ok (.athrow, 1) := by decide +kernel
theorem dX10_errorIn_24 : decode prog_1_method_22_code 24 = .ok (.iload_n 2, 1) := by decide +kernel
theorem dX10_errorIn_25 : decode prog_1_method_22_code 25 = .ok (.ifCond .lt 9, 3) := by decide +kernel
theorem dX10_errorIn_28 : decode prog_1_method_22_code 28 = .ok (.iload_n 2, 1) := by decide +kernel
theorem dX10_errorIn_29 : decode prog_1_method_22_code 29 = .ok (.bipush 60, 2) := by decide +kernel
theorem dX10_errorIn_31 : decode prog_1_method_22_code 31 = .ok (.if_icmp .le 14, 3) := by decide +kernel
theorem dX10_errorIn_34 : decode prog_1_method_22_code 34 = .ok (.new 221, 3) := by decide +kernel
theorem dX10_errorIn_37 : decode prog_1_method_22_code 37 = .ok (.dup, 1) := by decide +kernel
theorem dX10_errorIn_38 : decode prog_1_method_22_code 38 = .ok (.ldc_w 306, 3) := by decide +kernel
theorem dX10_errorIn_41 : decode prog_1_method_22_code 41 = .ok (.invokespecial 225, 3) := by decide +kernel
theorem dX10_errorIn_44 : decode prog_1_method_22_code 44 = .ok (.athrow, 1) := by decide +kernel
theorem dX10_errorIn_45 : decode prog_1_method_22_code 45 = .ok (.aload_n 0, 1) := by decide +kernel
theorem dX10_errorIn_46 : decode prog_1_method_22_code 46 = .ok (.getfield 10, 3) := by decide +kernel
theorem dX10_errorIn_49 : decode prog_1_method_22_code 49 = .ok (.iload_n 1, 1) := by decide +kernel
theorem dX10_errorIn_50 : decode prog_1_method_22_code 50 = .ok (.iload_n 2, 1) := by decide +kernel
theorem dX10_errorIn_51 : decode prog_1_method_22_code 51 = .ok (.invokevirtual 308, 3) := by decide +kernel
theorem dX10_errorIn_54 : decode prog_1_method_22_code 54 = .ok (.ireturn, 1) := by decide +kernel
theorem nX10_rises : zDs yX10_rises 1 := ⟨by decide, by decide, by decide +kernel⟩
theorem dX10_rises_0 : decode prog_1_method_23_code 0 = .ok (.aload_n 0, 1) := by decide +kernel
theorem dX10_rises_1 : decode prog_1_method_23_code 1 = .ok (.getfield 10, 3) := by decide +kernel
theorem dX10_rises_4 : decode prog_1_method_23_code 4 = .ok (.getfield 81, 3) := by decide +kernel
theorem dX10_rises_7 : decode prog_1_method_23_code 7 = .ok (.iload_n 1, 1) := by decide +kernel
theorem dX10_rises_8 : decode prog_1_method_23_code 8 = .ok (.invokevirtual 188, 3) := by decide +kernel
theorem dX10_rises_11 : decode prog_1_method_23_code 11 = .ok (.ifCond .ne 13, 3) := by decide +kernel
theorem dX10_rises_14 : decode prog_1_method_23_code 14 = .ok (.new 192, 3) := by decide +kernel
theorem dX10_rises_17 : decode prog_1_method_23_code 17 = .ok (.dup, 1) := by decide +kernel
theorem dX10_rises_18 : decode prog_1_method_23_code 18 = .ok (.ldc 194, 2) := by decide +kernel
theorem dX10_rises_20 : decode prog_1_method_23_code 20 = .ok (.invokespecial 196, 3) := by decide +kernel
theorem dX10_rises_23 : decode prog_1_method_23_code 23 = .ok (.athrow, 1) := by decide +kernel
theorem dX10_rises_24 : decode prog_1_method_23_code 24 = .ok (.aload_n 0, 1) := by decide +kernel
theorem dX10_rises_25 : decode prog_1_method_23_code 25 = .ok (.getfield 10, 3) := by decide +kernel
theorem dX10_rises_28 : decode prog_1_method_23_code 28 = .ok (.iload_n 1, 1) := by decide +kernel
theorem dX10_rises_29 : decode prog_1_method_23_code 29 = .ok (.invokevirtual 218, 3) := by decide +kernel
theorem dX10_rises_32 : decode prog_1_method_23_code 32 = .ok (.ifCond .ne 7, 3) := by decide +kernel
theorem dX10_rises_35 : decode prog_1_method_23_code 35 = .ok (.iconst 1, 1) := by decide +kernel
theorem dX10_rises_36 : decode prog_1_method_23_code 36 = .ok (.goto 4, 3) := by decide +kernel
theorem dX10_rises_39 : decode prog_1_method_23_code 39 = .ok (.iconst 0, 1) := by decide +kernel
theorem dX10_rises_40 : decode prog_1_method_23_code 40 = .ok (.ireturn, 1) := by decide +kernel
theorem nX10_ranked : zDs yX10_ranked 1 := ⟨by decide, by decide, by decide +kernel⟩
theorem dX10_ranked_0 : decode prog_1_method_24_code 0 = .ok (.iconst 0, 1) := by decide +kernel
theorem dX10_ranked_1 : decode prog_1_method_24_code 1 = .ok (.istore_n 2, 1) := by decide +kernel
theorem dX10_ranked_2 : decode prog_1_method_24_code 2 = .ok (.iload_n 2, 1) := by decide +kernel
theorem dX10_ranked_3 : decode prog_1_method_24_code 3 = .ok (.aload_n 0, 1) := by decide +kernel
theorem dX10_ranked_4 : decode prog_1_method_24_code 4 = .ok (.getfield 10, 3) := by decide +kernel
theorem dX10_ranked_7 : decode prog_1_method_24_code 7 = .ok (.getfield 96, 3) := by decide +kernel
theorem dX10_ranked_10 : decode prog_1_method_24_code 10 = .ok (.getfield 311, 3) := by decide +kernel
theorem dX10_ranked_13 : decode prog_1_method_24_code 13 = .ok (.if_icmp .ge 25, 3) := by decide +kernel
theorem dX10_ranked_16 : decode prog_1_method_24_code 16 = .ok (.aload_n 0, 1) := by decide +kernel
theorem dX10_ranked_17 : decode prog_1_method_24_code 17 = .ok (.getfield 62, 3) := by decide +kernel
theorem dX10_ranked_20 : decode prog_1_method_24_code 20 = .ok (.iload_n 2, 1) := by decide +kernel
theorem dX10_ranked_21 : decode prog_1_method_24_code 21 = .ok (.aload_n 0, 1) := by decide +kernel
theorem dX10_ranked_22 : decode prog_1_method_24_code 22 = .ok (.getfield 10, 3) := by decide +kernel
theorem dX10_ranked_25 : decode prog_1_method_24_code 25 = .ok (.iload_n 2, 1) := by decide +kernel
theorem dX10_ranked_26 : decode prog_1_method_24_code 26 = .ok (.invokevirtual 244, 3) := by decide +kernel
theorem dX10_ranked_29 : decode prog_1_method_24_code 29 = .ok (.invokestatic 314, 3) := by decide +kernel
theorem dX10_ranked_32 : decode prog_1_method_24_code 32 = .ok (.iinc 2 1, 3) := by decide +kernel
theorem dX10_ranked_35 : decode prog_1_method_24_code 35 = .ok (.goto (-33), 3) := by decide +kernel
theorem dX10_ranked_38 : decode prog_1_method_24_code 38 = .ok (.aload_n 0, 1) := by decide +kernel
theorem dX10_ranked_39 : decode prog_1_method_24_code 39 = .ok (.getfield 10, 3) := by decide +kernel
theorem dX10_ranked_42 : decode prog_1_method_24_code 42 = .ok (.iload_n 1, 1) := by decide +kernel
theorem dX10_ranked_43 : decode prog_1_method_24_code 43 = .ok (.aload_n 0, 1) := by decide +kernel
theorem dX10_ranked_44 : decode prog_1_method_24_code 44 = .ok (.getfield 62, 3) := by decide +kernel
theorem dX10_ranked_47 : decode prog_1_method_24_code 47 = .ok (.invokevirtual 318, 3) := by decide +kernel
theorem dX10_ranked_50 : decode prog_1_method_24_code 50 = .ok (.istore_n 2, 1) := by decide +kernel
theorem dX10_ranked_51 : decode prog_1_method_24_code 51 = .ok (.iload_n 2, 1) := by decide +kernel
theorem dX10_ranked_52 : decode prog_1_method_24_code 52 = .ok (.ifCond .ge 14, 3) := by decide +kernel
theorem dX10_ranked_55 : decode prog_1_method_24_code 55 = .ok (.new 250, 3) := by decide +kernel
theorem dX10_ranked_58 : decode prog_1_method_24_code 58 = .ok (.dup, 1) := by decide +kernel
theorem dX10_ranked_59 : decode prog_1_method_24_code 59 = .ok (.ldc_w 322, 3) := by decide +kernel
theorem dX10_ranked_62 : decode prog_1_method_24_code 62 = .ok (.invokespecial 254, 3) := by decide +kernel
theorem dX10_ranked_65 : decode prog_1_method_24_code 65 = .ok (.athrow, 1) := by decide +kernel
theorem dX10_ranked_66 : decode prog_1_method_24_code 66 = .ok (.iload_n 2, 1) := by decide +kernel
theorem dX10_ranked_67 : decode prog_1_method_24_code 67 = .ok (.ireturn, 1) := by decide +kernel
theorem nX10_doubts : zDs yX10_doubts 0 := ⟨by decide, by decide, by decide +kernel⟩
theorem dX10_doubts_0 : decode prog_1_method_25_code 0 = .ok (.aload_n 0, 1) := by decide +kernel
theorem dX10_doubts_1 : decode prog_1_method_25_code 1 = .ok (.getfield 10, 3) := by decide +kernel
theorem dX10_doubts_4 : decode prog_1_method_25_code 4 = .ok (.invokevirtual 324, 3) := by decide +kernel
theorem dX10_doubts_7 : decode prog_1_method_25_code 7 = .ok (.ireturn, 1) := by decide +kernel
theorem nX10_doubtsAgain : zDs yX10_doubtsAgain 0 := ⟨by decide, by decide, by decide +kernel⟩
theorem dX10_doubtsAgain_0 : decode prog_1_method_26_code 0 = .ok (.aload_n 0, 1) := by decide +kernel
theorem dX10_doubtsAgain_1 : decode prog_1_method_26_code 1 = .ok (.getfield 10, 3) := by decide +kernel
theorem dX10_doubtsAgain_4 : decode prog_1_method_26_code 4 = .ok (.invokevirtual 327, 3) := by decide +kernel
theorem dX10_doubtsAgain_7 : decode prog_1_method_26_code 7 = .ok (.ireturn, 1) := by decide +kernel
theorem nX10_append : zDs yX10_append 1 := ⟨by decide, by decide, by decide +kernel⟩
theorem dX10_append_0 : decode prog_1_method_27_code 0 = .ok (.aload_n 0, 1) := by decide +kernel
theorem dX10_append_1 : decode prog_1_method_27_code 1 = .ok (.getfield 45, 3) := by decide +kernel
theorem dX10_append_4 : decode prog_1_method_27_code 4 = .ok (.invokevirtual 330, 3) := by decide +kernel
theorem dX10_append_7 : decode prog_1_method_27_code 7 = .ok (.ifCond .eq 14, 3) := by decide +kernel
theorem dX10_append_10 : decode prog_1_method_27_code 10 = .ok (.new 334, 3) := by decide +kernel
theorem dX10_append_13 : decode prog_1_method_27_code 13 = .ok (.dup, 1) := by decide +kernel
theorem dX10_append_14 : decode prog_1_method_27_code 14 = .ok (.ldc_w 336, 3) := by decide +kernel
theorem dX10_append_17 : decode prog_1_method_27_code 17 = .ok (.invokespecial 338, 3) := by decide +kernel
theorem dX10_append_20 : decode prog_1_method_27_code 20 = .ok (.athrow, 1) := by decide +kernel
theorem dX10_append_21 : decode prog_1_method_27_code 21 = .ok (.aload_n 0, 1) := by decide +kernel
theorem dX10_append_22 : decode prog_1_method_27_code 22 = .ok (.getfield 45, 3) := by decide +kernel
theorem dX10_append_25 : decode prog_1_method_27_code 25 = .ok (.iload_n 1, 1) := by decide +kernel
theorem dX10_append_26 : decode prog_1_method_27_code 26 = .ok (.invokevirtual 339, 3) := by decide +kernel
theorem dX10_append_29 : decode prog_1_method_27_code 29 = .ok (.ireturn, 1) := by decide +kernel
theorem nX10_commands : zDs yX10_commands 0 := ⟨by decide, by decide, by decide +kernel⟩
theorem dX10_commands_0 : decode prog_1_method_28_code 0 = .ok (.aload_n 0, 1) := by decide +kernel
theorem dX10_commands_1 : decode prog_1_method_28_code 1 = .ok (.aload_n 0, 1) := by decide +kernel
theorem dX10_commands_2 : decode prog_1_method_28_code 2 = .ok (.getfield 45, 3) := by decide +kernel
theorem dX10_commands_5 : decode prog_1_method_28_code 5 = .ok (.invokevirtual 343, 3) := by decide +kernel
theorem dX10_commands_8 : decode prog_1_method_28_code 8 = .ok (.putfield 49, 3) := by decide +kernel
theorem dX10_commands_11 : decode prog_1_method_28_code 11 = .ok (.aload_n 0, 1) := by decide +kernel
theorem dX10_commands_12 : decode prog_1_method_28_code 12 = .ok (.getfield 45, 3) := by decide +kernel
theorem dX10_commands_15 : decode prog_1_method_28_code 15 = .ok (.invokevirtual 346, 3) := by decide +kernel
theorem dX10_commands_18 : decode prog_1_method_28_code 18 = .ok (.aload_n 0, 1) := by decide +kernel
theorem dX10_commands_19 : decode prog_1_method_28_code 19 = .ok (.getfield 49, 3) := by decide +kernel
theorem dX10_commands_22 : decode prog_1_method_28_code 22 = .ok (.ifCond .lt 14, 3) := by decide +kernel
theorem dX10_commands_25 : decode prog_1_method_28_code 25 = .ok (.new 221, 3) := by decide +kernel
theorem dX10_commands_28 : decode prog_1_method_28_code 28 = .ok (.dup, 1) := by decide +kernel
theorem dX10_commands_29 : decode prog_1_method_28_code 29 = .ok (.ldc_w 349, 3) := by decide +kernel
theorem dX10_commands_32 : decode prog_1_method_28_code 32 = .ok (.invokespecial 225, 3) := by decide +kernel
theorem dX10_commands_35 : decode prog_1_method_28_code 35 = .ok (.athrow, 1) := by decide +kernel
theorem dX10_commands_36 : decode prog_1_method_28_code 36 = .ok (.aload_n 0, 1) := by decide +kernel
theorem dX10_commands_37 : decode prog_1_method_28_code 37 = .ok (.getfield 16, 3) := by decide +kernel
theorem dX10_commands_40 : decode prog_1_method_28_code 40 = .ok (.aload_n 0, 1) := by decide +kernel
theorem dX10_commands_41 : decode prog_1_method_28_code 41 = .ok (.getfield 10, 3) := by decide +kernel
theorem dX10_commands_44 : decode prog_1_method_28_code 44 = .ok (.invokevirtual 351, 3) := by decide +kernel
theorem dX10_commands_47 : decode prog_1_method_28_code 47 = .ok (.aload_n 0, 1) := by decide +kernel
theorem dX10_commands_48 : decode prog_1_method_28_code 48 = .ok (.getfield 45, 3) := by decide +kernel
theorem dX10_commands_51 : decode prog_1_method_28_code 51 = .ok (.getfield 354, 3) := by decide +kernel
theorem dX10_commands_54 : decode prog_1_method_28_code 54 = .ok (.istore_n 1, 1) := by decide +kernel
theorem dX10_commands_55 : decode prog_1_method_28_code 55 = .ok (.iconst 0, 1) := by decide +kernel
theorem dX10_commands_56 : decode prog_1_method_28_code 56 = .ok (.istore_n 2, 1) := by decide +kernel
theorem dX10_commands_57 : decode prog_1_method_28_code 57 = .ok (.iload_n 2, 1) := by decide +kernel
theorem dX10_commands_58 : decode prog_1_method_28_code 58 = .ok (.iload_n 1, 1) := by decide +kernel
theorem dX10_commands_59 : decode prog_1_method_28_code 59 = .ok (.if_icmp .ge 41, 3) := by decide +kernel
theorem dX10_commands_62 : decode prog_1_method_28_code 62 = .ok (.aload_n 0, 1) := by decide +kernel
theorem dX10_commands_63 : decode prog_1_method_28_code 63 = .ok (.iload_n 2, 1) := by decide +kernel
theorem dX10_commands_64 : decode prog_1_method_28_code 64 = .ok (.invokevirtual 357, 3) := by decide +kernel
theorem dX10_commands_67 : decode prog_1_method_28_code 67 = .ok (.ifCond .eq 22, 3) := by decide +kernel
theorem dX10_commands_70 : decode prog_1_method_28_code 70 = .ok (.aload_n 0, 1) := by decide +kernel
theorem dX10_commands_71 : decode prog_1_method_28_code 71 = .ok (.getfield 38, 3) := by decide +kernel
theorem dX10_commands_74 : decode prog_1_method_28_code 74 = .ok (.iload_n 2, 1) := by decide +kernel
theorem dX10_commands_75 : decode prog_1_method_28_code 75 = .ok (.putfield 360, 3) := by decide +kernel
theorem dX10_commands_78 : decode prog_1_method_28_code 78 = .ok (.new 70, 3) := by decide +kernel
theorem dX10_commands_81 : decode prog_1_method_28_code 81 = .ok (.dup, 1) := by decide +kernel
theorem dX10_commands_82 : decode prog_1_method_28_code 82 = .ok (.ldc_w 363, 3) := by decide +kernel
theorem dX10_commands_85 : decode prog_1_method_28_code 85 = .ok (.invokespecial 74, 3) := by decide +kernel
theorem dX10_commands_88 : decode prog_1_method_28_code 88 = .ok (.athrow, 1) := by decide +kernel
theorem dX10_commands_89 : decode prog_1_method_28_code 89 = .ok (.aload_n 0, 1) := by decide +kernel
theorem dX10_commands_90 : decode prog_1_method_28_code 90 = .ok (.iload_n 2, 1) := by decide +kernel
theorem dX10_commands_91 : decode prog_1_method_28_code 91 = .ok (.invokevirtual 365, 3) := by decide +kernel
theorem dX10_commands_94 : decode prog_1_method_28_code 94 = .ok (.iinc 2 1, 3) := by decide +kernel
theorem dX10_commands_97 : decode prog_1_method_28_code 97 = .ok (.goto (-40), 3) := by decide +kernel
theorem dX10_commands_100 : decode prog_1_method_28_code 100 = .ok (.aload_n 0, 1) := by decide +kernel
theorem dX10_commands_101 : decode prog_1_method_28_code 101 = .ok (.getfield 31, 3) := by decide +kernel
theorem dX10_commands_104 : decode prog_1_method_28_code 104 = .ok (.aload_n 0, 1) := by decide +kernel
theorem dX10_commands_105 : decode prog_1_method_28_code 105 = .ok (.getfield 10, 3) := by decide +kernel
theorem dX10_commands_108 : decode prog_1_method_28_code 108 = .ok (.invokevirtual 77, 3) := by decide +kernel
theorem dX10_commands_111 : decode prog_1_method_28_code 111 = .ok (.aload_n 0, 1) := by decide +kernel
theorem dX10_commands_112 : decode prog_1_method_28_code 112 = .ok (.getfield 10, 3) := by decide +kernel
theorem dX10_commands_115 : decode prog_1_method_28_code 115 = .ok (.aload_n 0, 1) := by decide +kernel
theorem dX10_commands_116 : decode prog_1_method_28_code 116 = .ok (.getfield 16, 3) := by decide +kernel
theorem dX10_commands_119 : decode prog_1_method_28_code 119 = .ok (.invokevirtual 351, 3) := by decide +kernel
theorem dX10_commands_122 : decode prog_1_method_28_code 122 = .ok (.iload_n 1, 1) := by decide +kernel
theorem dX10_commands_123 : decode prog_1_method_28_code 123 = .ok (.ireturn, 1) := by decide +kernel
theorem nX10_isRefused : zDs yX10_isRefused 1 := ⟨by decide, by decide, by decide +kernel⟩
theorem dX10_isRefused_0 : decode prog_1_method_29_code 0 = .ok (.aload_n 0, 1) := by decide +kernel
theorem dX10_isRefused_1 : decode prog_1_method_29_code 1 = .ok (.getfield 45, 3) := by decide +kernel
theorem dX10_isRefused_4 : decode prog_1_method_29_code 4 = .ok (.iload_n 1, 1) := by decide +kernel
theorem dX10_isRefused_5 : decode prog_1_method_29_code 5 = .ok (.iconst 0, 1) := by decide +kernel
theorem dX10_isRefused_6 : decode prog_1_method_29_code 6 = .ok (.invokevirtual 368, 3) := by decide +kernel
theorem dX10_isRefused_9 : decode prog_1_method_29_code 9 = .ok (.istore_n 2, 1) := by decide +kernel
theorem dX10_isRefused_10 : decode prog_1_method_29_code 10 = .ok (.aload_n 0, 1) := by decide +kernel
theorem dX10_isRefused_11 : decode prog_1_method_29_code 11 = .ok (.getfield 45, 3) := by decide +kernel
theorem dX10_isRefused_14 : decode prog_1_method_29_code 14 = .ok (.iload_n 1, 1) := by decide +kernel
theorem dX10_isRefused_15 : decode prog_1_method_29_code 15 = .ok (.iconst 1, 1) := by decide +kernel
theorem dX10_isRefused_16 : decode prog_1_method_29_code 16 = .ok (.invokevirtual 368, 3) := by decide +kernel
theorem dX10_isRefused_19 : decode prog_1_method_29_code 19 = .ok (.istore_n 3, 1) := by decide +kernel
theorem dX10_isRefused_20 : decode prog_1_method_29_code 20 = .ok (.aload_n 0, 1) := by decide +kernel
theorem dX10_isRefused_21 : decode prog_1_method_29_code 21 = .ok (.getfield 45, 3) := by decide +kernel
theorem dX10_isRefused_24 : decode prog_1_method_29_code 24 = .ok (.iload_n 1, 1) := by decide +kernel
theorem dX10_isRefused_25 : decode prog_1_method_29_code 25 = .ok (.invokevirtual 371, 3) := by decide +kernel
theorem dX10_isRefused_28 : decode prog_1_method_29_code 28 = .ok (.tableswitch 149 107 120 #[109, 149, 72, 149, 149, 149, 149, 149, 122, 149, 149, 149, 135, 95], 72) := by decide +kernel
theorem dX10_isRefused_100 : decode prog_1_method_29_code 100 = .ok (.aload_n 0, 1) := by decide +kernel
theorem dX10_isRefused_101 : decode prog_1_method_29_code 101 = .ok (.getfield 16, 3) := by decide +kernel
theorem dX10_isRefused_104 : decode prog_1_method_29_code 104 = .ok (.iload_n 2, 1) := by decide +kernel
theorem dX10_isRefused_105 : decode prog_1_method_29_code 105 = .ok (.iload_n 3, 1) := by decide +kernel
theorem dX10_isRefused_106 : decode prog_1_method_29_code 106 = .ok (.aload_n 0, 1) := by decide +kernel
theorem dX10_isRefused_107 : decode prog_1_method_29_code 107 = .ok (.getfield 45, 3) := by decide +kernel
theorem dX10_isRefused_110 : decode prog_1_method_29_code 110 = .ok (.iload_n 1, 1) := by decide +kernel
theorem dX10_isRefused_111 : decode prog_1_method_29_code 111 = .ok (.iconst 2, 1) := by decide +kernel
theorem dX10_isRefused_112 : decode prog_1_method_29_code 112 = .ok (.invokevirtual 368, 3) := by decide +kernel
theorem dX10_isRefused_115 : decode prog_1_method_29_code 115 = .ok (.aload_n 0, 1) := by decide +kernel
theorem dX10_isRefused_116 : decode prog_1_method_29_code 116 = .ok (.getfield 38, 3) := by decide +kernel
theorem dX10_isRefused_119 : decode prog_1_method_29_code 119 = .ok (.invokevirtual 132, 3) := by decide +kernel
theorem dX10_isRefused_122 : decode prog_1_method_29_code 122 = .ok (.ireturn, 1) := by decide +kernel
theorem dX10_isRefused_123 : decode prog_1_method_29_code 123 = .ok (.aload_n 0, 1) := by decide +kernel
theorem dX10_isRefused_124 : decode prog_1_method_29_code 124 = .ok (.getfield 16, 3) := by decide +kernel
theorem dX10_isRefused_127 : decode prog_1_method_29_code 127 = .ok (.iload_n 2, 1) := by decide +kernel
theorem dX10_isRefused_128 : decode prog_1_method_29_code 128 = .ok (.iload_n 3, 1) := by decide +kernel
theorem dX10_isRefused_129 : decode prog_1_method_29_code 129 = .ok (.aload_n 0, 1) := by decide +kernel
theorem dX10_isRefused_130 : decode prog_1_method_29_code 130 = .ok (.getfield 38, 3) := by decide +kernel
theorem dX10_isRefused_133 : decode prog_1_method_29_code 133 = .ok (.invokevirtual 140, 3) := by decide +kernel
theorem dX10_isRefused_136 : decode prog_1_method_29_code 136 = .ok (.ireturn, 1) := by decide +kernel
theorem dX10_isRefused_137 : decode prog_1_method_29_code 137 = .ok (.aload_n 0, 1) := by decide +kernel
theorem dX10_isRefused_138 : decode prog_1_method_29_code 138 = .ok (.getfield 16, 3) := by decide +kernel
theorem dX10_isRefused_141 : decode prog_1_method_29_code 141 = .ok (.iload_n 2, 1) := by decide +kernel
theorem dX10_isRefused_142 : decode prog_1_method_29_code 142 = .ok (.aload_n 0, 1) := by decide +kernel
theorem dX10_isRefused_143 : decode prog_1_method_29_code 143 = .ok (.getfield 38, 3) := by decide +kernel
theorem dX10_isRefused_146 : decode prog_1_method_29_code 146 = .ok (.invokevirtual 164, 3) := by decide +kernel
theorem dX10_isRefused_149 : decode prog_1_method_29_code 149 = .ok (.ireturn, 1) := by decide +kernel
theorem dX10_isRefused_150 : decode prog_1_method_29_code 150 = .ok (.aload_n 0, 1) := by decide +kernel
theorem dX10_isRefused_151 : decode prog_1_method_29_code 151 = .ok (.getfield 16, 3) := by decide +kernel
theorem dX10_isRefused_154 : decode prog_1_method_29_code 154 = .ok (.iload_n 2, 1) := by decide +kernel
theorem dX10_isRefused_155 : decode prog_1_method_29_code 155 = .ok (.aload_n 0, 1) := by decide +kernel
theorem dX10_isRefused_156 : decode prog_1_method_29_code 156 = .ok (.getfield 38, 3) := by decide +kernel
theorem dX10_isRefused_159 : decode prog_1_method_29_code 159 = .ok (.invokevirtual 154, 3) := by decide +kernel
theorem dX10_isRefused_162 : decode prog_1_method_29_code 162 = .ok (.ireturn, 1) := by decide +kernel
theorem dX10_isRefused_163 : decode prog_1_method_29_code 163 = .ok (.aload_n 0, 1) := by decide +kernel
theorem dX10_isRefused_164 : decode prog_1_method_29_code 164 = .ok (.getfield 16, 3) := by decide +kernel
theorem dX10_isRefused_167 : decode prog_1_method_29_code 167 = .ok (.iload_n 2, 1) := by decide +kernel
theorem dX10_isRefused_168 : decode prog_1_method_29_code 168 = .ok (.iload_n 3, 1) := by decide +kernel
theorem dX10_isRefused_169 : decode prog_1_method_29_code 169 = .ok (.aload_n 0, 1) := by decide +kernel
theorem dX10_isRefused_170 : decode prog_1_method_29_code 170 = .ok (.getfield 38, 3) := by decide +kernel
theorem dX10_isRefused_173 : decode prog_1_method_29_code 173 = .ok (.invokevirtual 172, 3) := by decide +kernel
theorem dX10_isRefused_176 : decode prog_1_method_29_code 176 = .ok (.ireturn, 1) := by decide +kernel
theorem dX10_isRefused_177 : decode prog_1_method_29_code 177 = .ok (.aload_n 0, 1) := by decide +kernel
theorem dX10_isRefused_178 : decode prog_1_method_29_code 178 = .ok (.getfield 16, 3) := by decide +kernel
theorem dX10_isRefused_181 : decode prog_1_method_29_code 181 = .ok (.iload_n 2, 1) := by decide +kernel
theorem dX10_isRefused_182 : decode prog_1_method_29_code 182 = .ok (.aload_n 0, 1) := by decide +kernel
theorem dX10_isRefused_183 : decode prog_1_method_29_code 183 = .ok (.getfield 38, 3) := by decide +kernel
theorem dX10_isRefused_186 : decode prog_1_method_29_code 186 = .ok (.invokevirtual 180, 3) := by decide +kernel
theorem dX10_isRefused_189 : decode prog_1_method_29_code 189 = .ok (.ireturn, 1) := by decide +kernel
theorem nX10_carryOut : zDs yX10_carryOut 1 := ⟨by decide, by decide, by decide +kernel⟩
theorem dX10_carryOut_0 : decode prog_1_method_30_code 0 = .ok (.aload_n 0, 1) := by decide +kernel
theorem dX10_carryOut_1 : decode prog_1_method_30_code 1 = .ok (.getfield 45, 3) := by decide +kernel
theorem dX10_carryOut_4 : decode prog_1_method_30_code 4 = .ok (.iload_n 1, 1) := by decide +kernel
theorem dX10_carryOut_5 : decode prog_1_method_30_code 5 = .ok (.iconst 0, 1) := by decide +kernel
theorem dX10_carryOut_6 : decode prog_1_method_30_code 6 = .ok (.invokevirtual 368, 3) := by decide +kernel
theorem dX10_carryOut_9 : decode prog_1_method_30_code 9 = .ok (.istore_n 2, 1) := by decide +kernel
theorem dX10_carryOut_10 : decode prog_1_method_30_code 10 = .ok (.aload_n 0, 1) := by decide +kernel
theorem dX10_carryOut_11 : decode prog_1_method_30_code 11 = .ok (.getfield 45, 3) := by decide +kernel
theorem dX10_carryOut_14 : decode prog_1_method_30_code 14 = .ok (.iload_n 1, 1) := by decide +kernel
theorem dX10_carryOut_15 : decode prog_1_method_30_code 15 = .ok (.iconst 1, 1) := by decide +kernel
theorem dX10_carryOut_16 : decode prog_1_method_30_code 16 = .ok (.invokevirtual 368, 3) := by decide +kernel
theorem dX10_carryOut_19 : decode prog_1_method_30_code 19 = .ok (.istore_n 3, 1) := by decide +kernel
theorem dX10_carryOut_20 : decode prog_1_method_30_code 20 = .ok (.aload_n 0, 1) := by decide +kernel
theorem dX10_carryOut_21 : decode prog_1_method_30_code 21 = .ok (.getfield 45, 3) := by decide +kernel
theorem dX10_carryOut_24 : decode prog_1_method_30_code 24 = .ok (.iload_n 1, 1) := by decide +kernel
theorem dX10_carryOut_25 : decode prog_1_method_30_code 25 = .ok (.invokevirtual 371, 3) := by decide +kernel
theorem dX10_carryOut_28 : decode prog_1_method_30_code 28 = .ok (.tableswitch 156 107 120 #[110, 156, 72, 156, 156, 156, 156, 156, 125, 156, 156, 156, 140, 94], 72) := by decide +kernel
theorem dX10_carryOut_100 : decode prog_1_method_30_code 100 = .ok (.aload_n 0, 1) := by decide +kernel
theorem dX10_carryOut_101 : decode prog_1_method_30_code 101 = .ok (.getfield 16, 3) := by decide +kernel
theorem dX10_carryOut_104 : decode prog_1_method_30_code 104 = .ok (.iload_n 2, 1) := by decide +kernel
theorem dX10_carryOut_105 : decode prog_1_method_30_code 105 = .ok (.iload_n 3, 1) := by decide +kernel
theorem dX10_carryOut_106 : decode prog_1_method_30_code 106 = .ok (.aload_n 0, 1) := by decide +kernel
theorem dX10_carryOut_107 : decode prog_1_method_30_code 107 = .ok (.getfield 45, 3) := by decide +kernel
theorem dX10_carryOut_110 : decode prog_1_method_30_code 110 = .ok (.iload_n 1, 1) := by decide +kernel
theorem dX10_carryOut_111 : decode prog_1_method_30_code 111 = .ok (.iconst 2, 1) := by decide +kernel
theorem dX10_carryOut_112 : decode prog_1_method_30_code 112 = .ok (.invokevirtual 368, 3) := by decide +kernel
theorem dX10_carryOut_115 : decode prog_1_method_30_code 115 = .ok (.invokevirtual 137, 3) := by decide +kernel
theorem dX10_carryOut_118 : decode prog_1_method_30_code 118 = .ok (.pop, 1) := by decide +kernel
theorem dX10_carryOut_119 : decode prog_1_method_30_code 119 = .ok (.goto 74, 3) := by decide +kernel
theorem dX10_carryOut_122 : decode prog_1_method_30_code 122 = .ok (.aload_n 0, 1) := by decide +kernel
theorem dX10_carryOut_123 : decode prog_1_method_30_code 123 = .ok (.getfield 16, 3) := by decide +kernel
theorem dX10_carryOut_126 : decode prog_1_method_30_code 126 = .ok (.getfield 145, 3) := by decide +kernel
theorem dX10_carryOut_129 : decode prog_1_method_30_code 129 = .ok (.iload_n 2, 1) := by decide +kernel
theorem dX10_carryOut_130 : decode prog_1_method_30_code 130 = .ok (.iload_n 3, 1) := by decide +kernel
theorem dX10_carryOut_131 : decode prog_1_method_30_code 131 = .ok (.invokevirtual 149, 3) := by decide +kernel
theorem dX10_carryOut_134 : decode prog_1_method_30_code 134 = .ok (.pop, 1) := by decide +kernel
theorem dX10_carryOut_135 : decode prog_1_method_30_code 135 = .ok (.goto 58, 3) := by decide +kernel
theorem dX10_carryOut_138 : decode prog_1_method_30_code 138 = .ok (.aload_n 0, 1) := by decide +kernel
theorem dX10_carryOut_139 : decode prog_1_method_30_code 139 = .ok (.getfield 16, 3) := by decide +kernel
theorem dX10_carryOut_142 : decode prog_1_method_30_code 142 = .ok (.getfield 81, 3) := by decide +kernel
theorem dX10_carryOut_145 : decode prog_1_method_30_code 145 = .ok (.iload_n 2, 1) := by decide +kernel
theorem dX10_carryOut_146 : decode prog_1_method_30_code 146 = .ok (.invokevirtual 169, 3) := by decide +kernel
theorem dX10_carryOut_149 : decode prog_1_method_30_code 149 = .ok (.pop, 1) := by decide +kernel
theorem dX10_carryOut_150 : decode prog_1_method_30_code 150 = .ok (.goto 43, 3) := by decide +kernel
theorem dX10_carryOut_153 : decode prog_1_method_30_code 153 = .ok (.aload_n 0, 1) := by decide +kernel
theorem dX10_carryOut_154 : decode prog_1_method_30_code 154 = .ok (.getfield 16, 3) := by decide +kernel
theorem dX10_carryOut_157 : decode prog_1_method_30_code 157 = .ok (.getfield 123, 3) := by decide +kernel
theorem dX10_carryOut_160 : decode prog_1_method_30_code 160 = .ok (.iload_n 2, 1) := by decide +kernel
theorem dX10_carryOut_161 : decode prog_1_method_30_code 161 = .ok (.invokevirtual 160, 3) := by decide +kernel
theorem dX10_carryOut_164 : decode prog_1_method_30_code 164 = .ok (.pop, 1) := by decide +kernel
theorem dX10_carryOut_165 : decode prog_1_method_30_code 165 = .ok (.goto 28, 3) := by decide +kernel
theorem dX10_carryOut_168 : decode prog_1_method_30_code 168 = .ok (.aload_n 0, 1) := by decide +kernel
theorem dX10_carryOut_169 : decode prog_1_method_30_code 169 = .ok (.getfield 16, 3) := by decide +kernel
theorem dX10_carryOut_172 : decode prog_1_method_30_code 172 = .ok (.getfield 96, 3) := by decide +kernel
theorem dX10_carryOut_175 : decode prog_1_method_30_code 175 = .ok (.iload_n 2, 1) := by decide +kernel
theorem dX10_carryOut_176 : decode prog_1_method_30_code 176 = .ok (.iload_n 3, 1) := by decide +kernel
theorem dX10_carryOut_177 : decode prog_1_method_30_code 177 = .ok (.invokevirtual 177, 3) := by decide +kernel
theorem dX10_carryOut_180 : decode prog_1_method_30_code 180 = .ok (.pop, 1) := by decide +kernel
theorem dX10_carryOut_181 : decode prog_1_method_30_code 181 = .ok (.goto 12, 3) := by decide +kernel
theorem dX10_carryOut_184 : decode prog_1_method_30_code 184 = .ok (.aload_n 0, 1) := by decide +kernel
theorem dX10_carryOut_185 : decode prog_1_method_30_code 185 = .ok (.getfield 16, 3) := by decide +kernel
theorem dX10_carryOut_188 : decode prog_1_method_30_code 188 = .ok (.iload_n 2, 1) := by decide +kernel
theorem dX10_carryOut_189 : decode prog_1_method_30_code 189 = .ok (.invokevirtual 185, 3) := by decide +kernel
theorem dX10_carryOut_192 : decode prog_1_method_30_code 192 = .ok (.pop, 1) := by decide +kernel
theorem dX10_carryOut_193 : decode prog_1_method_30_code 193 = .ok (.return_, 1) := by decide +kernel
theorem nX10_faultPosition : zDs yX10_faultPosition 0 := ⟨by decide, by decide, by decide +kernel⟩
theorem dX10_faultPosition_0 : decode prog_1_method_31_code 0 = .ok (.aload_n 0, 1) := by decide +kernel
theorem dX10_faultPosition_1 : decode prog_1_method_31_code 1 = .ok (.getfield 49, 3) := by decide +kernel
theorem dX10_faultPosition_4 : decode prog_1_method_31_code 4 = .ok (.ireturn, 1) := by decide +kernel
theorem nX10_reason : zDs yX10_reason 1 := ⟨by decide, by decide, by decide +kernel⟩
theorem dX10_reason_0 : decode prog_1_method_32_code 0 = .ok (.iload_n 1, 1) := by decide +kernel
theorem dX10_reason_1 : decode prog_1_method_32_code 1 = .ok (.ifCond .lt 8, 3) := by decide +kernel
theorem dX10_reason_4 : decode prog_1_method_32_code 4 = .ok (.iload_n 1, 1) := by decide +kernel
theorem dX10_reason_5 : decode prog_1_method_32_code 5 = .ok (.iconst 2, 1) := by decide +kernel
theorem dX10_reason_6 : decode prog_1_method_32_code 6 = .ok (.if_icmp .le 14, 3) := by decide +kernel
theorem dX10_reason_9 : decode prog_1_method_32_code 9 = .ok (.new 221, 3) := by decide +kernel
theorem dX10_reason_12 : decode prog_1_method_32_code 12 = .ok (.dup, 1) := by decide +kernel
theorem dX10_reason_13 : decode prog_1_method_32_code 13 = .ok (.ldc_w 374, 3) := by decide +kernel
theorem dX10_reason_16 : decode prog_1_method_32_code 16 = .ok (.invokespecial 225, 3) := by decide +kernel
theorem dX10_reason_19 : decode prog_1_method_32_code 19 = .ok (.athrow, 1) := by decide +kernel
theorem dX10_reason_20 : decode prog_1_method_32_code 20 = .ok (.aload_n 0, 1) := by decide +kernel
theorem dX10_reason_21 : decode prog_1_method_32_code 21 = .ok (.getfield 38, 3) := by decide +kernel
theorem dX10_reason_24 : decode prog_1_method_32_code 24 = .ok (.getfield 376, 3) := by decide +kernel
theorem dX10_reason_27 : decode prog_1_method_32_code 27 = .ok (.ifCond .ne 14, 3) := by decide +kernel
theorem dX10_reason_30 : decode prog_1_method_32_code 30 = .ok (.new 250, 3) := by decide +kernel
theorem dX10_reason_33 : decode prog_1_method_32_code 33 = .ok (.dup, 1) := by decide +kernel
theorem dX10_reason_34 : decode prog_1_method_32_code 34 = .ok (.ldc_w 379, 3) := by decide +kernel
theorem dX10_reason_37 : decode prog_1_method_32_code 37 = .ok (.invokespecial 254, 3) := by decide +kernel
theorem dX10_reason_40 : decode prog_1_method_32_code 40 = .ok (.athrow, 1) := by decide +kernel
theorem dX10_reason_41 : decode prog_1_method_32_code 41 = .ok (.iload_n 1, 1) := by decide +kernel
theorem dX10_reason_42 : decode prog_1_method_32_code 42 = .ok (.lookupswitch 42 #[(0, 26), (1, 34)], 26) := by decide +kernel
theorem dX10_reason_68 : decode prog_1_method_32_code 68 = .ok (.aload_n 0, 1) := by decide +kernel
theorem dX10_reason_69 : decode prog_1_method_32_code 69 = .ok (.getfield 38, 3) := by decide +kernel
theorem dX10_reason_72 : decode prog_1_method_32_code 72 = .ok (.getfield 376, 3) := by decide +kernel
theorem dX10_reason_75 : decode prog_1_method_32_code 75 = .ok (.ireturn, 1) := by decide +kernel
theorem dX10_reason_76 : decode prog_1_method_32_code 76 = .ok (.aload_n 0, 1) := by decide +kernel
theorem dX10_reason_77 : decode prog_1_method_32_code 77 = .ok (.getfield 38, 3) := by decide +kernel
theorem dX10_reason_80 : decode prog_1_method_32_code 80 = .ok (.getfield 381, 3) := by decide +kernel
theorem dX10_reason_83 : decode prog_1_method_32_code 83 = .ok (.ireturn, 1) := by decide +kernel
theorem dX10_reason_84 : decode prog_1_method_32_code 84 = .ok (.aload_n 0, 1) := by decide +kernel
theorem dX10_reason_85 : decode prog_1_method_32_code 85 = .ok (.getfield 38, 3) := by decide +kernel
theorem dX10_reason_88 : decode prog_1_method_32_code 88 = .ok (.getfield 360, 3) := by decide +kernel
theorem dX10_reason_91 : decode prog_1_method_32_code 91 = .ok (.ireturn, 1) := by decide +kernel
theorem nX10_line : zDs yX10_line 1 := ⟨by decide, by decide, by decide +kernel⟩
theorem dX10_line_0 : decode prog_1_method_33_code 0 = .ok (.aload_n 0, 1) := by decide +kernel
theorem dX10_line_1 : decode prog_1_method_33_code 1 = .ok (.getfield 10, 3) := by decide +kernel
theorem dX10_line_4 : decode prog_1_method_33_code 4 = .ok (.getfield 81, 3) := by decide +kernel
theorem dX10_line_7 : decode prog_1_method_33_code 7 = .ok (.iload_n 1, 1) := by decide +kernel
theorem dX10_line_8 : decode prog_1_method_33_code 8 = .ok (.invokevirtual 188, 3) := by decide +kernel
theorem dX10_line_11 : decode prog_1_method_33_code 11 = .ok (.ifCond .ne 13, 3) := by decide +kernel
theorem dX10_line_14 : decode prog_1_method_33_code 14 = .ok (.new 192, 3) := by decide +kernel
theorem dX10_line_17 : decode prog_1_method_33_code 17 = .ok (.dup, 1) := by decide +kernel
theorem dX10_line_18 : decode prog_1_method_33_code 18 = .ok (.ldc 194, 2) := by decide +kernel
theorem dX10_line_20 : decode prog_1_method_33_code 20 = .ok (.invokespecial 196, 3) := by decide +kernel
theorem dX10_line_23 : decode prog_1_method_33_code 23 = .ok (.athrow, 1) := by decide +kernel
theorem dX10_line_24 : decode prog_1_method_33_code 24 = .ok (.aload_n 0, 1) := by decide +kernel
theorem dX10_line_25 : decode prog_1_method_33_code 25 = .ok (.getfield 56, 3) := by decide +kernel
theorem dX10_line_28 : decode prog_1_method_33_code 28 = .ok (.iconst 0, 1) := by decide +kernel
theorem dX10_line_29 : decode prog_1_method_33_code 29 = .ok (.invokevirtual 384, 3) := by decide +kernel
theorem dX10_line_32 : decode prog_1_method_33_code 32 = .ok (.aload_n 0, 1) := by decide +kernel
theorem dX10_line_33 : decode prog_1_method_33_code 33 = .ok (.getfield 56, 3) := by decide +kernel
theorem dX10_line_36 : decode prog_1_method_33_code 36 = .ok (.iload_n 1, 1) := by decide +kernel
theorem dX10_line_37 : decode prog_1_method_33_code 37 = .ok (.invokevirtual 387, 3) := by decide +kernel
theorem dX10_line_40 : decode prog_1_method_33_code 40 = .ok (.bipush 58, 2) := by decide +kernel
theorem dX10_line_42 : decode prog_1_method_33_code 42 = .ok (.invokevirtual 391, 3) := by decide +kernel
theorem dX10_line_45 : decode prog_1_method_33_code 45 = .ok (.pop, 1) := by decide +kernel
theorem dX10_line_46 : decode prog_1_method_33_code 46 = .ok (.aload_n 0, 1) := by decide +kernel
theorem dX10_line_47 : decode prog_1_method_33_code 47 = .ok (.getfield 10, 3) := by decide +kernel
theorem dX10_line_50 : decode prog_1_method_33_code 50 = .ok (.getfield 145, 3) := by decide +kernel
theorem dX10_line_53 : decode prog_1_method_33_code 53 = .ok (.iload_n 1, 1) := by decide +kernel
theorem dX10_line_54 : decode prog_1_method_33_code 54 = .ok (.invokevirtual 215, 3) := by decide +kernel
theorem dX10_line_57 : decode prog_1_method_33_code 57 = .ok (.istore_n 2, 1) := by decide +kernel
theorem dX10_line_58 : decode prog_1_method_33_code 58 = .ok (.iconst 0, 1) := by decide +kernel
theorem dX10_line_59 : decode prog_1_method_33_code 59 = .ok (.istore_n 3, 1) := by decide +kernel
theorem dX10_line_60 : decode prog_1_method_33_code 60 = .ok (.iload_n 3, 1) := by decide +kernel
theorem dX10_line_61 : decode prog_1_method_33_code 61 = .ok (.iload_n 2, 1) := by decide +kernel
theorem dX10_line_62 : decode prog_1_method_33_code 62 = .ok (.if_icmp .ge 77, 3) := by decide +kernel
theorem dX10_line_65 : decode prog_1_method_33_code 65 = .ok (.aload_n 0, 1) := by decide +kernel
theorem dX10_line_66 : decode prog_1_method_33_code 66 = .ok (.getfield 10, 3) := by decide +kernel
theorem dX10_line_69 : decode prog_1_method_33_code 69 = .ok (.getfield 145, 3) := by decide +kernel
theorem dX10_line_72 : decode prog_1_method_33_code 72 = .ok (.iload_n 1, 1) := by decide +kernel
theorem dX10_line_73 : decode prog_1_method_33_code 73 = .ok (.iload_n 3, 1) := by decide +kernel
theorem dX10_line_74 : decode prog_1_method_33_code 74 = .ok (.invokevirtual 290, 3) := by decide +kernel
theorem dX10_line_77 : decode prog_1_method_33_code 77 = .ok (.istore 4, 2) := by decide +kernel
theorem dX10_line_79 : decode prog_1_method_33_code 79 = .ok (.aload_n 0, 1) := by decide +kernel
theorem dX10_line_80 : decode prog_1_method_33_code 80 = .ok (.getfield 56, 3) := by decide +kernel
theorem dX10_line_83 : decode prog_1_method_33_code 83 = .ok (.bipush 32, 2) := by decide +kernel
theorem dX10_line_85 : decode prog_1_method_33_code 85 = .ok (.invokevirtual 391, 3) := by decide +kernel
theorem dX10_line_88 : decode prog_1_method_33_code 88 = .ok (.aload_n 0, 1) := by decide +kernel
theorem dX10_line_89 : decode prog_1_method_33_code 89 = .ok (.getfield 10, 3) := by decide +kernel
theorem dX10_line_92 : decode prog_1_method_33_code 92 = .ok (.getfield 145, 3) := by decide +kernel
theorem dX10_line_95 : decode prog_1_method_33_code 95 = .ok (.iload_n 1, 1) := by decide +kernel
theorem dX10_line_96 : decode prog_1_method_33_code 96 = .ok (.iload 4, 2) := by decide +kernel
theorem dX10_line_98 : decode prog_1_method_33_code 98 = .ok (.invokevirtual 275, 3) := by decide +kernel
theorem dX10_line_101 : decode prog_1_method_33_code 101 = .ok (.invokevirtual 387, 3) := by decide +kernel
theorem dX10_line_104 : decode prog_1_method_33_code 104 = .ok (.pop, 1) := by decide +kernel
theorem dX10_line_105 : decode prog_1_method_33_code 105 = .ok (.aload_n 0, 1) := by decide +kernel
theorem dX10_line_106 : decode prog_1_method_33_code 106 = .ok (.getfield 56, 3) := by decide +kernel
theorem dX10_line_109 : decode prog_1_method_33_code 109 = .ok (.bipush 61, 2) := by decide +kernel
theorem dX10_line_111 : decode prog_1_method_33_code 111 = .ok (.invokevirtual 391, 3) := by decide +kernel
theorem dX10_line_114 : decode prog_1_method_33_code 114 = .ok (.aload_n 0, 1) := by decide +kernel
theorem dX10_line_115 : decode prog_1_method_33_code 115 = .ok (.getfield 10, 3) := by decide +kernel
theorem dX10_line_118 : decode prog_1_method_33_code 118 = .ok (.getfield 96, 3) := by decide +kernel
theorem dX10_line_121 : decode prog_1_method_33_code 121 = .ok (.getfield 229, 3) := by decide +kernel
theorem dX10_line_124 : decode prog_1_method_33_code 124 = .ok (.iload 4, 2) := by decide +kernel
theorem dX10_line_126 : decode prog_1_method_33_code 126 = .ok (.invokestatic 200, 3) := by decide +kernel
theorem dX10_line_129 : decode prog_1_method_33_code 129 = .ok (.invokevirtual 387, 3) := by decide +kernel
theorem dX10_line_132 : decode prog_1_method_33_code 132 = .ok (.pop, 1) := by decide +kernel
theorem dX10_line_133 : decode prog_1_method_33_code 133 = .ok (.iinc 3 1, 3) := by decide +kernel
theorem dX10_line_136 : decode prog_1_method_33_code 136 = .ok (.goto (-76), 3) := by decide +kernel
theorem dX10_line_139 : decode prog_1_method_33_code 139 = .ok (.aload_n 0, 1) := by decide +kernel
theorem dX10_line_140 : decode prog_1_method_33_code 140 = .ok (.getfield 56, 3) := by decide +kernel
theorem dX10_line_143 : decode prog_1_method_33_code 143 = .ok (.invokevirtual 394, 3) := by decide +kernel
theorem dX10_line_146 : decode prog_1_method_33_code 146 = .ok (.ireturn, 1) := by decide +kernel
theorem nX10_character : zDs yX10_character 1 := ⟨by decide, by decide, by decide +kernel⟩
theorem dX10_character_0 : decode prog_1_method_34_code 0 = .ok (.iload_n 1, 1) := by decide +kernel
theorem dX10_character_1 : decode prog_1_method_34_code 1 = .ok (.ifCond .lt 14, 3) := by decide +kernel
theorem dX10_character_4 : decode prog_1_method_34_code 4 = .ok (.iload_n 1, 1) := by decide +kernel
theorem dX10_character_5 : decode prog_1_method_34_code 5 = .ok (.aload_n 0, 1) := by decide +kernel
theorem dX10_character_6 : decode prog_1_method_34_code 6 = .ok (.getfield 56, 3) := by decide +kernel
theorem dX10_character_9 : decode prog_1_method_34_code 9 = .ok (.invokevirtual 394, 3) := by decide +kernel
theorem dX10_character_12 : decode prog_1_method_34_code 12 = .ok (.if_icmp .lt 14, 3) := by decide +kernel
theorem dX10_character_15 : decode prog_1_method_34_code 15 = .ok (.new 192, 3) := by decide +kernel
theorem dX10_character_18 : decode prog_1_method_34_code 18 = .ok (.dup, 1) := by decide +kernel
theorem dX10_character_19 : decode prog_1_method_34_code 19 = .ok (.ldc_w 397, 3) := by decide +kernel
theorem dX10_character_22 : decode prog_1_method_34_code 22 = .ok (.invokespecial 196, 3) := by decide +kernel
theorem dX10_character_25 : decode prog_1_method_34_code 25 = .ok (.athrow, 1) := by decide +kernel
theorem dX10_character_26 : decode prog_1_method_34_code 26 = .ok (.aload_n 0, 1) := by decide +kernel
theorem dX10_character_27 : decode prog_1_method_34_code 27 = .ok (.getfield 56, 3) := by decide +kernel
theorem dX10_character_30 : decode prog_1_method_34_code 30 = .ok (.iload_n 1, 1) := by decide +kernel
theorem dX10_character_31 : decode prog_1_method_34_code 31 = .ok (.invokevirtual 399, 3) := by decide +kernel
theorem dX10_character_34 : decode prog_1_method_34_code 34 = .ok (.ireturn, 1) := by decide +kernel
theorem nX10_estimate : zDs yX10_estimate 1 := ⟨by decide, by decide, by decide +kernel⟩
theorem dX10_estimate_0 : decode prog_1_method_35_code 0 = .ok (.aload_n 0, 1) := by decide +kernel
theorem dX10_estimate_1 : decode prog_1_method_35_code 1 = .ok (.getfield 10, 3) := by decide +kernel
theorem dX10_estimate_4 : decode prog_1_method_35_code 4 = .ok (.getfield 96, 3) := by decide +kernel
theorem dX10_estimate_7 : decode prog_1_method_35_code 7 = .ok (.iload_n 1, 1) := by decide +kernel
theorem dX10_estimate_8 : decode prog_1_method_35_code 8 = .ok (.invokevirtual 226, 3) := by decide +kernel
theorem dX10_estimate_11 : decode prog_1_method_35_code 11 = .ok (.ifCond .ne 13, 3) := by decide +kernel
theorem dX10_estimate_14 : decode prog_1_method_35_code 14 = .ok (.new 192, 3) := by decide +kernel
theorem dX10_estimate_17 : decode prog_1_method_35_code 17 = .ok (.dup, 1) := by decide +kernel
theorem dX10_estimate_18 : decode prog_1_method_35_code 18 = .ok (.ldc 227, 2) := by decide +kernel
theorem dX10_estimate_20 : decode prog_1_method_35_code 20 = .ok (.invokespecial 196, 3) := by decide +kernel
theorem dX10_estimate_23 : decode prog_1_method_35_code 23 = .ok (.athrow, 1) := by decide +kernel
theorem dX10_estimate_24 : decode prog_1_method_35_code 24 = .ok (.aload_n 0, 1) := by decide +kernel
theorem dX10_estimate_25 : decode prog_1_method_35_code 25 = .ok (.getfield 10, 3) := by decide +kernel
theorem dX10_estimate_28 : decode prog_1_method_35_code 28 = .ok (.getfield 145, 3) := by decide +kernel
theorem dX10_estimate_31 : decode prog_1_method_35_code 31 = .ok (.iload_n 1, 1) := by decide +kernel
theorem dX10_estimate_32 : decode prog_1_method_35_code 32 = .ok (.invokevirtual 238, 3) := by decide +kernel
theorem dX10_estimate_35 : decode prog_1_method_35_code 35 = .ok (.istore_n 2, 1) := by decide +kernel
theorem dX10_estimate_36 : decode prog_1_method_35_code 36 = .ok (.iload_n 2, 1) := by decide +kernel
theorem dX10_estimate_37 : decode prog_1_method_35_code 37 = .ok (.ifCond .ne 14, 3) := by decide +kernel
theorem dX10_estimate_40 : decode prog_1_method_35_code 40 = .ok (.new 403, 3) := by decide +kernel
theorem dX10_estimate_43 : decode prog_1_method_35_code 43 = .ok (.dup, 1) := by decide +kernel
theorem dX10_estimate_44 : decode prog_1_method_35_code 44 = .ok (.ldc_w 405, 3) := by decide +kernel
theorem dX10_estimate_47 : decode prog_1_method_35_code 47 = .ok (.invokespecial 407, 3) := by decide +kernel
theorem dX10_estimate_50 : decode prog_1_method_35_code 50 = .ok (.athrow, 1) := by decide +kernel
theorem dX10_estimate_51 : decode prog_1_method_35_code 51 = .ok (.aload_n 0, 1) := by decide +kernel
theorem dX10_estimate_52 : decode prog_1_method_35_code 52 = .ok (.getfield 10, 3) := by decide +kernel
theorem dX10_estimate_55 : decode prog_1_method_35_code 55 = .ok (.iload_n 1, 1) := by decide +kernel
theorem dX10_estimate_56 : decode prog_1_method_35_code 56 = .ok (.invokevirtual 408, 3) := by decide +kernel
theorem dX10_estimate_59 : decode prog_1_method_35_code 59 = .ok (.i2d, 1) := by decide +kernel
theorem dX10_estimate_60 : decode prog_1_method_35_code 60 = .ok (.iload_n 2, 1) := by decide +kernel
theorem dX10_estimate_61 : decode prog_1_method_35_code 61 = .ok (.i2d, 1) := by decide +kernel
theorem dX10_estimate_62 : decode prog_1_method_35_code 62 = .ok (.ddiv, 1) := by decide +kernel
theorem dX10_estimate_63 : decode prog_1_method_35_code 63 = .ok (.dreturn, 1) := by decide +kernel
theorem nX10_meanEdge : zDs yX10_meanEdge 0 := ⟨by decide, by decide, by decide +kernel⟩
theorem dX10_meanEdge_0 : decode prog_1_method_36_code 0 = .ok (.aload_n 0, 1) := by decide +kernel
theorem dX10_meanEdge_1 : decode prog_1_method_36_code 1 = .ok (.getfield 10, 3) := by decide +kernel
theorem dX10_meanEdge_4 : decode prog_1_method_36_code 4 = .ok (.getfield 123, 3) := by decide +kernel
theorem dX10_meanEdge_7 : decode prog_1_method_36_code 7 = .ok (.getfield 411, 3) := by decide +kernel
theorem dX10_meanEdge_10 : decode prog_1_method_36_code 10 = .ok (.istore_n 1, 1) := by decide +kernel
theorem dX10_meanEdge_11 : decode prog_1_method_36_code 11 = .ok (.iload_n 1, 1) := by decide +kernel
theorem dX10_meanEdge_12 : decode prog_1_method_36_code 12 = .ok (.ifCond .ne 14, 3) := by decide +kernel
theorem dX10_meanEdge_15 : decode prog_1_method_36_code 15 = .ok (.new 403, 3) := by decide +kernel
theorem dX10_meanEdge_18 : decode prog_1_method_36_code 18 = .ok (.dup, 1) := by decide +kernel
theorem dX10_meanEdge_19 : decode prog_1_method_36_code 19 = .ok (.ldc_w 412, 3) := by decide +kernel
theorem dX10_meanEdge_22 : decode prog_1_method_36_code 22 = .ok (.invokespecial 407, 3) := by decide +kernel
theorem dX10_meanEdge_25 : decode prog_1_method_36_code 25 = .ok (.athrow, 1) := by decide +kernel
theorem dX10_meanEdge_26 : decode prog_1_method_36_code 26 = .ok (.aload_n 0, 1) := by decide +kernel
theorem dX10_meanEdge_27 : decode prog_1_method_36_code 27 = .ok (.getfield 10, 3) := by decide +kernel
theorem dX10_meanEdge_30 : decode prog_1_method_36_code 30 = .ok (.getfield 123, 3) := by decide +kernel
theorem dX10_meanEdge_33 : decode prog_1_method_36_code 33 = .ok (.invokevirtual 414, 3) := by decide +kernel
theorem dX10_meanEdge_36 : decode prog_1_method_36_code 36 = .ok (.i2f, 1) := by decide +kernel
theorem dX10_meanEdge_37 : decode prog_1_method_36_code 37 = .ok (.iload_n 1, 1) := by decide +kernel
theorem dX10_meanEdge_38 : decode prog_1_method_36_code 38 = .ok (.i2f, 1) := by decide +kernel
theorem dX10_meanEdge_39 : decode prog_1_method_36_code 39 = .ok (.fdiv, 1) := by decide +kernel
theorem dX10_meanEdge_40 : decode prog_1_method_36_code 40 = .ok (.freturn, 1) := by decide +kernel
theorem nX10_account : zDs yX10_account 1 := ⟨by decide, by decide, by decide +kernel⟩
theorem dX10_account_0 : decode prog_1_method_37_code 0 = .ok (.iload_n 1, 1) := by decide +kernel
theorem dX10_account_1 : decode prog_1_method_37_code 1 = .ok (.tableswitch 183 0 11 #[63, 71, 82, 93, 104, 115, 126, 137, 148, 159, 167, 175], 63) := by decide +kernel
theorem dX10_account_64 : decode prog_1_method_37_code 64 = .ok (.aload_n 0, 1) := by decide +kernel
theorem dX10_account_65 : decode prog_1_method_37_code 65 = .ok (.getfield 10, 3) := by decide +kernel
theorem dX10_account_68 : decode prog_1_method_37_code 68 = .ok (.getfield 417, 3) := by decide +kernel
theorem dX10_account_71 : decode prog_1_method_37_code 71 = .ok (.ireturn, 1) := by decide +kernel
theorem dX10_account_72 : decode prog_1_method_37_code 72 = .ok (.aload_n 0, 1) := by decide +kernel
theorem dX10_account_73 : decode prog_1_method_37_code 73 = .ok (.getfield 10, 3) := by decide +kernel
theorem dX10_account_76 : decode prog_1_method_37_code 76 = .ok (.getfield 81, 3) := by decide +kernel
theorem dX10_account_79 : decode prog_1_method_37_code 79 = .ok (.getfield 419, 3) := by decide +kernel
theorem dX10_account_82 : decode prog_1_method_37_code 82 = .ok (.ireturn, 1) := by decide +kernel
theorem dX10_account_83 : decode prog_1_method_37_code 83 = .ok (.aload_n 0, 1) := by decide +kernel
theorem dX10_account_84 : decode prog_1_method_37_code 84 = .ok (.getfield 10, 3) := by decide +kernel
theorem dX10_account_87 : decode prog_1_method_37_code 87 = .ok (.getfield 96, 3) := by decide +kernel
theorem dX10_account_90 : decode prog_1_method_37_code 90 = .ok (.getfield 311, 3) := by decide +kernel
theorem dX10_account_93 : decode prog_1_method_37_code 93 = .ok (.ireturn, 1) := by decide +kernel
theorem dX10_account_94 : decode prog_1_method_37_code 94 = .ok (.aload_n 0, 1) := by decide +kernel
theorem dX10_account_95 : decode prog_1_method_37_code 95 = .ok (.getfield 10, 3) := by decide +kernel
theorem dX10_account_98 : decode prog_1_method_37_code 98 = .ok (.getfield 107, 3) := by decide +kernel
theorem dX10_account_101 : decode prog_1_method_37_code 101 = .ok (.getfield 420, 3) := by decide +kernel
theorem dX10_account_104 : decode prog_1_method_37_code 104 = .ok (.ireturn, 1) := by decide +kernel
theorem dX10_account_105 : decode prog_1_method_37_code 105 = .ok (.aload_n 0, 1) := by decide +kernel
theorem dX10_account_106 : decode prog_1_method_37_code 106 = .ok (.getfield 10, 3) := by decide +kernel
theorem dX10_account_109 : decode prog_1_method_37_code 109 = .ok (.getfield 123, 3) := by decide +kernel
theorem dX10_account_112 : decode prog_1_method_37_code 112 = .ok (.getfield 411, 3) := by decide +kernel
theorem dX10_account_115 : decode prog_1_method_37_code 115 = .ok (.ireturn, 1) := by decide +kernel
theorem dX10_account_116 : decode prog_1_method_37_code 116 = .ok (.aload_n 0, 1) := by decide +kernel
theorem dX10_account_117 : decode prog_1_method_37_code 117 = .ok (.getfield 10, 3) := by decide +kernel
theorem dX10_account_120 : decode prog_1_method_37_code 120 = .ok (.getfield 145, 3) := by decide +kernel
theorem dX10_account_123 : decode prog_1_method_37_code 123 = .ok (.invokevirtual 421, 3) := by decide +kernel
theorem dX10_account_126 : decode prog_1_method_37_code 126 = .ok (.ireturn, 1) := by decide +kernel
theorem dX10_account_127 : decode prog_1_method_37_code 127 = .ok (.aload_n 0, 1) := by decide +kernel
theorem dX10_account_128 : decode prog_1_method_37_code 128 = .ok (.getfield 10, 3) := by decide +kernel
theorem dX10_account_131 : decode prog_1_method_37_code 131 = .ok (.getfield 145, 3) := by decide +kernel
theorem dX10_account_134 : decode prog_1_method_37_code 134 = .ok (.getfield 424, 3) := by decide +kernel
theorem dX10_account_137 : decode prog_1_method_37_code 137 = .ok (.ireturn, 1) := by decide +kernel
theorem dX10_account_138 : decode prog_1_method_37_code 138 = .ok (.aload_n 0, 1) := by decide +kernel
theorem dX10_account_139 : decode prog_1_method_37_code 139 = .ok (.getfield 10, 3) := by decide +kernel
theorem dX10_account_142 : decode prog_1_method_37_code 142 = .ok (.getfield 145, 3) := by decide +kernel
theorem dX10_account_145 : decode prog_1_method_37_code 145 = .ok (.getfield 427, 3) := by decide +kernel
theorem dX10_account_148 : decode prog_1_method_37_code 148 = .ok (.ireturn, 1) := by decide +kernel
theorem dX10_account_149 : decode prog_1_method_37_code 149 = .ok (.aload_n 0, 1) := by decide +kernel
theorem dX10_account_150 : decode prog_1_method_37_code 150 = .ok (.getfield 10, 3) := by decide +kernel
theorem dX10_account_153 : decode prog_1_method_37_code 153 = .ok (.getfield 145, 3) := by decide +kernel
theorem dX10_account_156 : decode prog_1_method_37_code 156 = .ok (.getfield 430, 3) := by decide +kernel
theorem dX10_account_159 : decode prog_1_method_37_code 159 = .ok (.ireturn, 1) := by decide +kernel
theorem dX10_account_160 : decode prog_1_method_37_code 160 = .ok (.aload_n 0, 1) := by decide +kernel
theorem dX10_account_161 : decode prog_1_method_37_code 161 = .ok (.getfield 10, 3) := by decide +kernel
theorem dX10_account_164 : decode prog_1_method_37_code 164 = .ok (.invokevirtual 433, 3) := by decide +kernel
theorem dX10_account_167 : decode prog_1_method_37_code 167 = .ok (.ireturn, 1) := by decide +kernel
theorem dX10_account_168 : decode prog_1_method_37_code 168 = .ok (.aload_n 0, 1) := by decide +kernel
theorem dX10_account_169 : decode prog_1_method_37_code 169 = .ok (.getfield 31, 3) := by decide +kernel
theorem dX10_account_172 : decode prog_1_method_37_code 172 = .ok (.getfield 436, 3) := by decide +kernel
theorem dX10_account_175 : decode prog_1_method_37_code 175 = .ok (.ireturn, 1) := by decide +kernel
theorem dX10_account_176 : decode prog_1_method_37_code 176 = .ok (.aload_n 0, 1) := by decide +kernel
theorem dX10_account_177 : decode prog_1_method_37_code 177 = .ok (.getfield 45, 3) := by decide +kernel
theorem dX10_account_180 : decode prog_1_method_37_code 180 = .ok (.getfield 437, 3) := by decide +kernel
theorem dX10_account_183 : decode prog_1_method_37_code 183 = .ok (.ireturn, 1) := by decide +kernel
theorem dX10_account_184 : decode prog_1_method_37_code 184 = .ok (.new 221, 3) := by decide +kernel
theorem dX10_account_187 : decode prog_1_method_37_code 187 = .ok (.dup, 1) := by decide +kernel
theorem dX10_account_188 : decode prog_1_method_37_code 188 = .ok (.ldc_w 439, 3) := by decide +kernel
theorem dX10_account_191 : decode prog_1_method_37_code 191 = .ok (.invokespecial 225, 3) := by decide +kernel
theorem dX10_account_194 : decode prog_1_method_37_code 194 = .ok (.athrow, 1) := by decide +kernel
theorem nX10_undo : zDs yX10_undo 0 := ⟨by decide, by decide, by decide +kernel⟩
theorem dX10_undo_0 : decode prog_1_method_38_code 0 = .ok (.aload_n 0, 1) := by decide +kernel
theorem dX10_undo_1 : decode prog_1_method_38_code 1 = .ok (.getfield 31, 3) := by decide +kernel
theorem dX10_undo_4 : decode prog_1_method_38_code 4 = .ok (.getfield 436, 3) := by decide +kernel
theorem dX10_undo_7 : decode prog_1_method_38_code 7 = .ok (.ifCond .ne 14, 3) := by decide +kernel
theorem dX10_undo_10 : decode prog_1_method_38_code 10 = .ok (.new 334, 3) := by decide +kernel
theorem dX10_undo_13 : decode prog_1_method_38_code 13 = .ok (.dup, 1) := by decide +kernel
theorem dX10_undo_14 : decode prog_1_method_38_code 14 = .ok (.ldc_w 441, 3) := by decide +kernel
theorem dX10_undo_17 : decode prog_1_method_38_code 17 = .ok (.invokespecial 338, 3) := by decide +kernel
theorem dX10_undo_20 : decode prog_1_method_38_code 20 = .ok (.athrow, 1) := by decide +kernel
theorem dX10_undo_21 : decode prog_1_method_38_code 21 = .ok (.aload_n 0, 1) := by decide +kernel
theorem dX10_undo_22 : decode prog_1_method_38_code 22 = .ok (.getfield 31, 3) := by decide +kernel
theorem dX10_undo_25 : decode prog_1_method_38_code 25 = .ok (.aload_n 0, 1) := by decide +kernel
theorem dX10_undo_26 : decode prog_1_method_38_code 26 = .ok (.getfield 10, 3) := by decide +kernel
theorem dX10_undo_29 : decode prog_1_method_38_code 29 = .ok (.invokevirtual 443, 3) := by decide +kernel
theorem dX10_undo_32 : decode prog_1_method_38_code 32 = .ok (.aload_n 0, 1) := by decide +kernel
theorem dX10_undo_33 : decode prog_1_method_38_code 33 = .ok (.getfield 31, 3) := by decide +kernel
theorem dX10_undo_36 : decode prog_1_method_38_code 36 = .ok (.getfield 436, 3) := by decide +kernel
theorem dX10_undo_39 : decode prog_1_method_38_code 39 = .ok (.ireturn, 1) := by decide +kernel
theorem nX10_save : zDs yX10_save 0 := ⟨by decide, by decide, by decide +kernel⟩
theorem dX10_save_0 : decode prog_1_method_39_code 0 = .ok (.aload_n 0, 1) := by decide +kernel
theorem dX10_save_1 : decode prog_1_method_39_code 1 = .ok (.getfield 19, 3) := by decide +kernel
theorem dX10_save_4 : decode prog_1_method_39_code 4 = .ok (.aload_n 0, 1) := by decide +kernel
theorem dX10_save_5 : decode prog_1_method_39_code 5 = .ok (.getfield 10, 3) := by decide +kernel
theorem dX10_save_8 : decode prog_1_method_39_code 8 = .ok (.invokevirtual 351, 3) := by decide +kernel
theorem dX10_save_11 : decode prog_1_method_39_code 11 = .ok (.aload_n 0, 1) := by decide +kernel
theorem dX10_save_12 : decode prog_1_method_39_code 12 = .ok (.iconst 1, 1) := by decide +kernel
theorem dX10_save_13 : decode prog_1_method_39_code 13 = .ok (.putfield 22, 3) := by decide +kernel
theorem dX10_save_16 : decode prog_1_method_39_code 16 = .ok (.aload_n 0, 1) := by decide +kernel
theorem dX10_save_17 : decode prog_1_method_39_code 17 = .ok (.getfield 10, 3) := by decide +kernel
theorem dX10_save_20 : decode prog_1_method_39_code 20 = .ok (.getfield 417, 3) := by decide +kernel
theorem dX10_save_23 : decode prog_1_method_39_code 23 = .ok (.ireturn, 1) := by decide +kernel
theorem nX10_restore : zDs yX10_restore 0 := ⟨by decide, by decide, by decide +kernel⟩
theorem dX10_restore_0 : decode prog_1_method_40_code 0 = .ok (.aload_n 0, 1) := by decide +kernel
theorem dX10_restore_1 : decode prog_1_method_40_code 1 = .ok (.getfield 22, 3) := by decide +kernel
theorem dX10_restore_4 : decode prog_1_method_40_code 4 = .ok (.ifCond .ne 14, 3) := by decide +kernel
theorem dX10_restore_7 : decode prog_1_method_40_code 7 = .ok (.new 334, 3) := by decide +kernel
theorem dX10_restore_10 : decode prog_1_method_40_code 10 = .ok (.dup, 1) := by decide +kernel
theorem dX10_restore_11 : decode prog_1_method_40_code 11 = .ok (.ldc_w 446, 3) := by decide +kernel
theorem dX10_restore_14 : decode prog_1_method_40_code 14 = .ok (.invokespecial 338, 3) := by decide +kernel
theorem dX10_restore_17 : decode prog_1_method_40_code 17 = .ok (.athrow, 1) := by decide +kernel
theorem dX10_restore_18 : decode prog_1_method_40_code 18 = .ok (.aload_n 0, 1) := by decide +kernel
theorem dX10_restore_19 : decode prog_1_method_40_code 19 = .ok (.getfield 10, 3) := by decide +kernel
theorem dX10_restore_22 : decode prog_1_method_40_code 22 = .ok (.aload_n 0, 1) := by decide +kernel
theorem dX10_restore_23 : decode prog_1_method_40_code 23 = .ok (.getfield 19, 3) := by decide +kernel
theorem dX10_restore_26 : decode prog_1_method_40_code 26 = .ok (.invokevirtual 351, 3) := by decide +kernel
theorem dX10_restore_29 : decode prog_1_method_40_code 29 = .ok (.aload_n 0, 1) := by decide +kernel
theorem dX10_restore_30 : decode prog_1_method_40_code 30 = .ok (.getfield 31, 3) := by decide +kernel
theorem dX10_restore_33 : decode prog_1_method_40_code 33 = .ok (.invokevirtual 448, 3) := by decide +kernel
theorem dX10_restore_36 : decode prog_1_method_40_code 36 = .ok (.aload_n 0, 1) := by decide +kernel
theorem dX10_restore_37 : decode prog_1_method_40_code 37 = .ok (.getfield 10, 3) := by decide +kernel
theorem dX10_restore_40 : decode prog_1_method_40_code 40 = .ok (.getfield 417, 3) := by decide +kernel
theorem dX10_restore_43 : decode prog_1_method_40_code 43 = .ok (.ireturn, 1) := by decide +kernel
