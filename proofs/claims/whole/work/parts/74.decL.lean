theorem pnL : plainName RL = true := by decide +kernel
theorem nL_stone : zDs yL_stone 5 := ⟨by decide, by decide, by decide +kernel⟩
theorem dL_stone_0 : decode method_3_code 0 = .ok (.aload 4, 2) := by decide +kernel
theorem dL_stone_2 : decode method_3_code 2 = .ok (.iconst 0, 1) := by decide +kernel
theorem dL_stone_3 : decode method_3_code 3 = .ok (.aload_n 0, 1) := by decide +kernel
theorem dL_stone_4 : decode method_3_code 4 = .ok (.iload_n 1, 1) := by decide +kernel
theorem dL_stone_5 : decode method_3_code 5 = .ok (.iload_n 2, 1) := by decide +kernel
theorem dL_stone_6 : decode method_3_code 6 = .ok (.iload_n 3, 1) := by decide +kernel
theorem dL_stone_7 : decode method_3_code 7 = .ok (.invokevirtual 7, 3) := by decide +kernel
theorem dL_stone_10 : decode method_3_code 10 = .ok (.i2l, 1) := by decide +kernel
theorem dL_stone_11 : decode method_3_code 11 = .ok (.lastore, 1) := by decide +kernel
theorem dL_stone_12 : decode method_3_code 12 = .ok (.goto 7, 3) := by decide +kernel
theorem dL_stone_15 : decode method_3_code 15 = .ok (.astore 5, 2) := by decide +kernel
theorem dL_stone_17 : decode method_3_code 17 = .ok (.iconst 1, 1) := by decide +kernel
theorem dL_stone_18 : decode method_3_code 18 = .ok (.ireturn, 1) := by decide +kernel
theorem dL_stone_19 : decode method_3_code 19 = .ok (.iconst 0, 1) := by decide +kernel
theorem dL_stone_20 : decode method_3_code 20 = .ok (.ireturn, 1) := by decide +kernel
theorem nL_flood : zDs yL_flood 5 := ⟨by decide, by decide, by decide +kernel⟩
theorem dL_flood_0 : decode method_4_code 0 = .ok (.aload 4, 2) := by decide +kernel
theorem dL_flood_2 : decode method_4_code 2 = .ok (.iconst 0, 1) := by decide +kernel
theorem dL_flood_3 : decode method_4_code 3 = .ok (.aload_n 0, 1) := by decide +kernel
theorem dL_flood_4 : decode method_4_code 4 = .ok (.iload_n 1, 1) := by decide +kernel
theorem dL_flood_5 : decode method_4_code 5 = .ok (.iload_n 2, 1) := by decide +kernel
theorem dL_flood_6 : decode method_4_code 6 = .ok (.iload_n 3, 1) := by decide +kernel
theorem dL_flood_7 : decode method_4_code 7 = .ok (.invokevirtual 15, 3) := by decide +kernel
theorem dL_flood_10 : decode method_4_code 10 = .ok (.i2l, 1) := by decide +kernel
theorem dL_flood_11 : decode method_4_code 11 = .ok (.lastore, 1) := by decide +kernel
theorem dL_flood_12 : decode method_4_code 12 = .ok (.goto 7, 3) := by decide +kernel
theorem dL_flood_15 : decode method_4_code 15 = .ok (.astore 5, 2) := by decide +kernel
theorem dL_flood_17 : decode method_4_code 17 = .ok (.iconst 1, 1) := by decide +kernel
theorem dL_flood_18 : decode method_4_code 18 = .ok (.ireturn, 1) := by decide +kernel
theorem dL_flood_19 : decode method_4_code 19 = .ok (.iconst 0, 1) := by decide +kernel
theorem dL_flood_20 : decode method_4_code 20 = .ok (.ireturn, 1) := by decide +kernel
theorem nL_epoch : zDs yL_epoch 4 := ⟨by decide, by decide, by decide +kernel⟩
theorem dL_epoch_0 : decode method_5_code 0 = .ok (.aload_n 3, 1) := by decide +kernel
theorem dL_epoch_1 : decode method_5_code 1 = .ok (.iconst 0, 1) := by decide +kernel
theorem dL_epoch_2 : decode method_5_code 2 = .ok (.aload_n 0, 1) := by decide +kernel
theorem dL_epoch_3 : decode method_5_code 3 = .ok (.iload_n 1, 1) := by decide +kernel
theorem dL_epoch_4 : decode method_5_code 4 = .ok (.iload_n 2, 1) := by decide +kernel
theorem dL_epoch_5 : decode method_5_code 5 = .ok (.invokevirtual 18, 3) := by decide +kernel
theorem dL_epoch_8 : decode method_5_code 8 = .ok (.i2l, 1) := by decide +kernel
theorem dL_epoch_9 : decode method_5_code 9 = .ok (.lastore, 1) := by decide +kernel
theorem dL_epoch_10 : decode method_5_code 10 = .ok (.goto 7, 3) := by decide +kernel
theorem dL_epoch_13 : decode method_5_code 13 = .ok (.astore 4, 2) := by decide +kernel
theorem dL_epoch_15 : decode method_5_code 15 = .ok (.iconst 1, 1) := by decide +kernel
theorem dL_epoch_16 : decode method_5_code 16 = .ok (.ireturn, 1) := by decide +kernel
theorem dL_epoch_17 : decode method_5_code 17 = .ok (.iconst 0, 1) := by decide +kernel
theorem dL_epoch_18 : decode method_5_code 18 = .ok (.ireturn, 1) := by decide +kernel
theorem nL_chisel : zDs yL_chisel 2 := ⟨by decide, by decide, by decide +kernel⟩
theorem dL_chisel_0 : decode method_6_code 0 = .ok (.aload_n 1, 1) := by decide +kernel
theorem dL_chisel_1 : decode method_6_code 1 = .ok (.iconst 0, 1) := by decide +kernel
theorem dL_chisel_2 : decode method_6_code 2 = .ok (.aload_n 0, 1) := by decide +kernel
theorem dL_chisel_3 : decode method_6_code 3 = .ok (.invokevirtual 22, 3) := by decide +kernel
theorem dL_chisel_6 : decode method_6_code 6 = .ok (.i2l, 1) := by decide +kernel
theorem dL_chisel_7 : decode method_6_code 7 = .ok (.lastore, 1) := by decide +kernel
theorem dL_chisel_8 : decode method_6_code 8 = .ok (.goto 6, 3) := by decide +kernel
theorem dL_chisel_11 : decode method_6_code 11 = .ok (.astore_n 2, 1) := by decide +kernel
theorem dL_chisel_12 : decode method_6_code 12 = .ok (.iconst 1, 1) := by decide +kernel
theorem dL_chisel_13 : decode method_6_code 13 = .ok (.ireturn, 1) := by decide +kernel
theorem dL_chisel_14 : decode method_6_code 14 = .ok (.iconst 0, 1) := by decide +kernel
theorem dL_chisel_15 : decode method_6_code 15 = .ok (.ireturn, 1) := by decide +kernel
theorem nL_cut : zDs yL_cut 5 := ⟨by decide, by decide, by decide +kernel⟩
theorem dL_cut_0 : decode method_7_code 0 = .ok (.aload 4, 2) := by decide +kernel
theorem dL_cut_2 : decode method_7_code 2 = .ok (.iconst 0, 1) := by decide +kernel
theorem dL_cut_3 : decode method_7_code 3 = .ok (.aload_n 0, 1) := by decide +kernel
theorem dL_cut_4 : decode method_7_code 4 = .ok (.iload_n 1, 1) := by decide +kernel
theorem dL_cut_5 : decode method_7_code 5 = .ok (.iload_n 2, 1) := by decide +kernel
theorem dL_cut_6 : decode method_7_code 6 = .ok (.iload_n 3, 1) := by decide +kernel
theorem dL_cut_7 : decode method_7_code 7 = .ok (.invokevirtual 26, 3) := by decide +kernel
theorem dL_cut_10 : decode method_7_code 10 = .ok (.i2l, 1) := by decide +kernel
theorem dL_cut_11 : decode method_7_code 11 = .ok (.lastore, 1) := by decide +kernel
theorem dL_cut_12 : decode method_7_code 12 = .ok (.goto 7, 3) := by decide +kernel
theorem dL_cut_15 : decode method_7_code 15 = .ok (.astore 5, 2) := by decide +kernel
theorem dL_cut_17 : decode method_7_code 17 = .ok (.iconst 1, 1) := by decide +kernel
theorem dL_cut_18 : decode method_7_code 18 = .ok (.ireturn, 1) := by decide +kernel
theorem dL_cut_19 : decode method_7_code 19 = .ok (.iconst 0, 1) := by decide +kernel
theorem dL_cut_20 : decode method_7_code 20 = .ok (.ireturn, 1) := by decide +kernel
theorem nL_efface : zDs yL_efface 4 := ⟨by decide, by decide, by decide +kernel⟩
theorem dL_efface_0 : decode method_8_code 0 = .ok (.aload_n 3, 1) := by decide +kernel
theorem dL_efface_1 : decode method_8_code 1 = .ok (.iconst 0, 1) := by decide +kernel
theorem dL_efface_2 : decode method_8_code 2 = .ok (.aload_n 0, 1) := by decide +kernel
theorem dL_efface_3 : decode method_8_code 3 = .ok (.iload_n 1, 1) := by decide +kernel
theorem dL_efface_4 : decode method_8_code 4 = .ok (.iload_n 2, 1) := by decide +kernel
theorem dL_efface_5 : decode method_8_code 5 = .ok (.invokevirtual 29, 3) := by decide +kernel
theorem dL_efface_8 : decode method_8_code 8 = .ok (.i2l, 1) := by decide +kernel
theorem dL_efface_9 : decode method_8_code 9 = .ok (.lastore, 1) := by decide +kernel
theorem dL_efface_10 : decode method_8_code 10 = .ok (.goto 7, 3) := by decide +kernel
theorem dL_efface_13 : decode method_8_code 13 = .ok (.astore 4, 2) := by decide +kernel
theorem dL_efface_15 : decode method_8_code 15 = .ok (.iconst 1, 1) := by decide +kernel
theorem dL_efface_16 : decode method_8_code 16 = .ok (.ireturn, 1) := by decide +kernel
theorem dL_efface_17 : decode method_8_code 17 = .ok (.iconst 0, 1) := by decide +kernel
theorem dL_efface_18 : decode method_8_code 18 = .ok (.ireturn, 1) := by decide +kernel
theorem nL_sharpen : zDs yL_sharpen 3 := ⟨by decide, by decide, by decide +kernel⟩
theorem dL_sharpen_0 : decode method_9_code 0 = .ok (.aload_n 2, 1) := by decide +kernel
theorem dL_sharpen_1 : decode method_9_code 1 = .ok (.iconst 0, 1) := by decide +kernel
theorem dL_sharpen_2 : decode method_9_code 2 = .ok (.aload_n 0, 1) := by decide +kernel
theorem dL_sharpen_3 : decode method_9_code 3 = .ok (.iload_n 1, 1) := by decide +kernel
theorem dL_sharpen_4 : decode method_9_code 4 = .ok (.invokevirtual 32, 3) := by decide +kernel
theorem dL_sharpen_7 : decode method_9_code 7 = .ok (.i2l, 1) := by decide +kernel
theorem dL_sharpen_8 : decode method_9_code 8 = .ok (.lastore, 1) := by decide +kernel
theorem dL_sharpen_9 : decode method_9_code 9 = .ok (.goto 6, 3) := by decide +kernel
theorem dL_sharpen_12 : decode method_9_code 12 = .ok (.astore_n 3, 1) := by decide +kernel
theorem dL_sharpen_13 : decode method_9_code 13 = .ok (.iconst 1, 1) := by decide +kernel
theorem dL_sharpen_14 : decode method_9_code 14 = .ok (.ireturn, 1) := by decide +kernel
theorem dL_sharpen_15 : decode method_9_code 15 = .ok (.iconst 0, 1) := by decide +kernel
theorem dL_sharpen_16 : decode method_9_code 16 = .ok (.ireturn, 1) := by decide +kernel
theorem nL_check : zDs yL_check 3 := ⟨by decide, by decide, by decide +kernel⟩
theorem dL_check_0 : decode method_10_code 0 = .ok (.aload_n 2, 1) := by decide +kernel
theorem dL_check_1 : decode method_10_code 1 = .ok (.iconst 0, 1) := by decide +kernel
theorem dL_check_2 : decode method_10_code 2 = .ok (.aload_n 0, 1) := by decide +kernel
theorem dL_check_3 : decode method_10_code 3 = .ok (.iload_n 1, 1) := by decide +kernel
theorem dL_check_4 : decode method_10_code 4 = .ok (.invokevirtual 36, 3) := by decide +kernel
theorem dL_check_7 : decode method_10_code 7 = .ok (.i2l, 1) := by decide +kernel
theorem dL_check_8 : decode method_10_code 8 = .ok (.lastore, 1) := by decide +kernel
theorem dL_check_9 : decode method_10_code 9 = .ok (.goto 6, 3) := by decide +kernel
theorem dL_check_12 : decode method_10_code 12 = .ok (.astore_n 3, 1) := by decide +kernel
theorem dL_check_13 : decode method_10_code 13 = .ok (.iconst 1, 1) := by decide +kernel
theorem dL_check_14 : decode method_10_code 14 = .ok (.ireturn, 1) := by decide +kernel
theorem dL_check_15 : decode method_10_code 15 = .ok (.iconst 0, 1) := by decide +kernel
theorem dL_check_16 : decode method_10_code 16 = .ok (.ireturn, 1) := by decide +kernel
theorem nL_witness : zDs yL_witness 4 := ⟨by decide, by decide, by decide +kernel⟩
theorem dL_witness_0 : decode method_11_code 0 = .ok (.aload_n 3, 1) := by decide +kernel
theorem dL_witness_1 : decode method_11_code 1 = .ok (.iconst 0, 1) := by decide +kernel
theorem dL_witness_2 : decode method_11_code 2 = .ok (.aload_n 0, 1) := by decide +kernel
theorem dL_witness_3 : decode method_11_code 3 = .ok (.iload_n 1, 1) := by decide +kernel
theorem dL_witness_4 : decode method_11_code 4 = .ok (.iload_n 2, 1) := by decide +kernel
theorem dL_witness_5 : decode method_11_code 5 = .ok (.invokevirtual 39, 3) := by decide +kernel
theorem dL_witness_8 : decode method_11_code 8 = .ok (.i2l, 1) := by decide +kernel
theorem dL_witness_9 : decode method_11_code 9 = .ok (.lastore, 1) := by decide +kernel
theorem dL_witness_10 : decode method_11_code 10 = .ok (.goto 7, 3) := by decide +kernel
theorem dL_witness_13 : decode method_11_code 13 = .ok (.astore 4, 2) := by decide +kernel
theorem dL_witness_15 : decode method_11_code 15 = .ok (.iconst 1, 1) := by decide +kernel
theorem dL_witness_16 : decode method_11_code 16 = .ok (.ireturn, 1) := by decide +kernel
theorem dL_witness_17 : decode method_11_code 17 = .ok (.iconst 0, 1) := by decide +kernel
theorem dL_witness_18 : decode method_11_code 18 = .ok (.ireturn, 1) := by decide +kernel
theorem nL_years : zDs yL_years 3 := ⟨by decide, by decide, by decide +kernel⟩
theorem dL_years_0 : decode method_12_code 0 = .ok (.aload_n 2, 1) := by decide +kernel
theorem dL_years_1 : decode method_12_code 1 = .ok (.iconst 0, 1) := by decide +kernel
theorem dL_years_2 : decode method_12_code 2 = .ok (.aload_n 0, 1) := by decide +kernel
theorem dL_years_3 : decode method_12_code 3 = .ok (.iload_n 1, 1) := by decide +kernel
theorem dL_years_4 : decode method_12_code 4 = .ok (.invokevirtual 42, 3) := by decide +kernel
theorem dL_years_7 : decode method_12_code 7 = .ok (.i2l, 1) := by decide +kernel
theorem dL_years_8 : decode method_12_code 8 = .ok (.lastore, 1) := by decide +kernel
theorem dL_years_9 : decode method_12_code 9 = .ok (.goto 6, 3) := by decide +kernel
theorem dL_years_12 : decode method_12_code 12 = .ok (.astore_n 3, 1) := by decide +kernel
theorem dL_years_13 : decode method_12_code 13 = .ok (.iconst 1, 1) := by decide +kernel
theorem dL_years_14 : decode method_12_code 14 = .ok (.ireturn, 1) := by decide +kernel
theorem dL_years_15 : decode method_12_code 15 = .ok (.iconst 0, 1) := by decide +kernel
theorem dL_years_16 : decode method_12_code 16 = .ok (.ireturn, 1) := by decide +kernel
theorem nL_stoneOf : zDs yL_stoneOf 4 := ⟨by decide, by decide, by decide +kernel⟩
theorem dL_stoneOf_0 : decode method_13_code 0 = .ok (.aload_n 3, 1) := by decide +kernel
theorem dL_stoneOf_1 : decode method_13_code 1 = .ok (.iconst 0, 1) := by decide +kernel
theorem dL_stoneOf_2 : decode method_13_code 2 = .ok (.aload_n 0, 1) := by decide +kernel
theorem dL_stoneOf_3 : decode method_13_code 3 = .ok (.iload_n 1, 1) := by decide +kernel
theorem dL_stoneOf_4 : decode method_13_code 4 = .ok (.iload_n 2, 1) := by decide +kernel
theorem dL_stoneOf_5 : decode method_13_code 5 = .ok (.invokevirtual 45, 3) := by decide +kernel
theorem dL_stoneOf_8 : decode method_13_code 8 = .ok (.i2l, 1) := by decide +kernel
theorem dL_stoneOf_9 : decode method_13_code 9 = .ok (.lastore, 1) := by decide +kernel
theorem dL_stoneOf_10 : decode method_13_code 10 = .ok (.goto 11, 3) := by decide +kernel
theorem dL_stoneOf_13 : decode method_13_code 13 = .ok (.astore 4, 2) := by decide +kernel
theorem dL_stoneOf_15 : decode method_13_code 15 = .ok (.iconst 1, 1) := by decide +kernel
theorem dL_stoneOf_16 : decode method_13_code 16 = .ok (.ireturn, 1) := by decide +kernel
theorem dL_stoneOf_17 : decode method_13_code 17 = .ok (.astore 4, 2) := by decide +kernel
theorem dL_stoneOf_19 : decode method_13_code 19 = .ok (.iconst 2, 1) := by decide +kernel
theorem dL_stoneOf_20 : decode method_13_code 20 = .ok (.ireturn, 1) := by decide +kernel
theorem dL_stoneOf_21 : decode method_13_code 21 = .ok (.iconst 0, 1) := by decide +kernel
theorem dL_stoneOf_22 : decode method_13_code 22 = .ok (.ireturn, 1) := by decide +kernel
theorem nL_floodOf : zDs yL_floodOf 4 := ⟨by decide, by decide, by decide +kernel⟩
theorem dL_floodOf_0 : decode method_14_code 0 = .ok (.aload_n 3, 1) := by decide +kernel
theorem dL_floodOf_1 : decode method_14_code 1 = .ok (.iconst 0, 1) := by decide +kernel
theorem dL_floodOf_2 : decode method_14_code 2 = .ok (.aload_n 0, 1) := by decide +kernel
theorem dL_floodOf_3 : decode method_14_code 3 = .ok (.iload_n 1, 1) := by decide +kernel
theorem dL_floodOf_4 : decode method_14_code 4 = .ok (.iload_n 2, 1) := by decide +kernel
theorem dL_floodOf_5 : decode method_14_code 5 = .ok (.invokevirtual 52, 3) := by decide +kernel
theorem dL_floodOf_8 : decode method_14_code 8 = .ok (.i2l, 1) := by decide +kernel
theorem dL_floodOf_9 : decode method_14_code 9 = .ok (.lastore, 1) := by decide +kernel
theorem dL_floodOf_10 : decode method_14_code 10 = .ok (.goto 11, 3) := by decide +kernel
theorem dL_floodOf_13 : decode method_14_code 13 = .ok (.astore 4, 2) := by decide +kernel
theorem dL_floodOf_15 : decode method_14_code 15 = .ok (.iconst 1, 1) := by decide +kernel
theorem dL_floodOf_16 : decode method_14_code 16 = .ok (.ireturn, 1) := by decide +kernel
theorem dL_floodOf_17 : decode method_14_code 17 = .ok (.astore 4, 2) := by decide +kernel
theorem dL_floodOf_19 : decode method_14_code 19 = .ok (.iconst 2, 1) := by decide +kernel
theorem dL_floodOf_20 : decode method_14_code 20 = .ok (.ireturn, 1) := by decide +kernel
theorem dL_floodOf_21 : decode method_14_code 21 = .ok (.iconst 0, 1) := by decide +kernel
theorem dL_floodOf_22 : decode method_14_code 22 = .ok (.ireturn, 1) := by decide +kernel
theorem nL_floodIn : zDs yL_floodIn 3 := ⟨by decide, by decide, by decide +kernel⟩
theorem dL_floodIn_0 : decode method_15_code 0 = .ok (.aload_n 2, 1) := by decide +kernel
theorem dL_floodIn_1 : decode method_15_code 1 = .ok (.iconst 0, 1) := by decide +kernel
theorem dL_floodIn_2 : decode method_15_code 2 = .ok (.aload_n 0, 1) := by decide +kernel
theorem dL_floodIn_3 : decode method_15_code 3 = .ok (.iload_n 1, 1) := by decide +kernel
theorem dL_floodIn_4 : decode method_15_code 4 = .ok (.invokevirtual 55, 3) := by decide +kernel
theorem dL_floodIn_7 : decode method_15_code 7 = .ok (.i2l, 1) := by decide +kernel
theorem dL_floodIn_8 : decode method_15_code 8 = .ok (.lastore, 1) := by decide +kernel
theorem dL_floodIn_9 : decode method_15_code 9 = .ok (.goto 6, 3) := by decide +kernel
theorem dL_floodIn_12 : decode method_15_code 12 = .ok (.astore_n 3, 1) := by decide +kernel
theorem dL_floodIn_13 : decode method_15_code 13 = .ok (.iconst 1, 1) := by decide +kernel
theorem dL_floodIn_14 : decode method_15_code 14 = .ok (.ireturn, 1) := by decide +kernel
theorem dL_floodIn_15 : decode method_15_code 15 = .ok (.iconst 0, 1) := by decide +kernel
theorem dL_floodIn_16 : decode method_15_code 16 = .ok (.ireturn, 1) := by decide +kernel
theorem nL_before : zDs yL_before 3 := ⟨by decide, by decide, by decide +kernel⟩
theorem dL_before_0 : decode method_16_code 0 = .ok (.aload_n 2, 1) := by decide +kernel
theorem dL_before_1 : decode method_16_code 1 = .ok (.iconst 0, 1) := by decide +kernel
theorem dL_before_2 : decode method_16_code 2 = .ok (.aload_n 0, 1) := by decide +kernel
theorem dL_before_3 : decode method_16_code 3 = .ok (.iload_n 1, 1) := by decide +kernel
theorem dL_before_4 : decode method_16_code 4 = .ok (.invokevirtual 60, 3) := by decide +kernel
theorem dL_before_7 : decode method_16_code 7 = .ok (.i2l, 1) := by decide +kernel
theorem dL_before_8 : decode method_16_code 8 = .ok (.lastore, 1) := by decide +kernel
theorem dL_before_9 : decode method_16_code 9 = .ok (.goto 6, 3) := by decide +kernel
theorem dL_before_12 : decode method_16_code 12 = .ok (.astore_n 3, 1) := by decide +kernel
theorem dL_before_13 : decode method_16_code 13 = .ok (.iconst 1, 1) := by decide +kernel
theorem dL_before_14 : decode method_16_code 14 = .ok (.ireturn, 1) := by decide +kernel
theorem dL_before_15 : decode method_16_code 15 = .ok (.iconst 0, 1) := by decide +kernel
theorem dL_before_16 : decode method_16_code 16 = .ok (.ireturn, 1) := by decide +kernel
theorem nL_edge : zDs yL_edge 3 := ⟨by decide, by decide, by decide +kernel⟩
theorem dL_edge_0 : decode method_17_code 0 = .ok (.aload_n 2, 1) := by decide +kernel
theorem dL_edge_1 : decode method_17_code 1 = .ok (.iconst 0, 1) := by decide +kernel
theorem dL_edge_2 : decode method_17_code 2 = .ok (.aload_n 0, 1) := by decide +kernel
theorem dL_edge_3 : decode method_17_code 3 = .ok (.iload_n 1, 1) := by decide +kernel
theorem dL_edge_4 : decode method_17_code 4 = .ok (.invokevirtual 63, 3) := by decide +kernel
theorem dL_edge_7 : decode method_17_code 7 = .ok (.i2l, 1) := by decide +kernel
theorem dL_edge_8 : decode method_17_code 8 = .ok (.lastore, 1) := by decide +kernel
theorem dL_edge_9 : decode method_17_code 9 = .ok (.goto 6, 3) := by decide +kernel
theorem dL_edge_12 : decode method_17_code 12 = .ok (.astore_n 3, 1) := by decide +kernel
theorem dL_edge_13 : decode method_17_code 13 = .ok (.iconst 1, 1) := by decide +kernel
theorem dL_edge_14 : decode method_17_code 14 = .ok (.ireturn, 1) := by decide +kernel
theorem dL_edge_15 : decode method_17_code 15 = .ok (.iconst 0, 1) := by decide +kernel
theorem dL_edge_16 : decode method_17_code 16 = .ok (.ireturn, 1) := by decide +kernel
theorem nL_markOf : zDs yL_markOf 5 := ⟨by decide, by decide, by decide +kernel⟩
theorem dL_markOf_0 : decode method_18_code 0 = .ok (.aload 4, 2) := by decide +kernel
theorem dL_markOf_2 : decode method_18_code 2 = .ok (.iconst 0, 1) := by decide +kernel
theorem dL_markOf_3 : decode method_18_code 3 = .ok (.aload_n 0, 1) := by decide +kernel
theorem dL_markOf_4 : decode method_18_code 4 = .ok (.iload_n 1, 1) := by decide +kernel
theorem dL_markOf_5 : decode method_18_code 5 = .ok (.iload_n 2, 1) := by decide +kernel
theorem dL_markOf_6 : decode method_18_code 6 = .ok (.iload_n 3, 1) := by decide +kernel
theorem dL_markOf_7 : decode method_18_code 7 = .ok (.invokevirtual 66, 3) := by decide +kernel
theorem dL_markOf_10 : decode method_18_code 10 = .ok (.i2l, 1) := by decide +kernel
theorem dL_markOf_11 : decode method_18_code 11 = .ok (.lastore, 1) := by decide +kernel
theorem dL_markOf_12 : decode method_18_code 12 = .ok (.goto 15, 3) := by decide +kernel
theorem dL_markOf_15 : decode method_18_code 15 = .ok (.astore 5, 2) := by decide +kernel
theorem dL_markOf_17 : decode method_18_code 17 = .ok (.iconst 1, 1) := by decide +kernel
theorem dL_markOf_18 : decode method_18_code 18 = .ok (.ireturn, 1) := by decide +kernel
theorem dL_markOf_19 : decode method_18_code 19 = .ok (.astore 5, 2) := by decide +kernel
theorem dL_markOf_21 : decode method_18_code 21 = .ok (.iconst 2, 1) := by decide +kernel
theorem dL_markOf_22 : decode method_18_code 22 = .ok (.ireturn, 1) := by decide +kernel
theorem dL_markOf_23 : decode method_18_code 23 = .ok (.astore 5, 2) := by decide +kernel
theorem dL_markOf_25 : decode method_18_code 25 = .ok (.iconst 3, 1) := by decide +kernel
theorem dL_markOf_26 : decode method_18_code 26 = .ok (.ireturn, 1) := by decide +kernel
theorem dL_markOf_27 : decode method_18_code 27 = .ok (.iconst 0, 1) := by decide +kernel
theorem dL_markOf_28 : decode method_18_code 28 = .ok (.ireturn, 1) := by decide +kernel
theorem nL_mark : zDs yL_mark 4 := ⟨by decide, by decide, by decide +kernel⟩
theorem dL_mark_0 : decode method_19_code 0 = .ok (.aload_n 3, 1) := by decide +kernel
theorem dL_mark_1 : decode method_19_code 1 = .ok (.iconst 0, 1) := by decide +kernel
theorem dL_mark_2 : decode method_19_code 2 = .ok (.aload_n 0, 1) := by decide +kernel
theorem dL_mark_3 : decode method_19_code 3 = .ok (.iload_n 1, 1) := by decide +kernel
theorem dL_mark_4 : decode method_19_code 4 = .ok (.iload_n 2, 1) := by decide +kernel
theorem dL_mark_5 : decode method_19_code 5 = .ok (.invokevirtual 69, 3) := by decide +kernel
theorem dL_mark_8 : decode method_19_code 8 = .ok (.i2l, 1) := by decide +kernel
theorem dL_mark_9 : decode method_19_code 9 = .ok (.lastore, 1) := by decide +kernel
theorem dL_mark_10 : decode method_19_code 10 = .ok (.goto 11, 3) := by decide +kernel
theorem dL_mark_13 : decode method_19_code 13 = .ok (.astore 4, 2) := by decide +kernel
theorem dL_mark_15 : decode method_19_code 15 = .ok (.iconst 1, 1) := by decide +kernel
theorem dL_mark_16 : decode method_19_code 16 = .ok (.ireturn, 1) := by decide +kernel
theorem dL_mark_17 : decode method_19_code 17 = .ok (.astore 4, 2) := by decide +kernel
theorem dL_mark_19 : decode method_19_code 19 = .ok (.iconst 2, 1) := by decide +kernel
theorem dL_mark_20 : decode method_19_code 20 = .ok (.ireturn, 1) := by decide +kernel
theorem dL_mark_21 : decode method_19_code 21 = .ok (.iconst 0, 1) := by decide +kernel
theorem dL_mark_22 : decode method_19_code 22 = .ok (.ireturn, 1) := by decide +kernel
theorem nL_level : zDs yL_level 4 := ⟨by decide, by decide, by decide +kernel⟩
theorem dL_level_0 : decode method_20_code 0 = .ok (.aload_n 3, 1) := by decide +kernel
theorem dL_level_1 : decode method_20_code 1 = .ok (.iconst 0, 1) := by decide +kernel
theorem dL_level_2 : decode method_20_code 2 = .ok (.aload_n 0, 1) := by decide +kernel
theorem dL_level_3 : decode method_20_code 3 = .ok (.iload_n 1, 1) := by decide +kernel
theorem dL_level_4 : decode method_20_code 4 = .ok (.iload_n 2, 1) := by decide +kernel
theorem dL_level_5 : decode method_20_code 5 = .ok (.invokevirtual 72, 3) := by decide +kernel
theorem dL_level_8 : decode method_20_code 8 = .ok (.i2l, 1) := by decide +kernel
theorem dL_level_9 : decode method_20_code 9 = .ok (.lastore, 1) := by decide +kernel
theorem dL_level_10 : decode method_20_code 10 = .ok (.goto 7, 3) := by decide +kernel
theorem dL_level_13 : decode method_20_code 13 = .ok (.astore 4, 2) := by decide +kernel
theorem dL_level_15 : decode method_20_code 15 = .ok (.iconst 1, 1) := by decide +kernel
theorem dL_level_16 : decode method_20_code 16 = .ok (.ireturn, 1) := by decide +kernel
theorem dL_level_17 : decode method_20_code 17 = .ok (.iconst 0, 1) := by decide +kernel
theorem dL_level_18 : decode method_20_code 18 = .ok (.ireturn, 1) := by decide +kernel
theorem nL_reads : zDs yL_reads 4 := ⟨by decide, by decide, by decide +kernel⟩
theorem dL_reads_0 : decode method_21_code 0 = .ok (.aload_n 3, 1) := by decide +kernel
theorem dL_reads_1 : decode method_21_code 1 = .ok (.iconst 0, 1) := by decide +kernel
theorem dL_reads_2 : decode method_21_code 2 = .ok (.aload_n 0, 1) := by decide +kernel
theorem dL_reads_3 : decode method_21_code 3 = .ok (.iload_n 1, 1) := by decide +kernel
theorem dL_reads_4 : decode method_21_code 4 = .ok (.iload_n 2, 1) := by decide +kernel
theorem dL_reads_5 : decode method_21_code 5 = .ok (.invokevirtual 75, 3) := by decide +kernel
theorem dL_reads_8 : decode method_21_code 8 = .ok (.i2l, 1) := by decide +kernel
theorem dL_reads_9 : decode method_21_code 9 = .ok (.lastore, 1) := by decide +kernel
theorem dL_reads_10 : decode method_21_code 10 = .ok (.goto 7, 3) := by decide +kernel
theorem dL_reads_13 : decode method_21_code 13 = .ok (.astore 4, 2) := by decide +kernel
theorem dL_reads_15 : decode method_21_code 15 = .ok (.iconst 1, 1) := by decide +kernel
theorem dL_reads_16 : decode method_21_code 16 = .ok (.ireturn, 1) := by decide +kernel
theorem dL_reads_17 : decode method_21_code 17 = .ok (.iconst 0, 1) := by decide +kernel
theorem dL_reads_18 : decode method_21_code 18 = .ok (.ireturn, 1) := by decide +kernel
theorem nL_shift : zDs yL_shift 3 := ⟨by decide, by decide, by decide +kernel⟩
theorem dL_shift_0 : decode method_22_code 0 = .ok (.aload_n 2, 1) := by decide +kernel
theorem dL_shift_1 : decode method_22_code 1 = .ok (.iconst 0, 1) := by decide +kernel
theorem dL_shift_2 : decode method_22_code 2 = .ok (.aload_n 0, 1) := by decide +kernel
theorem dL_shift_3 : decode method_22_code 3 = .ok (.iload_n 1, 1) := by decide +kernel
theorem dL_shift_4 : decode method_22_code 4 = .ok (.invokevirtual 78, 3) := by decide +kernel
theorem dL_shift_7 : decode method_22_code 7 = .ok (.i2l, 1) := by decide +kernel
theorem dL_shift_8 : decode method_22_code 8 = .ok (.lastore, 1) := by decide +kernel
theorem dL_shift_9 : decode method_22_code 9 = .ok (.goto 6, 3) := by decide +kernel
theorem dL_shift_12 : decode method_22_code 12 = .ok (.astore_n 3, 1) := by decide +kernel
theorem dL_shift_13 : decode method_22_code 13 = .ok (.iconst 1, 1) := by decide +kernel
theorem dL_shift_14 : decode method_22_code 14 = .ok (.ireturn, 1) := by decide +kernel
theorem dL_shift_15 : decode method_22_code 15 = .ok (.iconst 0, 1) := by decide +kernel
theorem dL_shift_16 : decode method_22_code 16 = .ok (.ireturn, 1) := by decide +kernel
theorem nL_errorIn : zDs yL_errorIn 4 := ⟨by decide, by decide, by decide +kernel⟩
theorem dL_errorIn_0 : decode method_23_code 0 = .ok (.aload_n 3, 1) := by decide +kernel
theorem dL_errorIn_1 : decode method_23_code 1 = .ok (.iconst 0, 1) := by decide +kernel
theorem dL_errorIn_2 : decode method_23_code 2 = .ok (.aload_n 0, 1) := by decide +kernel
theorem dL_errorIn_3 : decode method_23_code 3 = .ok (.iload_n 1, 1) := by decide +kernel
theorem dL_errorIn_4 : decode method_23_code 4 = .ok (.iload_n 2, 1) := by decide +kernel
theorem dL_errorIn_5 : decode method_23_code 5 = .ok (.invokevirtual 81, 3) := by decide +kernel
theorem dL_errorIn_8 : decode method_23_code 8 = .ok (.i2l, 1) := by decide +kernel
theorem dL_errorIn_9 : decode method_23_code 9 = .ok (.lastore, 1) := by decide +kernel
theorem dL_errorIn_10 : decode method_23_code 10 = .ok (.goto 11, 3) := by decide +kernel
theorem dL_errorIn_13 : decode method_23_code 13 = .ok (.astore 4, 2) := by decide +kernel
theorem dL_errorIn_15 : decode method_23_code 15 = .ok (.iconst 1, 1) := by decide +kernel
theorem dL_errorIn_16 : decode method_23_code 16 = .ok (.ireturn, 1) := by decide +kernel
theorem dL_errorIn_17 : decode method_23_code 17 = .ok (.astore 4, 2) := by decide +kernel
theorem dL_errorIn_19 : decode method_23_code 19 = .ok (.iconst 2, 1) := by decide +kernel
theorem dL_errorIn_20 : decode method_23_code 20 = .ok (.ireturn, 1) := by decide +kernel
theorem dL_errorIn_21 : decode method_23_code 21 = .ok (.iconst 0, 1) := by decide +kernel
theorem dL_errorIn_22 : decode method_23_code 22 = .ok (.ireturn, 1) := by decide +kernel
theorem nL_rises : zDs yL_rises 3 := ⟨by decide, by decide, by decide +kernel⟩
theorem dL_rises_0 : decode method_24_code 0 = .ok (.aload_n 2, 1) := by decide +kernel
theorem dL_rises_1 : decode method_24_code 1 = .ok (.iconst 0, 1) := by decide +kernel
theorem dL_rises_2 : decode method_24_code 2 = .ok (.aload_n 0, 1) := by decide +kernel
theorem dL_rises_3 : decode method_24_code 3 = .ok (.iload_n 1, 1) := by decide +kernel
theorem dL_rises_4 : decode method_24_code 4 = .ok (.invokevirtual 84, 3) := by decide +kernel
theorem dL_rises_7 : decode method_24_code 7 = .ok (.ifCond .eq 7, 3) := by decide +kernel
theorem dL_rises_10 : decode method_24_code 10 = .ok (.lconst 1, 1) := by decide +kernel
theorem dL_rises_11 : decode method_24_code 11 = .ok (.goto 4, 3) := by decide +kernel
theorem dL_rises_14 : decode method_24_code 14 = .ok (.lconst 0, 1) := by decide +kernel
theorem dL_rises_15 : decode method_24_code 15 = .ok (.lastore, 1) := by decide +kernel
theorem dL_rises_16 : decode method_24_code 16 = .ok (.goto 6, 3) := by decide +kernel
theorem dL_rises_19 : decode method_24_code 19 = .ok (.astore_n 3, 1) := by decide +kernel
theorem dL_rises_20 : decode method_24_code 20 = .ok (.iconst 1, 1) := by decide +kernel
theorem dL_rises_21 : decode method_24_code 21 = .ok (.ireturn, 1) := by decide +kernel
theorem dL_rises_22 : decode method_24_code 22 = .ok (.iconst 0, 1) := by decide +kernel
theorem dL_rises_23 : decode method_24_code 23 = .ok (.ireturn, 1) := by decide +kernel
theorem nL_ranked : zDs yL_ranked 3 := ⟨by decide, by decide, by decide +kernel⟩
theorem dL_ranked_0 : decode method_25_code 0 = .ok (.aload_n 2, 1) := by decide +kernel
theorem dL_ranked_1 : decode method_25_code 1 = .ok (.iconst 0, 1) := by decide +kernel
theorem dL_ranked_2 : decode method_25_code 2 = .ok (.aload_n 0, 1) := by decide +kernel
theorem dL_ranked_3 : decode method_25_code 3 = .ok (.iload_n 1, 1) := by decide +kernel
theorem dL_ranked_4 : decode method_25_code 4 = .ok (.invokevirtual 88, 3) := by decide +kernel
theorem dL_ranked_7 : decode method_25_code 7 = .ok (.i2l, 1) := by decide +kernel
theorem dL_ranked_8 : decode method_25_code 8 = .ok (.lastore, 1) := by decide +kernel
theorem dL_ranked_9 : decode method_25_code 9 = .ok (.goto 6, 3) := by decide +kernel
theorem dL_ranked_12 : decode method_25_code 12 = .ok (.astore_n 3, 1) := by decide +kernel
theorem dL_ranked_13 : decode method_25_code 13 = .ok (.iconst 1, 1) := by decide +kernel
theorem dL_ranked_14 : decode method_25_code 14 = .ok (.ireturn, 1) := by decide +kernel
theorem dL_ranked_15 : decode method_25_code 15 = .ok (.iconst 0, 1) := by decide +kernel
theorem dL_ranked_16 : decode method_25_code 16 = .ok (.ireturn, 1) := by decide +kernel
theorem nL_append : zDs yL_append 3 := ⟨by decide, by decide, by decide +kernel⟩
theorem dL_append_0 : decode method_26_code 0 = .ok (.aload_n 2, 1) := by decide +kernel
theorem dL_append_1 : decode method_26_code 1 = .ok (.iconst 0, 1) := by decide +kernel
theorem dL_append_2 : decode method_26_code 2 = .ok (.aload_n 0, 1) := by decide +kernel
theorem dL_append_3 : decode method_26_code 3 = .ok (.iload_n 1, 1) := by decide +kernel
theorem dL_append_4 : decode method_26_code 4 = .ok (.invokevirtual 91, 3) := by decide +kernel
theorem dL_append_7 : decode method_26_code 7 = .ok (.i2l, 1) := by decide +kernel
theorem dL_append_8 : decode method_26_code 8 = .ok (.lastore, 1) := by decide +kernel
theorem dL_append_9 : decode method_26_code 9 = .ok (.goto 6, 3) := by decide +kernel
theorem dL_append_12 : decode method_26_code 12 = .ok (.astore_n 3, 1) := by decide +kernel
theorem dL_append_13 : decode method_26_code 13 = .ok (.iconst 1, 1) := by decide +kernel
theorem dL_append_14 : decode method_26_code 14 = .ok (.ireturn, 1) := by decide +kernel
theorem dL_append_15 : decode method_26_code 15 = .ok (.iconst 0, 1) := by decide +kernel
theorem dL_append_16 : decode method_26_code 16 = .ok (.ireturn, 1) := by decide +kernel
theorem nL_commands : zDs yL_commands 2 := ⟨by decide, by decide, by decide +kernel⟩
theorem dL_commands_0 : decode method_27_code 0 = .ok (.aload_n 1, 1) := by decide +kernel
theorem dL_commands_1 : decode method_27_code 1 = .ok (.iconst 0, 1) := by decide +kernel
theorem dL_commands_2 : decode method_27_code 2 = .ok (.aload_n 0, 1) := by decide +kernel
theorem dL_commands_3 : decode method_27_code 3 = .ok (.invokevirtual 97, 3) := by decide +kernel
theorem dL_commands_6 : decode method_27_code 6 = .ok (.i2l, 1) := by decide +kernel
theorem dL_commands_7 : decode method_27_code 7 = .ok (.lastore, 1) := by decide +kernel
theorem dL_commands_8 : decode method_27_code 8 = .ok (.goto 9, 3) := by decide +kernel
theorem dL_commands_11 : decode method_27_code 11 = .ok (.astore_n 2, 1) := by decide +kernel
theorem dL_commands_12 : decode method_27_code 12 = .ok (.iconst 1, 1) := by decide +kernel
theorem dL_commands_13 : decode method_27_code 13 = .ok (.ireturn, 1) := by decide +kernel
theorem dL_commands_14 : decode method_27_code 14 = .ok (.astore_n 2, 1) := by decide +kernel
theorem dL_commands_15 : decode method_27_code 15 = .ok (.iconst 2, 1) := by decide +kernel
theorem dL_commands_16 : decode method_27_code 16 = .ok (.ireturn, 1) := by decide +kernel
theorem dL_commands_17 : decode method_27_code 17 = .ok (.iconst 0, 1) := by decide +kernel
theorem dL_commands_18 : decode method_27_code 18 = .ok (.ireturn, 1) := by decide +kernel
theorem nL_reason : zDs yL_reason 3 := ⟨by decide, by decide, by decide +kernel⟩
theorem dL_reason_0 : decode method_28_code 0 = .ok (.aload_n 2, 1) := by decide +kernel
theorem dL_reason_1 : decode method_28_code 1 = .ok (.iconst 0, 1) := by decide +kernel
theorem dL_reason_2 : decode method_28_code 2 = .ok (.aload_n 0, 1) := by decide +kernel
theorem dL_reason_3 : decode method_28_code 3 = .ok (.iload_n 1, 1) := by decide +kernel
theorem dL_reason_4 : decode method_28_code 4 = .ok (.invokevirtual 100, 3) := by decide +kernel
theorem dL_reason_7 : decode method_28_code 7 = .ok (.i2l, 1) := by decide +kernel
theorem dL_reason_8 : decode method_28_code 8 = .ok (.lastore, 1) := by decide +kernel
theorem dL_reason_9 : decode method_28_code 9 = .ok (.goto 9, 3) := by decide +kernel
theorem dL_reason_12 : decode method_28_code 12 = .ok (.astore_n 3, 1) := by decide +kernel
theorem dL_reason_13 : decode method_28_code 13 = .ok (.iconst 1, 1) := by decide +kernel
theorem dL_reason_14 : decode method_28_code 14 = .ok (.ireturn, 1) := by decide +kernel
theorem dL_reason_15 : decode method_28_code 15 = .ok (.astore_n 3, 1) := by decide +kernel
theorem dL_reason_16 : decode method_28_code 16 = .ok (.iconst 2, 1) := by decide +kernel
theorem dL_reason_17 : decode method_28_code 17 = .ok (.ireturn, 1) := by decide +kernel
theorem dL_reason_18 : decode method_28_code 18 = .ok (.iconst 0, 1) := by decide +kernel
theorem dL_reason_19 : decode method_28_code 19 = .ok (.ireturn, 1) := by decide +kernel
theorem nL_line : zDs yL_line 3 := ⟨by decide, by decide, by decide +kernel⟩
theorem dL_line_0 : decode method_29_code 0 = .ok (.aload_n 2, 1) := by decide +kernel
theorem dL_line_1 : decode method_29_code 1 = .ok (.iconst 0, 1) := by decide +kernel
theorem dL_line_2 : decode method_29_code 2 = .ok (.aload_n 0, 1) := by decide +kernel
theorem dL_line_3 : decode method_29_code 3 = .ok (.iload_n 1, 1) := by decide +kernel
theorem dL_line_4 : decode method_29_code 4 = .ok (.invokevirtual 103, 3) := by decide +kernel
theorem dL_line_7 : decode method_29_code 7 = .ok (.i2l, 1) := by decide +kernel
theorem dL_line_8 : decode method_29_code 8 = .ok (.lastore, 1) := by decide +kernel
theorem dL_line_9 : decode method_29_code 9 = .ok (.goto 6, 3) := by decide +kernel
theorem dL_line_12 : decode method_29_code 12 = .ok (.astore_n 3, 1) := by decide +kernel
theorem dL_line_13 : decode method_29_code 13 = .ok (.iconst 1, 1) := by decide +kernel
theorem dL_line_14 : decode method_29_code 14 = .ok (.ireturn, 1) := by decide +kernel
theorem dL_line_15 : decode method_29_code 15 = .ok (.iconst 0, 1) := by decide +kernel
theorem dL_line_16 : decode method_29_code 16 = .ok (.ireturn, 1) := by decide +kernel
theorem nL_character : zDs yL_character 3 := ⟨by decide, by decide, by decide +kernel⟩
theorem dL_character_0 : decode method_30_code 0 = .ok (.aload_n 2, 1) := by decide +kernel
theorem dL_character_1 : decode method_30_code 1 = .ok (.iconst 0, 1) := by decide +kernel
theorem dL_character_2 : decode method_30_code 2 = .ok (.aload_n 0, 1) := by decide +kernel
theorem dL_character_3 : decode method_30_code 3 = .ok (.iload_n 1, 1) := by decide +kernel
theorem dL_character_4 : decode method_30_code 4 = .ok (.invokevirtual 106, 3) := by decide +kernel
theorem dL_character_7 : decode method_30_code 7 = .ok (.i2l, 1) := by decide +kernel
theorem dL_character_8 : decode method_30_code 8 = .ok (.lastore, 1) := by decide +kernel
theorem dL_character_9 : decode method_30_code 9 = .ok (.goto 6, 3) := by decide +kernel
theorem dL_character_12 : decode method_30_code 12 = .ok (.astore_n 3, 1) := by decide +kernel
theorem dL_character_13 : decode method_30_code 13 = .ok (.iconst 1, 1) := by decide +kernel
theorem dL_character_14 : decode method_30_code 14 = .ok (.ireturn, 1) := by decide +kernel
theorem dL_character_15 : decode method_30_code 15 = .ok (.iconst 0, 1) := by decide +kernel
theorem dL_character_16 : decode method_30_code 16 = .ok (.ireturn, 1) := by decide +kernel
theorem nL_estimate : zDs yL_estimate 3 := ⟨by decide, by decide, by decide +kernel⟩
theorem dL_estimate_0 : decode method_31_code 0 = .ok (.aload_n 2, 1) := by decide +kernel
theorem dL_estimate_1 : decode method_31_code 1 = .ok (.iconst 0, 1) := by decide +kernel
theorem dL_estimate_2 : decode method_31_code 2 = .ok (.aload_n 0, 1) := by decide +kernel
theorem dL_estimate_3 : decode method_31_code 3 = .ok (.iload_n 1, 1) := by decide +kernel
theorem dL_estimate_4 : decode method_31_code 4 = .ok (.invokevirtual 110, 3) := by decide +kernel
theorem dL_estimate_7 : decode method_31_code 7 = .ok (.dastore, 1) := by decide +kernel
theorem dL_estimate_8 : decode method_31_code 8 = .ok (.goto 9, 3) := by decide +kernel
theorem dL_estimate_11 : decode method_31_code 11 = .ok (.astore_n 3, 1) := by decide +kernel
theorem dL_estimate_12 : decode method_31_code 12 = .ok (.iconst 1, 1) := by decide +kernel
theorem dL_estimate_13 : decode method_31_code 13 = .ok (.ireturn, 1) := by decide +kernel
theorem dL_estimate_14 : decode method_31_code 14 = .ok (.astore_n 3, 1) := by decide +kernel
theorem dL_estimate_15 : decode method_31_code 15 = .ok (.iconst 2, 1) := by decide +kernel
theorem dL_estimate_16 : decode method_31_code 16 = .ok (.ireturn, 1) := by decide +kernel
theorem dL_estimate_17 : decode method_31_code 17 = .ok (.iconst 0, 1) := by decide +kernel
theorem dL_estimate_18 : decode method_31_code 18 = .ok (.ireturn, 1) := by decide +kernel
theorem nL_meanEdge : zDs yL_meanEdge 2 := ⟨by decide, by decide, by decide +kernel⟩
theorem dL_meanEdge_0 : decode method_32_code 0 = .ok (.aload_n 1, 1) := by decide +kernel
theorem dL_meanEdge_1 : decode method_32_code 1 = .ok (.iconst 0, 1) := by decide +kernel
theorem dL_meanEdge_2 : decode method_32_code 2 = .ok (.aload_n 0, 1) := by decide +kernel
theorem dL_meanEdge_3 : decode method_32_code 3 = .ok (.invokevirtual 116, 3) := by decide +kernel
theorem dL_meanEdge_6 : decode method_32_code 6 = .ok (.f2d, 1) := by decide +kernel
theorem dL_meanEdge_7 : decode method_32_code 7 = .ok (.dastore, 1) := by decide +kernel
theorem dL_meanEdge_8 : decode method_32_code 8 = .ok (.goto 6, 3) := by decide +kernel
theorem dL_meanEdge_11 : decode method_32_code 11 = .ok (.astore_n 2, 1) := by decide +kernel
theorem dL_meanEdge_12 : decode method_32_code 12 = .ok (.iconst 1, 1) := by decide +kernel
theorem dL_meanEdge_13 : decode method_32_code 13 = .ok (.ireturn, 1) := by decide +kernel
theorem dL_meanEdge_14 : decode method_32_code 14 = .ok (.iconst 0, 1) := by decide +kernel
theorem dL_meanEdge_15 : decode method_32_code 15 = .ok (.ireturn, 1) := by decide +kernel
theorem nL_account : zDs yL_account 3 := ⟨by decide, by decide, by decide +kernel⟩
theorem dL_account_0 : decode method_33_code 0 = .ok (.aload_n 2, 1) := by decide +kernel
theorem dL_account_1 : decode method_33_code 1 = .ok (.iconst 0, 1) := by decide +kernel
theorem dL_account_2 : decode method_33_code 2 = .ok (.aload_n 0, 1) := by decide +kernel
theorem dL_account_3 : decode method_33_code 3 = .ok (.iload_n 1, 1) := by decide +kernel
theorem dL_account_4 : decode method_33_code 4 = .ok (.invokevirtual 120, 3) := by decide +kernel
theorem dL_account_7 : decode method_33_code 7 = .ok (.i2l, 1) := by decide +kernel
theorem dL_account_8 : decode method_33_code 8 = .ok (.lastore, 1) := by decide +kernel
theorem dL_account_9 : decode method_33_code 9 = .ok (.goto 6, 3) := by decide +kernel
theorem dL_account_12 : decode method_33_code 12 = .ok (.astore_n 3, 1) := by decide +kernel
theorem dL_account_13 : decode method_33_code 13 = .ok (.iconst 1, 1) := by decide +kernel
theorem dL_account_14 : decode method_33_code 14 = .ok (.ireturn, 1) := by decide +kernel
theorem dL_account_15 : decode method_33_code 15 = .ok (.iconst 0, 1) := by decide +kernel
theorem dL_account_16 : decode method_33_code 16 = .ok (.ireturn, 1) := by decide +kernel
theorem nL_undo : zDs yL_undo 2 := ⟨by decide, by decide, by decide +kernel⟩
theorem dL_undo_0 : decode method_34_code 0 = .ok (.aload_n 1, 1) := by decide +kernel
theorem dL_undo_1 : decode method_34_code 1 = .ok (.iconst 0, 1) := by decide +kernel
theorem dL_undo_2 : decode method_34_code 2 = .ok (.aload_n 0, 1) := by decide +kernel
theorem dL_undo_3 : decode method_34_code 3 = .ok (.invokevirtual 123, 3) := by decide +kernel
theorem dL_undo_6 : decode method_34_code 6 = .ok (.i2l, 1) := by decide +kernel
theorem dL_undo_7 : decode method_34_code 7 = .ok (.lastore, 1) := by decide +kernel
theorem dL_undo_8 : decode method_34_code 8 = .ok (.goto 6, 3) := by decide +kernel
theorem dL_undo_11 : decode method_34_code 11 = .ok (.astore_n 2, 1) := by decide +kernel
theorem dL_undo_12 : decode method_34_code 12 = .ok (.iconst 1, 1) := by decide +kernel
theorem dL_undo_13 : decode method_34_code 13 = .ok (.ireturn, 1) := by decide +kernel
theorem dL_undo_14 : decode method_34_code 14 = .ok (.iconst 0, 1) := by decide +kernel
theorem dL_undo_15 : decode method_34_code 15 = .ok (.ireturn, 1) := by decide +kernel
theorem nL_restore : zDs yL_restore 2 := ⟨by decide, by decide, by decide +kernel⟩
theorem dL_restore_0 : decode method_35_code 0 = .ok (.aload_n 1, 1) := by decide +kernel
theorem dL_restore_1 : decode method_35_code 1 = .ok (.iconst 0, 1) := by decide +kernel
theorem dL_restore_2 : decode method_35_code 2 = .ok (.aload_n 0, 1) := by decide +kernel
theorem dL_restore_3 : decode method_35_code 3 = .ok (.invokevirtual 126, 3) := by decide +kernel
theorem dL_restore_6 : decode method_35_code 6 = .ok (.i2l, 1) := by decide +kernel
theorem dL_restore_7 : decode method_35_code 7 = .ok (.lastore, 1) := by decide +kernel
theorem dL_restore_8 : decode method_35_code 8 = .ok (.goto 6, 3) := by decide +kernel
theorem dL_restore_11 : decode method_35_code 11 = .ok (.astore_n 2, 1) := by decide +kernel
theorem dL_restore_12 : decode method_35_code 12 = .ok (.iconst 1, 1) := by decide +kernel
theorem dL_restore_13 : decode method_35_code 13 = .ok (.ireturn, 1) := by decide +kernel
theorem dL_restore_14 : decode method_35_code 14 = .ok (.iconst 0, 1) := by decide +kernel
theorem dL_restore_15 : decode method_35_code 15 = .ok (.ireturn, 1) := by decide +kernel
