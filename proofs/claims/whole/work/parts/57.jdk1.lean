def RJ3 : String := "jdk/internal/util/Preconditions"
def yJ3_checkIndex_8e157 : MethodName := ⟨RJ3, "checkIndex", "(IILjava/util/function/BiFunction;)I"⟩
abbrev mJ3_checkIndex_8e157 : zMI := (yJ3_checkIndex_8e157, prog_43_method_11_code, 3, (Option.some Jvm.ClassFile.FieldType.int), [])
theorem kJ3_checkIndex_8e157 : Cond.code yJ3_checkIndex_8e157 prog_43_method_11_code 3 (Option.some Jvm.ClassFile.FieldType.int) ∈ lw_good := zin 1077 (by decide +kernel) (by decide +kernel)
theorem lJ0_1059 : zLS RJ0 1059 yJ3_checkIndex_8e157 := z3 (zin 1075 (by decide +kernel) (by decide +kernel)) (zin 1076 (by decide +kernel) (by decide +kernel)) (zin 29 (by decide +kernel) (by decide +kernel))
theorem pnJ0 : plainName RJ0 = true := by decide +kernel
theorem nJ0_isEmpty_aae02 : zDs yJ0_isEmpty_aae02 0 := ⟨by decide, by decide, by decide +kernel⟩
theorem dJ0_isEmpty_aae02_0 : decode prog_30_method_55_code 0 = .ok (.aload_n 0, 1) := by decide +kernel
theorem dJ0_isEmpty_aae02_1 : decode prog_30_method_55_code 1 = .ok (.getfield 9, 3) := by decide +kernel
theorem dJ0_isEmpty_aae02_4 : decode prog_30_method_55_code 4 = .ok (.arraylength, 1) := by decide +kernel
theorem dJ0_isEmpty_aae02_5 : decode prog_30_method_55_code 5 = .ok (.ifCond .ne 7, 3) := by decide +kernel
theorem dJ0_isEmpty_aae02_8 : decode prog_30_method_55_code 8 = .ok (.iconst 1, 1) := by decide +kernel
theorem dJ0_isEmpty_aae02_9 : decode prog_30_method_55_code 9 = .ok (.goto 4, 3) := by decide +kernel
theorem dJ0_isEmpty_aae02_12 : decode prog_30_method_55_code 12 = .ok (.iconst 0, 1) := by decide +kernel
theorem dJ0_isEmpty_aae02_13 : decode prog_30_method_55_code 13 = .ok (.ireturn, 1) := by decide +kernel
theorem nJ0_length_8abf5 : zDs yJ0_length_8abf5 0 := ⟨by decide, by decide, by decide +kernel⟩
theorem dJ0_length_8abf5_0 : decode prog_30_method_54_code 0 = .ok (.aload_n 0, 1) := by decide +kernel
theorem dJ0_length_8abf5_1 : decode prog_30_method_54_code 1 = .ok (.getfield 9, 3) := by decide +kernel
theorem dJ0_length_8abf5_4 : decode prog_30_method_54_code 4 = .ok (.arraylength, 1) := by decide +kernel
theorem dJ0_length_8abf5_5 : decode prog_30_method_54_code 5 = .ok (.aload_n 0, 1) := by decide +kernel
theorem dJ0_length_8abf5_6 : decode prog_30_method_54_code 6 = .ok (.invokevirtual 335, 3) := by decide +kernel
theorem dJ0_length_8abf5_9 : decode prog_30_method_54_code 9 = .ok (.ishr, 1) := by decide +kernel
theorem dJ0_length_8abf5_10 : decode prog_30_method_54_code 10 = .ok (.ireturn, 1) := by decide +kernel
theorem nJ0_coder_7d493 : zDs yJ0_coder_7d493 0 := ⟨by decide, by decide, by decide +kernel⟩
theorem dJ0_coder_7d493_0 : decode prog_30_method_152_code 0 = .ok (.getstatic 38, 3) := by decide +kernel
theorem dJ0_coder_7d493_3 : decode prog_30_method_152_code 3 = .ok (.ifCond .eq 10, 3) := by decide +kernel
theorem dJ0_coder_7d493_6 : decode prog_30_method_152_code 6 = .ok (.aload_n 0, 1) := by decide +kernel
theorem dJ0_coder_7d493_7 : decode prog_30_method_152_code 7 = .ok (.getfield 15, 3) := by decide +kernel
theorem dJ0_coder_7d493_10 : decode prog_30_method_152_code 10 = .ok (.goto 4, 3) := by decide +kernel
theorem dJ0_coder_7d493_13 : decode prog_30_method_152_code 13 = .ok (.iconst 1, 1) := by decide +kernel
theorem dJ0_coder_7d493_14 : decode prog_30_method_152_code 14 = .ok (.ireturn, 1) := by decide +kernel
theorem nJ0_isLatin1_aae02 : zDs yJ0_isLatin1_aae02 0 := ⟨by decide, by decide, by decide +kernel⟩
theorem dJ0_isLatin1_aae02_0 : decode prog_30_method_154_code 0 = .ok (.getstatic 38, 3) := by decide +kernel
theorem dJ0_isLatin1_aae02_3 : decode prog_30_method_154_code 3 = .ok (.ifCond .eq 14, 3) := by decide +kernel
theorem dJ0_isLatin1_aae02_6 : decode prog_30_method_154_code 6 = .ok (.aload_n 0, 1) := by decide +kernel
theorem dJ0_isLatin1_aae02_7 : decode prog_30_method_154_code 7 = .ok (.getfield 15, 3) := by decide +kernel
theorem dJ0_isLatin1_aae02_10 : decode prog_30_method_154_code 10 = .ok (.ifCond .ne 7, 3) := by decide +kernel
theorem dJ0_isLatin1_aae02_13 : decode prog_30_method_154_code 13 = .ok (.iconst 1, 1) := by decide +kernel
theorem dJ0_isLatin1_aae02_14 : decode prog_30_method_154_code 14 = .ok (.goto 4, 3) := by decide +kernel
theorem dJ0_isLatin1_aae02_17 : decode prog_30_method_154_code 17 = .ok (.iconst 0, 1) := by decide +kernel
theorem dJ0_isLatin1_aae02_18 : decode prog_30_method_154_code 18 = .ok (.ireturn, 1) := by decide +kernel
theorem nJ0_charAt_5068e : zDs yJ0_charAt_5068e 1 := ⟨by decide, by decide, by decide +kernel⟩
theorem dJ0_charAt_5068e_0 : decode prog_30_method_56_code 0 = .ok (.aload_n 0, 1) := by decide +kernel
theorem dJ0_charAt_5068e_1 : decode prog_30_method_56_code 1 = .ok (.invokevirtual 492, 3) := by decide +kernel
theorem dJ0_charAt_5068e_4 : decode prog_30_method_56_code 4 = .ok (.ifCond .eq 12, 3) := by decide +kernel
theorem dJ0_charAt_5068e_7 : decode prog_30_method_56_code 7 = .ok (.aload_n 0, 1) := by decide +kernel
theorem dJ0_charAt_5068e_8 : decode prog_30_method_56_code 8 = .ok (.getfield 9, 3) := by decide +kernel
theorem dJ0_charAt_5068e_11 : decode prog_30_method_56_code 11 = .ok (.iload_n 1, 1) := by decide +kernel
theorem dJ0_charAt_5068e_12 : decode prog_30_method_56_code 12 = .ok (.invokestatic 495, 3) := by decide +kernel
theorem dJ0_charAt_5068e_15 : decode prog_30_method_56_code 15 = .ok (.ireturn, 1) := by decide +kernel
theorem dJ0_charAt_5068e_16 : decode prog_30_method_56_code 16 = .ok (.aload_n 0, 1) := by decide +kernel
theorem dJ0_charAt_5068e_17 : decode prog_30_method_56_code 17 = .ok (.getfield 9, 3) := by decide +kernel
theorem dJ0_charAt_5068e_20 : decode prog_30_method_56_code 20 = .ok (.iload_n 1, 1) := by decide +kernel
theorem dJ0_charAt_5068e_21 : decode prog_30_method_56_code 21 = .ok (.invokestatic 498, 3) := by decide +kernel
theorem dJ0_charAt_5068e_24 : decode prog_30_method_56_code 24 = .ok (.ireturn, 1) := by decide +kernel
theorem pnJ1 : plainName RJ1 = true := by decide +kernel
theorem nJ1_charAt_3b067 : zDs yJ1_charAt_3b067 2 := ⟨by decide, by decide, by decide +kernel⟩
theorem dJ1_charAt_3b067_0 : decode prog_33_method_2_code 0 = .ok (.iload_n 1, 1) := by decide +kernel
theorem dJ1_charAt_3b067_1 : decode prog_33_method_2_code 1 = .ok (.aload_n 0, 1) := by decide +kernel
theorem dJ1_charAt_3b067_2 : decode prog_33_method_2_code 2 = .ok (.arraylength, 1) := by decide +kernel
theorem dJ1_charAt_3b067_3 : decode prog_33_method_2_code 3 = .ok (.invokestatic 9, 3) := by decide +kernel
theorem dJ1_charAt_3b067_6 : decode prog_33_method_2_code 6 = .ok (.aload_n 0, 1) := by decide +kernel
theorem dJ1_charAt_3b067_7 : decode prog_33_method_2_code 7 = .ok (.iload_n 1, 1) := by decide +kernel
theorem dJ1_charAt_3b067_8 : decode prog_33_method_2_code 8 = .ok (.baload, 1) := by decide +kernel
theorem dJ1_charAt_3b067_9 : decode prog_33_method_2_code 9 = .ok (.sipush 255, 3) := by decide +kernel
theorem dJ1_charAt_3b067_12 : decode prog_33_method_2_code 12 = .ok (.iand, 1) := by decide +kernel
theorem dJ1_charAt_3b067_13 : decode prog_33_method_2_code 13 = .ok (.i2c, 1) := by decide +kernel
theorem dJ1_charAt_3b067_14 : decode prog_33_method_2_code 14 = .ok (.ireturn, 1) := by decide +kernel
theorem nJ0_checkIndex_df160 : zDs yJ0_checkIndex_df160 2 := ⟨by decide, by decide, by decide +kernel⟩
theorem dJ0_checkIndex_df160_0 : decode prog_30_method_155_code 0 = .ok (.iload_n 0, 1) := by decide +kernel
theorem dJ0_checkIndex_df160_1 : decode prog_30_method_155_code 1 = .ok (.iload_n 1, 1) := by decide +kernel
theorem dJ0_checkIndex_df160_2 : decode prog_30_method_155_code 2 = .ok (.getstatic 1053, 3) := by decide +kernel
theorem dJ0_checkIndex_df160_5 : decode prog_30_method_155_code 5 = .ok (.invokestatic 1059, 3) := by decide +kernel
theorem dJ0_checkIndex_df160_8 : decode prog_30_method_155_code 8 = .ok (.pop, 1) := by decide +kernel
theorem dJ0_checkIndex_df160_9 : decode prog_30_method_155_code 9 = .ok (.return_, 1) := by decide +kernel
theorem pnJ3 : plainName RJ3 = true := by decide +kernel
theorem nJ3_checkIndex_8e157 : zDs yJ3_checkIndex_8e157 3 := ⟨by decide, by decide, by decide +kernel⟩
theorem dJ3_checkIndex_8e157_0 : decode prog_43_method_11_code 0 = .ok (.iload_n 0, 1) := by decide +kernel
theorem dJ3_checkIndex_8e157_1 : decode prog_43_method_11_code 1 = .ok (.ifCond .lt 8, 3) := by decide +kernel
theorem dJ3_checkIndex_8e157_4 : decode prog_43_method_11_code 4 = .ok (.iload_n 0, 1) := by decide +kernel
theorem dJ3_checkIndex_8e157_5 : decode prog_43_method_11_code 5 = .ok (.iload_n 1, 1) := by decide +kernel
theorem dJ3_checkIndex_8e157_6 : decode prog_43_method_11_code 6 = .ok (.if_icmp .lt 10, 3) := by decide +kernel
theorem dJ3_checkIndex_8e157_9 : decode prog_43_method_11_code 9 = .ok (.aload_n 2, 1) := by decide +kernel
theorem dJ3_checkIndex_8e157_10 : decode prog_43_method_11_code 10 = .ok (.iload_n 0, 1) := by decide +kernel
theorem dJ3_checkIndex_8e157_11 : decode prog_43_method_11_code 11 = .ok (.iload_n 1, 1) := by decide +kernel
theorem dJ3_checkIndex_8e157_12 : decode prog_43_method_11_code 12 = .ok (.invokestatic 95, 3) := by decide +kernel
theorem dJ3_checkIndex_8e157_15 : decode prog_43_method_11_code 15 = .ok (.athrow, 1) := by decide +kernel
theorem dJ3_checkIndex_8e157_16 : decode prog_43_method_11_code 16 = .ok (.iload_n 0, 1) := by decide +kernel
theorem dJ3_checkIndex_8e157_17 : decode prog_43_method_11_code 17 = .ok (.ireturn, 1) := by decide +kernel
theorem nJ1_canEncode_fc78d : zDs yJ1_canEncode_fc78d 1 := ⟨by decide, by decide, by decide +kernel⟩
theorem dJ1_canEncode_fc78d_0 : decode prog_33_method_3_code 0 = .ok (.iload_n 0, 1) := by decide +kernel
theorem dJ1_canEncode_fc78d_1 : decode prog_33_method_3_code 1 = .ok (.sipush 255, 3) := by decide +kernel
theorem dJ1_canEncode_fc78d_4 : decode prog_33_method_3_code 4 = .ok (.if_icmp .gt 7, 3) := by decide +kernel
theorem dJ1_canEncode_fc78d_7 : decode prog_33_method_3_code 7 = .ok (.iconst 1, 1) := by decide +kernel
theorem dJ1_canEncode_fc78d_8 : decode prog_33_method_3_code 8 = .ok (.goto 4, 3) := by decide +kernel
theorem dJ1_canEncode_fc78d_11 : decode prog_33_method_3_code 11 = .ok (.iconst 0, 1) := by decide +kernel
theorem dJ1_canEncode_fc78d_12 : decode prog_33_method_3_code 12 = .ok (.ireturn, 1) := by decide +kernel
theorem pnJ4 : plainName RJ4 = true := by decide +kernel
theorem nJ4_setLength_d00df : zDs yJ4_setLength_d00df 1 := ⟨by decide, by decide, by decide +kernel⟩
theorem dJ4_setLength_d00df_0 : decode prog_31_method_89_code 0 = .ok (.aload_n 0, 1) := by decide +kernel
theorem dJ4_setLength_d00df_1 : decode prog_31_method_89_code 1 = .ok (.iload_n 1, 1) := by decide +kernel
theorem dJ4_setLength_d00df_2 : decode prog_31_method_89_code 2 = .ok (.invokespecial 333, 3) := by decide +kernel
theorem dJ4_setLength_d00df_5 : decode prog_31_method_89_code 5 = .ok (.return_, 1) := by decide +kernel
theorem pnJ5 : plainName RJ5 = true := by decide +kernel
theorem nJ5_setLength_d00df : zDs yJ5_setLength_d00df 1 := ⟨by decide, by decide, by decide +kernel⟩
theorem dJ5_setLength_d00df_0 : decode prog_15_method_13_code 0 = .ok (.iload_n 1, 1) := by decide +kernel
theorem dJ5_setLength_d00df_1 : decode prog_15_method_13_code 1 = .ok (.ifCond .ge 12, 3) := by decide +kernel
theorem dJ5_setLength_d00df_4 : decode prog_15_method_13_code 4 = .ok (.new 129, 3) := by decide +kernel
theorem dJ5_setLength_d00df_7 : decode prog_15_method_13_code 7 = .ok (.dup, 1) := by decide +kernel
theorem dJ5_setLength_d00df_8 : decode prog_15_method_13_code 8 = .ok (.iload_n 1, 1) := by decide +kernel
theorem dJ5_setLength_d00df_9 : decode prog_15_method_13_code 9 = .ok (.invokespecial 131, 3) := by decide +kernel
theorem dJ5_setLength_d00df_12 : decode prog_15_method_13_code 12 = .ok (.athrow, 1) := by decide +kernel
theorem dJ5_setLength_d00df_13 : decode prog_15_method_13_code 13 = .ok (.aload_n 0, 1) := by decide +kernel
theorem dJ5_setLength_d00df_14 : decode prog_15_method_13_code 14 = .ok (.iload_n 1, 1) := by decide +kernel
theorem dJ5_setLength_d00df_15 : decode prog_15_method_13_code 15 = .ok (.invokevirtual 100, 3) := by decide +kernel
theorem dJ5_setLength_d00df_18 : decode prog_15_method_13_code 18 = .ok (.aload_n 0, 1) := by decide +kernel
theorem dJ5_setLength_d00df_19 : decode prog_15_method_13_code 19 = .ok (.getfield 79, 3) := by decide +kernel
theorem dJ5_setLength_d00df_22 : decode prog_15_method_13_code 22 = .ok (.iload_n 1, 1) := by decide +kernel
theorem dJ5_setLength_d00df_23 : decode prog_15_method_13_code 23 = .ok (.if_icmp .ge 40, 3) := by decide +kernel
theorem dJ5_setLength_d00df_26 : decode prog_15_method_13_code 26 = .ok (.aload_n 0, 1) := by decide +kernel
theorem dJ5_setLength_d00df_27 : decode prog_15_method_13_code 27 = .ok (.invokevirtual 83, 3) := by decide +kernel
theorem dJ5_setLength_d00df_30 : decode prog_15_method_13_code 30 = .ok (.ifCond .eq 18, 3) := by decide +kernel
theorem dJ5_setLength_d00df_33 : decode prog_15_method_13_code 33 = .ok (.aload_n 0, 1) := by decide +kernel
theorem dJ5_setLength_d00df_34 : decode prog_15_method_13_code 34 = .ok (.getfield 15, 3) := by decide +kernel
theorem dJ5_setLength_d00df_37 : decode prog_15_method_13_code 37 = .ok (.aload_n 0, 1) := by decide +kernel
theorem dJ5_setLength_d00df_38 : decode prog_15_method_13_code 38 = .ok (.getfield 79, 3) := by decide +kernel
theorem dJ5_setLength_d00df_41 : decode prog_15_method_13_code 41 = .ok (.iload_n 1, 1) := by decide +kernel
theorem dJ5_setLength_d00df_42 : decode prog_15_method_13_code 42 = .ok (.invokestatic 133, 3) := by decide +kernel
theorem dJ5_setLength_d00df_45 : decode prog_15_method_13_code 45 = .ok (.goto 31, 3) := by decide +kernel
theorem dJ5_setLength_d00df_48 : decode prog_15_method_13_code 48 = .ok (.aload_n 0, 1) := by decide +kernel
theorem dJ5_setLength_d00df_49 : decode prog_15_method_13_code 49 = .ok (.getfield 15, 3) := by decide +kernel
theorem dJ5_setLength_d00df_52 : decode prog_15_method_13_code 52 = .ok (.aload_n 0, 1) := by decide +kernel
theorem dJ5_setLength_d00df_53 : decode prog_15_method_13_code 53 = .ok (.getfield 79, 3) := by decide +kernel
theorem dJ5_setLength_d00df_56 : decode prog_15_method_13_code 56 = .ok (.iload_n 1, 1) := by decide +kernel
theorem dJ5_setLength_d00df_57 : decode prog_15_method_13_code 57 = .ok (.invokestatic 137, 3) := by decide +kernel
theorem dJ5_setLength_d00df_60 : decode prog_15_method_13_code 60 = .ok (.goto 16, 3) := by decide +kernel
theorem dJ5_setLength_d00df_63 : decode prog_15_method_13_code 63 = .ok (.aload_n 0, 1) := by decide +kernel
theorem dJ5_setLength_d00df_64 : decode prog_15_method_13_code 64 = .ok (.getfield 79, 3) := by decide +kernel
theorem dJ5_setLength_d00df_67 : decode prog_15_method_13_code 67 = .ok (.iload_n 1, 1) := by decide +kernel
theorem dJ5_setLength_d00df_68 : decode prog_15_method_13_code 68 = .ok (.if_icmp .le 8, 3) := by decide +kernel
theorem dJ5_setLength_d00df_71 : decode prog_15_method_13_code 71 = .ok (.aload_n 0, 1) := by decide +kernel
theorem dJ5_setLength_d00df_72 : decode prog_15_method_13_code 72 = .ok (.iconst 1, 1) := by decide +kernel
theorem dJ5_setLength_d00df_73 : decode prog_15_method_13_code 73 = .ok (.putfield 73, 3) := by decide +kernel
theorem dJ5_setLength_d00df_76 : decode prog_15_method_13_code 76 = .ok (.aload_n 0, 1) := by decide +kernel
theorem dJ5_setLength_d00df_77 : decode prog_15_method_13_code 77 = .ok (.iload_n 1, 1) := by decide +kernel
theorem dJ5_setLength_d00df_78 : decode prog_15_method_13_code 78 = .ok (.putfield 79, 3) := by decide +kernel
theorem dJ5_setLength_d00df_81 : decode prog_15_method_13_code 81 = .ok (.return_, 1) := by decide +kernel
theorem nJ4_append_bf812 : zDs yJ4_append_bf812 1 := ⟨by decide, by decide, by decide +kernel⟩
theorem dJ4_append_bf812_0 : decode prog_31_method_15_code 0 = .ok (.aload_n 0, 1) := by decide +kernel
theorem dJ4_append_bf812_1 : decode prog_31_method_15_code 1 = .ok (.iload_n 1, 1) := by decide +kernel
theorem dJ4_append_bf812_2 : decode prog_31_method_15_code 2 = .ok (.invokespecial 53, 3) := by decide +kernel
theorem dJ4_append_bf812_5 : decode prog_31_method_15_code 5 = .ok (.pop, 1) := by decide +kernel
theorem dJ4_append_bf812_6 : decode prog_31_method_15_code 6 = .ok (.aload_n 0, 1) := by decide +kernel
theorem dJ4_append_bf812_7 : decode prog_31_method_15_code 7 = .ok (.areturn, 1) := by decide +kernel
theorem nJ4_append_cf468 : zDs yJ4_append_cf468 1 := ⟨by decide, by decide, by decide +kernel⟩
theorem dJ4_append_cf468_0 : decode prog_31_method_14_code 0 = .ok (.aload_n 0, 1) := by decide +kernel
theorem dJ4_append_cf468_1 : decode prog_31_method_14_code 1 = .ok (.iload_n 1, 1) := by decide +kernel
theorem dJ4_append_cf468_2 : decode prog_31_method_14_code 2 = .ok (.invokespecial 50, 3) := by decide +kernel
theorem dJ4_append_cf468_5 : decode prog_31_method_14_code 5 = .ok (.pop, 1) := by decide +kernel
theorem dJ4_append_cf468_6 : decode prog_31_method_14_code 6 = .ok (.aload_n 0, 1) := by decide +kernel
theorem dJ4_append_cf468_7 : decode prog_31_method_14_code 7 = .ok (.areturn, 1) := by decide +kernel
theorem nJ5_append_c97b9 : zDs yJ5_append_c97b9 1 := ⟨by decide, by decide, by decide +kernel⟩
theorem dJ5_append_c97b9_0 : decode prog_15_method_32_code 0 = .ok (.aload_n 0, 1) := by decide +kernel
theorem dJ5_append_c97b9_1 : decode prog_15_method_32_code 1 = .ok (.getfield 79, 3) := by decide +kernel
theorem dJ5_append_c97b9_4 : decode prog_15_method_32_code 4 = .ok (.istore_n 2, 1) := by decide +kernel
theorem dJ5_append_c97b9_5 : decode prog_15_method_32_code 5 = .ok (.iload_n 2, 1) := by decide +kernel
theorem dJ5_append_c97b9_6 : decode prog_15_method_32_code 6 = .ok (.iload_n 1, 1) := by decide +kernel
theorem dJ5_append_c97b9_7 : decode prog_15_method_32_code 7 = .ok (.invokestatic 245, 3) := by decide +kernel
theorem dJ5_append_c97b9_10 : decode prog_15_method_32_code 10 = .ok (.iadd, 1) := by decide +kernel
theorem dJ5_append_c97b9_11 : decode prog_15_method_32_code 11 = .ok (.istore_n 3, 1) := by decide +kernel
theorem dJ5_append_c97b9_12 : decode prog_15_method_32_code 12 = .ok (.aload_n 0, 1) := by decide +kernel
theorem dJ5_append_c97b9_13 : decode prog_15_method_32_code 13 = .ok (.iload_n 3, 1) := by decide +kernel
theorem dJ5_append_c97b9_14 : decode prog_15_method_32_code 14 = .ok (.invokevirtual 100, 3) := by decide +kernel
theorem dJ5_append_c97b9_17 : decode prog_15_method_32_code 17 = .ok (.aload_n 0, 1) := by decide +kernel
theorem dJ5_append_c97b9_18 : decode prog_15_method_32_code 18 = .ok (.invokevirtual 83, 3) := by decide +kernel
theorem dJ5_append_c97b9_21 : decode prog_15_method_32_code 21 = .ok (.ifCond .eq 16, 3) := by decide +kernel
theorem dJ5_append_c97b9_24 : decode prog_15_method_32_code 24 = .ok (.iload_n 1, 1) := by decide +kernel
theorem dJ5_append_c97b9_25 : decode prog_15_method_32_code 25 = .ok (.iload_n 3, 1) := by decide +kernel
theorem dJ5_append_c97b9_26 : decode prog_15_method_32_code 26 = .ok (.aload_n 0, 1) := by decide +kernel
theorem dJ5_append_c97b9_27 : decode prog_15_method_32_code 27 = .ok (.getfield 15, 3) := by decide +kernel
theorem dJ5_append_c97b9_30 : decode prog_15_method_32_code 30 = .ok (.invokestatic 248, 3) := by decide +kernel
theorem dJ5_append_c97b9_33 : decode prog_15_method_32_code 33 = .ok (.pop, 1) := by decide +kernel
theorem dJ5_append_c97b9_34 : decode prog_15_method_32_code 34 = .ok (.goto 14, 3) := by decide +kernel
theorem dJ5_append_c97b9_37 : decode prog_15_method_32_code 37 = .ok (.iload_n 1, 1) := by decide +kernel
theorem dJ5_append_c97b9_38 : decode prog_15_method_32_code 38 = .ok (.iload_n 2, 1) := by decide +kernel
theorem dJ5_append_c97b9_39 : decode prog_15_method_32_code 39 = .ok (.iload_n 3, 1) := by decide +kernel
theorem dJ5_append_c97b9_40 : decode prog_15_method_32_code 40 = .ok (.aload_n 0, 1) := by decide +kernel
theorem dJ5_append_c97b9_41 : decode prog_15_method_32_code 41 = .ok (.getfield 15, 3) := by decide +kernel
theorem dJ5_append_c97b9_44 : decode prog_15_method_32_code 44 = .ok (.invokestatic 251, 3) := by decide +kernel
theorem dJ5_append_c97b9_47 : decode prog_15_method_32_code 47 = .ok (.pop, 1) := by decide +kernel
theorem dJ5_append_c97b9_48 : decode prog_15_method_32_code 48 = .ok (.aload_n 0, 1) := by decide +kernel
theorem dJ5_append_c97b9_49 : decode prog_15_method_32_code 49 = .ok (.iload_n 3, 1) := by decide +kernel
theorem dJ5_append_c97b9_50 : decode prog_15_method_32_code 50 = .ok (.putfield 79, 3) := by decide +kernel
theorem dJ5_append_c97b9_53 : decode prog_15_method_32_code 53 = .ok (.aload_n 0, 1) := by decide +kernel
theorem dJ5_append_c97b9_54 : decode prog_15_method_32_code 54 = .ok (.areturn, 1) := by decide +kernel
theorem nJ5_append_3fe6f : zDs yJ5_append_3fe6f 1 := ⟨by decide, by decide, by decide +kernel⟩
theorem dJ5_append_3fe6f_0 : decode prog_15_method_31_code 0 = .ok (.aload_n 0, 1) := by decide +kernel
theorem dJ5_append_3fe6f_1 : decode prog_15_method_31_code 1 = .ok (.aload_n 0, 1) := by decide +kernel
theorem dJ5_append_3fe6f_2 : decode prog_15_method_31_code 2 = .ok (.getfield 79, 3) := by decide +kernel
theorem dJ5_append_3fe6f_5 : decode prog_15_method_31_code 5 = .ok (.iconst 1, 1) := by decide +kernel
theorem dJ5_append_3fe6f_6 : decode prog_15_method_31_code 6 = .ok (.iadd, 1) := by decide +kernel
theorem dJ5_append_3fe6f_7 : decode prog_15_method_31_code 7 = .ok (.invokevirtual 100, 3) := by decide +kernel
theorem dJ5_append_3fe6f_10 : decode prog_15_method_31_code 10 = .ok (.aload_n 0, 1) := by decide +kernel
theorem dJ5_append_3fe6f_11 : decode prog_15_method_31_code 11 = .ok (.invokevirtual 83, 3) := by decide +kernel
theorem dJ5_append_3fe6f_14 : decode prog_15_method_31_code 14 = .ok (.ifCond .eq 31, 3) := by decide +kernel
theorem dJ5_append_3fe6f_17 : decode prog_15_method_31_code 17 = .ok (.iload_n 1, 1) := by decide +kernel
theorem dJ5_append_3fe6f_18 : decode prog_15_method_31_code 18 = .ok (.invokestatic 191, 3) := by decide +kernel
theorem dJ5_append_3fe6f_21 : decode prog_15_method_31_code 21 = .ok (.ifCond .eq 24, 3) := by decide +kernel
theorem dJ5_append_3fe6f_24 : decode prog_15_method_31_code 24 = .ok (.aload_n 0, 1) := by decide +kernel
theorem dJ5_append_3fe6f_25 : decode prog_15_method_31_code 25 = .ok (.getfield 15, 3) := by decide +kernel
theorem dJ5_append_3fe6f_28 : decode prog_15_method_31_code 28 = .ok (.aload_n 0, 1) := by decide +kernel
theorem dJ5_append_3fe6f_29 : decode prog_15_method_31_code 29 = .ok (.dup, 1) := by decide +kernel
theorem dJ5_append_3fe6f_30 : decode prog_15_method_31_code 30 = .ok (.getfield 79, 3) := by decide +kernel
theorem dJ5_append_3fe6f_33 : decode prog_15_method_31_code 33 = .ok (.dup_x1, 1) := by decide +kernel
theorem dJ5_append_3fe6f_34 : decode prog_15_method_31_code 34 = .ok (.iconst 1, 1) := by decide +kernel
theorem dJ5_append_3fe6f_35 : decode prog_15_method_31_code 35 = .ok (.iadd, 1) := by decide +kernel
theorem dJ5_append_3fe6f_36 : decode prog_15_method_31_code 36 = .ok (.putfield 79, 3) := by decide +kernel
theorem dJ5_append_3fe6f_39 : decode prog_15_method_31_code 39 = .ok (.iload_n 1, 1) := by decide +kernel
theorem dJ5_append_3fe6f_40 : decode prog_15_method_31_code 40 = .ok (.i2b, 1) := by decide +kernel
theorem dJ5_append_3fe6f_41 : decode prog_15_method_31_code 41 = .ok (.bastore, 1) := by decide +kernel
theorem dJ5_append_3fe6f_42 : decode prog_15_method_31_code 42 = .ok (.goto 33, 3) := by decide +kernel
theorem dJ5_append_3fe6f_45 : decode prog_15_method_31_code 45 = .ok (.aload_n 0, 1) := by decide +kernel
theorem dJ5_append_3fe6f_46 : decode prog_15_method_31_code 46 = .ok (.invokevirtual 83, 3) := by decide +kernel
theorem dJ5_append_3fe6f_49 : decode prog_15_method_31_code 49 = .ok (.ifCond .eq 7, 3) := by decide +kernel
theorem dJ5_append_3fe6f_52 : decode prog_15_method_31_code 52 = .ok (.aload_n 0, 1) := by decide +kernel
theorem dJ5_append_3fe6f_53 : decode prog_15_method_31_code 53 = .ok (.invokevirtual 195, 3) := by decide +kernel
theorem dJ5_append_3fe6f_56 : decode prog_15_method_31_code 56 = .ok (.aload_n 0, 1) := by decide +kernel
theorem dJ5_append_3fe6f_57 : decode prog_15_method_31_code 57 = .ok (.getfield 15, 3) := by decide +kernel
theorem dJ5_append_3fe6f_60 : decode prog_15_method_31_code 60 = .ok (.aload_n 0, 1) := by decide +kernel
theorem dJ5_append_3fe6f_61 : decode prog_15_method_31_code 61 = .ok (.dup, 1) := by decide +kernel
theorem dJ5_append_3fe6f_62 : decode prog_15_method_31_code 62 = .ok (.getfield 79, 3) := by decide +kernel
theorem dJ5_append_3fe6f_65 : decode prog_15_method_31_code 65 = .ok (.dup_x1, 1) := by decide +kernel
theorem dJ5_append_3fe6f_66 : decode prog_15_method_31_code 66 = .ok (.iconst 1, 1) := by decide +kernel
theorem dJ5_append_3fe6f_67 : decode prog_15_method_31_code 67 = .ok (.iadd, 1) := by decide +kernel
theorem dJ5_append_3fe6f_68 : decode prog_15_method_31_code 68 = .ok (.putfield 79, 3) := by decide +kernel
theorem dJ5_append_3fe6f_71 : decode prog_15_method_31_code 71 = .ok (.iload_n 1, 1) := by decide +kernel
theorem dJ5_append_3fe6f_72 : decode prog_15_method_31_code 72 = .ok (.invokestatic 197, 3) := by decide +kernel
theorem dJ5_append_3fe6f_75 : decode prog_15_method_31_code 75 = .ok (.aload_n 0, 1) := by decide +kernel
theorem dJ5_append_3fe6f_76 : decode prog_15_method_31_code 76 = .ok (.areturn, 1) := by decide +kernel
theorem nJ5_ensureCapacityInternal_d00df : zDs yJ5_ensureCapacityInternal_d00df 1 := ⟨by decide, by decide, by decide +kernel⟩
theorem dJ5_ensureCapacityInternal_d00df_0 : decode prog_15_method_9_code 0 = .ok (.aload_n 0, 1) := by decide +kernel
theorem dJ5_ensureCapacityInternal_d00df_1 : decode prog_15_method_9_code 1 = .ok (.getfield 15, 3) := by decide +kernel
theorem dJ5_ensureCapacityInternal_d00df_4 : decode prog_15_method_9_code 4 = .ok (.arraylength, 1) := by decide +kernel
theorem dJ5_ensureCapacityInternal_d00df_5 : decode prog_15_method_9_code 5 = .ok (.aload_n 0, 1) := by decide +kernel
theorem dJ5_ensureCapacityInternal_d00df_6 : decode prog_15_method_9_code 6 = .ok (.getfield 22, 3) := by decide +kernel
theorem dJ5_ensureCapacityInternal_d00df_9 : decode prog_15_method_9_code 9 = .ok (.ishr, 1) := by decide +kernel
theorem dJ5_ensureCapacityInternal_d00df_10 : decode prog_15_method_9_code 10 = .ok (.istore_n 2, 1) := by decide +kernel
theorem dJ5_ensureCapacityInternal_d00df_11 : decode prog_15_method_9_code 11 = .ok (.iload_n 1, 1) := by decide +kernel
theorem dJ5_ensureCapacityInternal_d00df_12 : decode prog_15_method_9_code 12 = .ok (.iload_n 2, 1) := by decide +kernel
theorem dJ5_ensureCapacityInternal_d00df_13 : decode prog_15_method_9_code 13 = .ok (.isub, 1) := by decide +kernel
theorem dJ5_ensureCapacityInternal_d00df_14 : decode prog_15_method_9_code 14 = .ok (.ifCond .le 24, 3) := by decide +kernel
theorem dJ5_ensureCapacityInternal_d00df_17 : decode prog_15_method_9_code 17 = .ok (.aload_n 0, 1) := by decide +kernel
theorem dJ5_ensureCapacityInternal_d00df_18 : decode prog_15_method_9_code 18 = .ok (.aload_n 0, 1) := by decide +kernel
theorem dJ5_ensureCapacityInternal_d00df_19 : decode prog_15_method_9_code 19 = .ok (.getfield 15, 3) := by decide +kernel
theorem dJ5_ensureCapacityInternal_d00df_22 : decode prog_15_method_9_code 22 = .ok (.aload_n 0, 1) := by decide +kernel
theorem dJ5_ensureCapacityInternal_d00df_23 : decode prog_15_method_9_code 23 = .ok (.iload_n 1, 1) := by decide +kernel
theorem dJ5_ensureCapacityInternal_d00df_24 : decode prog_15_method_9_code 24 = .ok (.invokevirtual 104, 3) := by decide +kernel
theorem dJ5_ensureCapacityInternal_d00df_27 : decode prog_15_method_9_code 27 = .ok (.aload_n 0, 1) := by decide +kernel
theorem dJ5_ensureCapacityInternal_d00df_28 : decode prog_15_method_9_code 28 = .ok (.getfield 22, 3) := by decide +kernel
theorem dJ5_ensureCapacityInternal_d00df_31 : decode prog_15_method_9_code 31 = .ok (.ishl, 1) := by decide +kernel
theorem dJ5_ensureCapacityInternal_d00df_32 : decode prog_15_method_9_code 32 = .ok (.invokestatic 108, 3) := by decide +kernel
theorem dJ5_ensureCapacityInternal_d00df_35 : decode prog_15_method_9_code 35 = .ok (.putfield 15, 3) := by decide +kernel
theorem dJ5_ensureCapacityInternal_d00df_38 : decode prog_15_method_9_code 38 = .ok (.return_, 1) := by decide +kernel
theorem nJ5_newCapacity_0f7a4 : zDs yJ5_newCapacity_0f7a4 1 := ⟨by decide, by decide, by decide +kernel⟩
theorem dJ5_newCapacity_0f7a4_0 : decode prog_15_method_10_code 0 = .ok (.aload_n 0, 1) := by decide +kernel
theorem dJ5_newCapacity_0f7a4_1 : decode prog_15_method_10_code 1 = .ok (.getfield 15, 3) := by decide +kernel
theorem dJ5_newCapacity_0f7a4_4 : decode prog_15_method_10_code 4 = .ok (.arraylength, 1) := by decide +kernel
theorem dJ5_newCapacity_0f7a4_5 : decode prog_15_method_10_code 5 = .ok (.istore_n 2, 1) := by decide +kernel
theorem dJ5_newCapacity_0f7a4_6 : decode prog_15_method_10_code 6 = .ok (.iload_n 1, 1) := by decide +kernel
theorem dJ5_newCapacity_0f7a4_7 : decode prog_15_method_10_code 7 = .ok (.aload_n 0, 1) := by decide +kernel
theorem dJ5_newCapacity_0f7a4_8 : decode prog_15_method_10_code 8 = .ok (.getfield 22, 3) := by decide +kernel
theorem dJ5_newCapacity_0f7a4_11 : decode prog_15_method_10_code 11 = .ok (.ishl, 1) := by decide +kernel
theorem dJ5_newCapacity_0f7a4_12 : decode prog_15_method_10_code 12 = .ok (.istore_n 3, 1) := by decide +kernel
theorem dJ5_newCapacity_0f7a4_13 : decode prog_15_method_10_code 13 = .ok (.iload_n 3, 1) := by decide +kernel
theorem dJ5_newCapacity_0f7a4_14 : decode prog_15_method_10_code 14 = .ok (.iload_n 2, 1) := by decide +kernel
theorem dJ5_newCapacity_0f7a4_15 : decode prog_15_method_10_code 15 = .ok (.isub, 1) := by decide +kernel
theorem dJ5_newCapacity_0f7a4_16 : decode prog_15_method_10_code 16 = .ok (.istore 4, 2) := by decide +kernel
theorem dJ5_newCapacity_0f7a4_18 : decode prog_15_method_10_code 18 = .ok (.iload_n 2, 1) := by decide +kernel
theorem dJ5_newCapacity_0f7a4_19 : decode prog_15_method_10_code 19 = .ok (.iload 4, 2) := by decide +kernel
theorem dJ5_newCapacity_0f7a4_21 : decode prog_15_method_10_code 21 = .ok (.iload_n 2, 1) := by decide +kernel
theorem dJ5_newCapacity_0f7a4_22 : decode prog_15_method_10_code 22 = .ok (.iconst 2, 1) := by decide +kernel
theorem dJ5_newCapacity_0f7a4_23 : decode prog_15_method_10_code 23 = .ok (.aload_n 0, 1) := by decide +kernel
theorem dJ5_newCapacity_0f7a4_24 : decode prog_15_method_10_code 24 = .ok (.getfield 22, 3) := by decide +kernel
theorem dJ5_newCapacity_0f7a4_27 : decode prog_15_method_10_code 27 = .ok (.ishl, 1) := by decide +kernel
theorem dJ5_newCapacity_0f7a4_28 : decode prog_15_method_10_code 28 = .ok (.iadd, 1) := by decide +kernel
theorem dJ5_newCapacity_0f7a4_29 : decode prog_15_method_10_code 29 = .ok (.invokestatic 114, 3) := by decide +kernel
theorem dJ5_newCapacity_0f7a4_32 : decode prog_15_method_10_code 32 = .ok (.istore 5, 2) := by decide +kernel
theorem dJ5_newCapacity_0f7a4_34 : decode prog_15_method_10_code 34 = .ok (.iload 5, 2) := by decide +kernel
theorem dJ5_newCapacity_0f7a4_36 : decode prog_15_method_10_code 36 = .ok (.ldc 39, 2) := by decide +kernel
theorem dJ5_newCapacity_0f7a4_38 : decode prog_15_method_10_code 38 = .ok (.if_icmp .ne 13, 3) := by decide +kernel
theorem dJ5_newCapacity_0f7a4_41 : decode prog_15_method_10_code 41 = .ok (.new 120, 3) := by decide +kernel
theorem dJ5_newCapacity_0f7a4_44 : decode prog_15_method_10_code 44 = .ok (.dup, 1) := by decide +kernel
theorem dJ5_newCapacity_0f7a4_45 : decode prog_15_method_10_code 45 = .ok (.ldc 122, 2) := by decide +kernel
theorem dJ5_newCapacity_0f7a4_47 : decode prog_15_method_10_code 47 = .ok (.invokespecial 124, 3) := by decide +kernel
theorem dJ5_newCapacity_0f7a4_50 : decode prog_15_method_10_code 50 = .ok (.athrow, 1) := by decide +kernel
theorem dJ5_newCapacity_0f7a4_51 : decode prog_15_method_10_code 51 = .ok (.iload 5, 2) := by decide +kernel
theorem dJ5_newCapacity_0f7a4_53 : decode prog_15_method_10_code 53 = .ok (.aload_n 0, 1) := by decide +kernel
theorem dJ5_newCapacity_0f7a4_54 : decode prog_15_method_10_code 54 = .ok (.getfield 22, 3) := by decide +kernel
theorem dJ5_newCapacity_0f7a4_57 : decode prog_15_method_10_code 57 = .ok (.ishr, 1) := by decide +kernel
theorem dJ5_newCapacity_0f7a4_58 : decode prog_15_method_10_code 58 = .ok (.ireturn, 1) := by decide +kernel
theorem nJ5_isLatin1_aae02 : zDs yJ5_isLatin1_aae02 0 := ⟨by decide, by decide, by decide +kernel⟩
theorem dJ5_isLatin1_aae02_0 : decode prog_15_method_68_code 0 = .ok (.getstatic 18, 3) := by decide +kernel
theorem dJ5_isLatin1_aae02_3 : decode prog_15_method_68_code 3 = .ok (.ifCond .eq 14, 3) := by decide +kernel
theorem dJ5_isLatin1_aae02_6 : decode prog_15_method_68_code 6 = .ok (.aload_n 0, 1) := by decide +kernel
theorem dJ5_isLatin1_aae02_7 : decode prog_15_method_68_code 7 = .ok (.getfield 22, 3) := by decide +kernel
theorem dJ5_isLatin1_aae02_10 : decode prog_15_method_68_code 10 = .ok (.ifCond .ne 7, 3) := by decide +kernel
theorem dJ5_isLatin1_aae02_13 : decode prog_15_method_68_code 13 = .ok (.iconst 1, 1) := by decide +kernel
theorem dJ5_isLatin1_aae02_14 : decode prog_15_method_68_code 14 = .ok (.goto 4, 3) := by decide +kernel
theorem dJ5_isLatin1_aae02_17 : decode prog_15_method_68_code 17 = .ok (.iconst 0, 1) := by decide +kernel
theorem dJ5_isLatin1_aae02_18 : decode prog_15_method_68_code 18 = .ok (.ireturn, 1) := by decide +kernel
theorem nJ5_length_8abf5 : zDs yJ5_length_8abf5 0 := ⟨by decide, by decide, by decide +kernel⟩
theorem dJ5_length_8abf5_0 : decode prog_15_method_6_code 0 = .ok (.aload_n 0, 1) := by decide +kernel
theorem dJ5_length_8abf5_1 : decode prog_15_method_6_code 1 = .ok (.getfield 79, 3) := by decide +kernel
theorem dJ5_length_8abf5_4 : decode prog_15_method_6_code 4 = .ok (.ireturn, 1) := by decide +kernel
theorem nJ4_length_8abf5 : zDs yJ4_length_8abf5 0 := ⟨by decide, by decide, by decide +kernel⟩
theorem dJ4_length_8abf5_0 : decode prog_31_method_93_code 0 = .ok (.aload_n 0, 1) := by decide +kernel
theorem dJ4_length_8abf5_1 : decode prog_31_method_93_code 1 = .ok (.invokespecial 343, 3) := by decide +kernel
theorem dJ4_length_8abf5_4 : decode prog_31_method_93_code 4 = .ok (.ireturn, 1) := by decide +kernel
theorem nJ4_charAt_5068e : zDs yJ4_charAt_5068e 1 := ⟨by decide, by decide, by decide +kernel⟩
theorem dJ4_charAt_5068e_0 : decode prog_31_method_88_code 0 = .ok (.aload_n 0, 1) := by decide +kernel
theorem dJ4_charAt_5068e_1 : decode prog_31_method_88_code 1 = .ok (.iload_n 1, 1) := by decide +kernel
theorem dJ4_charAt_5068e_2 : decode prog_31_method_88_code 2 = .ok (.invokespecial 329, 3) := by decide +kernel
theorem dJ4_charAt_5068e_5 : decode prog_31_method_88_code 5 = .ok (.ireturn, 1) := by decide +kernel
theorem nJ5_charAt_5068e : zDs yJ5_charAt_5068e 1 := ⟨by decide, by decide, by decide +kernel⟩
theorem dJ5_charAt_5068e_0 : decode prog_15_method_14_code 0 = .ok (.aload_n 0, 1) := by decide +kernel
theorem dJ5_charAt_5068e_1 : decode prog_15_method_14_code 1 = .ok (.getfield 22, 3) := by decide +kernel
theorem dJ5_charAt_5068e_4 : decode prog_15_method_14_code 4 = .ok (.istore_n 2, 1) := by decide +kernel
theorem dJ5_charAt_5068e_5 : decode prog_15_method_14_code 5 = .ok (.aload_n 0, 1) := by decide +kernel
theorem dJ5_charAt_5068e_6 : decode prog_15_method_14_code 6 = .ok (.getfield 15, 3) := by decide +kernel
theorem dJ5_charAt_5068e_9 : decode prog_15_method_14_code 9 = .ok (.astore_n 3, 1) := by decide +kernel
theorem dJ5_charAt_5068e_10 : decode prog_15_method_14_code 10 = .ok (.aload_n 0, 1) := by decide +kernel
theorem dJ5_charAt_5068e_11 : decode prog_15_method_14_code 11 = .ok (.getfield 79, 3) := by decide +kernel
theorem dJ5_charAt_5068e_14 : decode prog_15_method_14_code 14 = .ok (.aload_n 3, 1) := by decide +kernel
theorem dJ5_charAt_5068e_15 : decode prog_15_method_14_code 15 = .ok (.arraylength, 1) := by decide +kernel
theorem dJ5_charAt_5068e_16 : decode prog_15_method_14_code 16 = .ok (.iload_n 2, 1) := by decide +kernel
theorem dJ5_charAt_5068e_17 : decode prog_15_method_14_code 17 = .ok (.ishr, 1) := by decide +kernel
theorem dJ5_charAt_5068e_18 : decode prog_15_method_14_code 18 = .ok (.invokestatic 138, 3) := by decide +kernel
theorem dJ5_charAt_5068e_21 : decode prog_15_method_14_code 21 = .ok (.istore 4, 2) := by decide +kernel
theorem dJ5_charAt_5068e_23 : decode prog_15_method_14_code 23 = .ok (.iload_n 1, 1) := by decide +kernel
theorem dJ5_charAt_5068e_24 : decode prog_15_method_14_code 24 = .ok (.iload 4, 2) := by decide +kernel
theorem dJ5_charAt_5068e_26 : decode prog_15_method_14_code 26 = .ok (.invokestatic 144, 3) := by decide +kernel
theorem dJ5_charAt_5068e_29 : decode prog_15_method_14_code 29 = .ok (.iload_n 2, 1) := by decide +kernel
theorem dJ5_charAt_5068e_30 : decode prog_15_method_14_code 30 = .ok (.ifCond .ne 12, 3) := by decide +kernel
theorem dJ5_charAt_5068e_33 : decode prog_15_method_14_code 33 = .ok (.aload_n 3, 1) := by decide +kernel
theorem dJ5_charAt_5068e_34 : decode prog_15_method_14_code 34 = .ok (.iload_n 1, 1) := by decide +kernel
theorem dJ5_charAt_5068e_35 : decode prog_15_method_14_code 35 = .ok (.baload, 1) := by decide +kernel
theorem dJ5_charAt_5068e_36 : decode prog_15_method_14_code 36 = .ok (.sipush 255, 3) := by decide +kernel
theorem dJ5_charAt_5068e_39 : decode prog_15_method_14_code 39 = .ok (.iand, 1) := by decide +kernel
theorem dJ5_charAt_5068e_40 : decode prog_15_method_14_code 40 = .ok (.i2c, 1) := by decide +kernel
theorem dJ5_charAt_5068e_41 : decode prog_15_method_14_code 41 = .ok (.ireturn, 1) := by decide +kernel
theorem dJ5_charAt_5068e_42 : decode prog_15_method_14_code 42 = .ok (.aload_n 3, 1) := by decide +kernel
theorem dJ5_charAt_5068e_43 : decode prog_15_method_14_code 43 = .ok (.iload_n 1, 1) := by decide +kernel
theorem dJ5_charAt_5068e_44 : decode prog_15_method_14_code 44 = .ok (.invokestatic 148, 3) := by decide +kernel
theorem dJ5_charAt_5068e_47 : decode prog_15_method_14_code 47 = .ok (.ireturn, 1) := by decide +kernel
theorem pnJ6 : plainName RJ6 = true := by decide +kernel
theorem nJ6_stringSize_0f7a4 : zDs yJ6_stringSize_0f7a4 1 := ⟨by decide, by decide, by decide +kernel⟩
theorem dJ6_stringSize_0f7a4_0 : decode prog_26_method_13_code 0 = .ok (.iconst 1, 1) := by decide +kernel
theorem dJ6_stringSize_0f7a4_1 : decode prog_26_method_13_code 1 = .ok (.istore_n 1, 1) := by decide +kernel
theorem dJ6_stringSize_0f7a4_2 : decode prog_26_method_13_code 2 = .ok (.iload_n 0, 1) := by decide +kernel
theorem dJ6_stringSize_0f7a4_3 : decode prog_26_method_13_code 3 = .ok (.ifCond .lt 8, 3) := by decide +kernel
theorem dJ6_stringSize_0f7a4_6 : decode prog_26_method_13_code 6 = .ok (.iconst 0, 1) := by decide +kernel
theorem dJ6_stringSize_0f7a4_7 : decode prog_26_method_13_code 7 = .ok (.istore_n 1, 1) := by decide +kernel
theorem dJ6_stringSize_0f7a4_8 : decode prog_26_method_13_code 8 = .ok (.iload_n 0, 1) := by decide +kernel
theorem dJ6_stringSize_0f7a4_9 : decode prog_26_method_13_code 9 = .ok (.ineg, 1) := by decide +kernel
theorem dJ6_stringSize_0f7a4_10 : decode prog_26_method_13_code 10 = .ok (.istore_n 0, 1) := by decide +kernel
theorem dJ6_stringSize_0f7a4_11 : decode prog_26_method_13_code 11 = .ok (.bipush (-10), 2) := by decide +kernel
theorem dJ6_stringSize_0f7a4_13 : decode prog_26_method_13_code 13 = .ok (.istore_n 2, 1) := by decide +kernel
theorem dJ6_stringSize_0f7a4_14 : decode prog_26_method_13_code 14 = .ok (.iconst 1, 1) := by decide +kernel
theorem dJ6_stringSize_0f7a4_15 : decode prog_26_method_13_code 15 = .ok (.istore_n 3, 1) := by decide +kernel
theorem dJ6_stringSize_0f7a4_16 : decode prog_26_method_13_code 16 = .ok (.iload_n 3, 1) := by decide +kernel
theorem dJ6_stringSize_0f7a4_17 : decode prog_26_method_13_code 17 = .ok (.bipush 10, 2) := by decide +kernel
theorem dJ6_stringSize_0f7a4_19 : decode prog_26_method_13_code 19 = .ok (.if_icmp .ge 23, 3) := by decide +kernel
theorem dJ6_stringSize_0f7a4_22 : decode prog_26_method_13_code 22 = .ok (.iload_n 0, 1) := by decide +kernel
theorem dJ6_stringSize_0f7a4_23 : decode prog_26_method_13_code 23 = .ok (.iload_n 2, 1) := by decide +kernel
theorem dJ6_stringSize_0f7a4_24 : decode prog_26_method_13_code 24 = .ok (.if_icmp .le 7, 3) := by decide +kernel
theorem dJ6_stringSize_0f7a4_27 : decode prog_26_method_13_code 27 = .ok (.iload_n 3, 1) := by decide +kernel
theorem dJ6_stringSize_0f7a4_28 : decode prog_26_method_13_code 28 = .ok (.iload_n 1, 1) := by decide +kernel
theorem dJ6_stringSize_0f7a4_29 : decode prog_26_method_13_code 29 = .ok (.iadd, 1) := by decide +kernel
theorem dJ6_stringSize_0f7a4_30 : decode prog_26_method_13_code 30 = .ok (.ireturn, 1) := by decide +kernel
theorem dJ6_stringSize_0f7a4_31 : decode prog_26_method_13_code 31 = .ok (.bipush 10, 2) := by decide +kernel
theorem dJ6_stringSize_0f7a4_33 : decode prog_26_method_13_code 33 = .ok (.iload_n 2, 1) := by decide +kernel
theorem dJ6_stringSize_0f7a4_34 : decode prog_26_method_13_code 34 = .ok (.imul, 1) := by decide +kernel
theorem dJ6_stringSize_0f7a4_35 : decode prog_26_method_13_code 35 = .ok (.istore_n 2, 1) := by decide +kernel
theorem dJ6_stringSize_0f7a4_36 : decode prog_26_method_13_code 36 = .ok (.iinc 3 1, 3) := by decide +kernel
theorem dJ6_stringSize_0f7a4_39 : decode prog_26_method_13_code 39 = .ok (.goto (-23), 3) := by decide +kernel
theorem dJ6_stringSize_0f7a4_42 : decode prog_26_method_13_code 42 = .ok (.bipush 10, 2) := by decide +kernel
theorem dJ6_stringSize_0f7a4_44 : decode prog_26_method_13_code 44 = .ok (.iload_n 1, 1) := by decide +kernel
theorem dJ6_stringSize_0f7a4_45 : decode prog_26_method_13_code 45 = .ok (.iadd, 1) := by decide +kernel
theorem dJ6_stringSize_0f7a4_46 : decode prog_26_method_13_code 46 = .ok (.ireturn, 1) := by decide +kernel
theorem nJ6_getChars_ba4f3 : zDs yJ6_getChars_ba4f3 3 := ⟨by decide, by decide, by decide +kernel⟩
theorem dJ6_getChars_ba4f3_0 : decode prog_26_method_12_code 0 = .ok (.iload_n 1, 1) := by decide +kernel
theorem dJ6_getChars_ba4f3_1 : decode prog_26_method_12_code 1 = .ok (.istore 5, 2) := by decide +kernel
theorem dJ6_getChars_ba4f3_3 : decode prog_26_method_12_code 3 = .ok (.iload_n 0, 1) := by decide +kernel
theorem dJ6_getChars_ba4f3_4 : decode prog_26_method_12_code 4 = .ok (.ifCond .ge 7, 3) := by decide +kernel
theorem dJ6_getChars_ba4f3_7 : decode prog_26_method_12_code 7 = .ok (.iconst 1, 1) := by decide +kernel
theorem dJ6_getChars_ba4f3_8 : decode prog_26_method_12_code 8 = .ok (.goto 4, 3) := by decide +kernel
theorem dJ6_getChars_ba4f3_11 : decode prog_26_method_12_code 11 = .ok (.iconst 0, 1) := by decide +kernel
theorem dJ6_getChars_ba4f3_12 : decode prog_26_method_12_code 12 = .ok (.istore 6, 2) := by decide +kernel
theorem dJ6_getChars_ba4f3_14 : decode prog_26_method_12_code 14 = .ok (.iload 6, 2) := by decide +kernel
theorem dJ6_getChars_ba4f3_16 : decode prog_26_method_12_code 16 = .ok (.ifCond .ne 6, 3) := by decide +kernel
theorem dJ6_getChars_ba4f3_19 : decode prog_26_method_12_code 19 = .ok (.iload_n 0, 1) := by decide +kernel
theorem dJ6_getChars_ba4f3_20 : decode prog_26_method_12_code 20 = .ok (.ineg, 1) := by decide +kernel
theorem dJ6_getChars_ba4f3_21 : decode prog_26_method_12_code 21 = .ok (.istore_n 0, 1) := by decide +kernel
theorem dJ6_getChars_ba4f3_22 : decode prog_26_method_12_code 22 = .ok (.iload_n 0, 1) := by decide +kernel
theorem dJ6_getChars_ba4f3_23 : decode prog_26_method_12_code 23 = .ok (.bipush (-100), 2) := by decide +kernel
theorem dJ6_getChars_ba4f3_25 : decode prog_26_method_12_code 25 = .ok (.if_icmp .gt 47, 3) := by decide +kernel
theorem dJ6_getChars_ba4f3_28 : decode prog_26_method_12_code 28 = .ok (.iload_n 0, 1) := by decide +kernel
theorem dJ6_getChars_ba4f3_29 : decode prog_26_method_12_code 29 = .ok (.bipush 100, 2) := by decide +kernel
theorem dJ6_getChars_ba4f3_31 : decode prog_26_method_12_code 31 = .ok (.idiv, 1) := by decide +kernel
theorem dJ6_getChars_ba4f3_32 : decode prog_26_method_12_code 32 = .ok (.istore_n 3, 1) := by decide +kernel
theorem dJ6_getChars_ba4f3_33 : decode prog_26_method_12_code 33 = .ok (.iload_n 3, 1) := by decide +kernel
theorem dJ6_getChars_ba4f3_34 : decode prog_26_method_12_code 34 = .ok (.bipush 100, 2) := by decide +kernel
theorem dJ6_getChars_ba4f3_36 : decode prog_26_method_12_code 36 = .ok (.imul, 1) := by decide +kernel
theorem dJ6_getChars_ba4f3_37 : decode prog_26_method_12_code 37 = .ok (.iload_n 0, 1) := by decide +kernel
theorem dJ6_getChars_ba4f3_38 : decode prog_26_method_12_code 38 = .ok (.isub, 1) := by decide +kernel
theorem dJ6_getChars_ba4f3_39 : decode prog_26_method_12_code 39 = .ok (.istore 4, 2) := by decide +kernel
theorem dJ6_getChars_ba4f3_41 : decode prog_26_method_12_code 41 = .ok (.iload_n 3, 1) := by decide +kernel
theorem dJ6_getChars_ba4f3_42 : decode prog_26_method_12_code 42 = .ok (.istore_n 0, 1) := by decide +kernel
theorem dJ6_getChars_ba4f3_43 : decode prog_26_method_12_code 43 = .ok (.aload_n 2, 1) := by decide +kernel
theorem dJ6_getChars_ba4f3_44 : decode prog_26_method_12_code 44 = .ok (.iinc 5 (-1), 3) := by decide +kernel
theorem dJ6_getChars_ba4f3_47 : decode prog_26_method_12_code 47 = .ok (.iload 5, 2) := by decide +kernel
theorem dJ6_getChars_ba4f3_49 : decode prog_26_method_12_code 49 = .ok (.getstatic 83, 3) := by decide +kernel
theorem dJ6_getChars_ba4f3_52 : decode prog_26_method_12_code 52 = .ok (.iload 4, 2) := by decide +kernel
theorem dJ6_getChars_ba4f3_54 : decode prog_26_method_12_code 54 = .ok (.baload, 1) := by decide +kernel
theorem dJ6_getChars_ba4f3_55 : decode prog_26_method_12_code 55 = .ok (.bastore, 1) := by decide +kernel
theorem dJ6_getChars_ba4f3_56 : decode prog_26_method_12_code 56 = .ok (.aload_n 2, 1) := by decide +kernel
theorem dJ6_getChars_ba4f3_57 : decode prog_26_method_12_code 57 = .ok (.iinc 5 (-1), 3) := by decide +kernel
theorem dJ6_getChars_ba4f3_60 : decode prog_26_method_12_code 60 = .ok (.iload 5, 2) := by decide +kernel
theorem dJ6_getChars_ba4f3_62 : decode prog_26_method_12_code 62 = .ok (.getstatic 87, 3) := by decide +kernel
theorem dJ6_getChars_ba4f3_65 : decode prog_26_method_12_code 65 = .ok (.iload 4, 2) := by decide +kernel
theorem dJ6_getChars_ba4f3_67 : decode prog_26_method_12_code 67 = .ok (.baload, 1) := by decide +kernel
theorem dJ6_getChars_ba4f3_68 : decode prog_26_method_12_code 68 = .ok (.bastore, 1) := by decide +kernel
theorem dJ6_getChars_ba4f3_69 : decode prog_26_method_12_code 69 = .ok (.goto (-47), 3) := by decide +kernel
theorem dJ6_getChars_ba4f3_72 : decode prog_26_method_12_code 72 = .ok (.aload_n 2, 1) := by decide +kernel
theorem dJ6_getChars_ba4f3_73 : decode prog_26_method_12_code 73 = .ok (.iinc 5 (-1), 3) := by decide +kernel
theorem dJ6_getChars_ba4f3_76 : decode prog_26_method_12_code 76 = .ok (.iload 5, 2) := by decide +kernel
theorem dJ6_getChars_ba4f3_78 : decode prog_26_method_12_code 78 = .ok (.getstatic 83, 3) := by decide +kernel
theorem dJ6_getChars_ba4f3_81 : decode prog_26_method_12_code 81 = .ok (.iload_n 0, 1) := by decide +kernel
theorem dJ6_getChars_ba4f3_82 : decode prog_26_method_12_code 82 = .ok (.ineg, 1) := by decide +kernel
theorem dJ6_getChars_ba4f3_83 : decode prog_26_method_12_code 83 = .ok (.baload, 1) := by decide +kernel
theorem dJ6_getChars_ba4f3_84 : decode prog_26_method_12_code 84 = .ok (.bastore, 1) := by decide +kernel
theorem dJ6_getChars_ba4f3_85 : decode prog_26_method_12_code 85 = .ok (.iload_n 0, 1) := by decide +kernel
theorem dJ6_getChars_ba4f3_86 : decode prog_26_method_12_code 86 = .ok (.bipush (-9), 2) := by decide +kernel
theorem dJ6_getChars_ba4f3_88 : decode prog_26_method_12_code 88 = .ok (.if_icmp .ge 16, 3) := by decide +kernel
theorem dJ6_getChars_ba4f3_91 : decode prog_26_method_12_code 91 = .ok (.aload_n 2, 1) := by decide +kernel
theorem dJ6_getChars_ba4f3_92 : decode prog_26_method_12_code 92 = .ok (.iinc 5 (-1), 3) := by decide +kernel
theorem dJ6_getChars_ba4f3_95 : decode prog_26_method_12_code 95 = .ok (.iload 5, 2) := by decide +kernel
theorem dJ6_getChars_ba4f3_97 : decode prog_26_method_12_code 97 = .ok (.getstatic 87, 3) := by decide +kernel
theorem dJ6_getChars_ba4f3_100 : decode prog_26_method_12_code 100 = .ok (.iload_n 0, 1) := by decide +kernel
theorem dJ6_getChars_ba4f3_101 : decode prog_26_method_12_code 101 = .ok (.ineg, 1) := by decide +kernel
theorem dJ6_getChars_ba4f3_102 : decode prog_26_method_12_code 102 = .ok (.baload, 1) := by decide +kernel
theorem dJ6_getChars_ba4f3_103 : decode prog_26_method_12_code 103 = .ok (.bastore, 1) := by decide +kernel
theorem dJ6_getChars_ba4f3_104 : decode prog_26_method_12_code 104 = .ok (.iload 6, 2) := by decide +kernel
theorem dJ6_getChars_ba4f3_106 : decode prog_26_method_12_code 106 = .ok (.ifCond .eq 12, 3) := by decide +kernel
theorem dJ6_getChars_ba4f3_109 : decode prog_26_method_12_code 109 = .ok (.aload_n 2, 1) := by decide +kernel
theorem dJ6_getChars_ba4f3_110 : decode prog_26_method_12_code 110 = .ok (.iinc 5 (-1), 3) := by decide +kernel
theorem dJ6_getChars_ba4f3_113 : decode prog_26_method_12_code 113 = .ok (.iload 5, 2) := by decide +kernel
theorem dJ6_getChars_ba4f3_115 : decode prog_26_method_12_code 115 = .ok (.bipush 45, 2) := by decide +kernel
theorem dJ6_getChars_ba4f3_117 : decode prog_26_method_12_code 117 = .ok (.bastore, 1) := by decide +kernel
theorem dJ6_getChars_ba4f3_118 : decode prog_26_method_12_code 118 = .ok (.iload 5, 2) := by decide +kernel
theorem dJ6_getChars_ba4f3_120 : decode prog_26_method_12_code 120 = .ok (.ireturn, 1) := by decide +kernel
theorem pnJ7 : plainName RJ7 = true := by decide +kernel
theorem nJ7_copyOf_9075b : zDs yJ7_copyOf_9075b 2 := ⟨by decide, by decide, by decide +kernel⟩
theorem dJ7_copyOf_9075b_0 : decode prog_40_method_121_code 0 = .ok (.iload_n 1, 1) := by decide +kernel
theorem dJ7_copyOf_9075b_1 : decode prog_40_method_121_code 1 = .ok (.aload_n 0, 1) := by decide +kernel
theorem dJ7_copyOf_9075b_2 : decode prog_40_method_121_code 2 = .ok (.arraylength, 1) := by decide +kernel
theorem dJ7_copyOf_9075b_3 : decode prog_40_method_121_code 3 = .ok (.if_icmp .ne 11, 3) := by decide +kernel
theorem dJ7_copyOf_9075b_6 : decode prog_40_method_121_code 6 = .ok (.aload_n 0, 1) := by decide +kernel
theorem dJ7_copyOf_9075b_7 : decode prog_40_method_121_code 7 = .ok (.invokevirtual 310, 3) := by decide +kernel
theorem dJ7_copyOf_9075b_10 : decode prog_40_method_121_code 10 = .ok (.checkcast 311, 3) := by decide +kernel
theorem dJ7_copyOf_9075b_13 : decode prog_40_method_121_code 13 = .ok (.areturn, 1) := by decide +kernel
theorem dJ7_copyOf_9075b_14 : decode prog_40_method_121_code 14 = .ok (.iload_n 1, 1) := by decide +kernel
theorem dJ7_copyOf_9075b_15 : decode prog_40_method_121_code 15 = .ok (.newarray .byte, 2) := by decide +kernel
theorem dJ7_copyOf_9075b_17 : decode prog_40_method_121_code 17 = .ok (.astore_n 2, 1) := by decide +kernel
theorem dJ7_copyOf_9075b_18 : decode prog_40_method_121_code 18 = .ok (.aload_n 0, 1) := by decide +kernel
theorem dJ7_copyOf_9075b_19 : decode prog_40_method_121_code 19 = .ok (.iconst 0, 1) := by decide +kernel
theorem dJ7_copyOf_9075b_20 : decode prog_40_method_121_code 20 = .ok (.aload_n 2, 1) := by decide +kernel
theorem dJ7_copyOf_9075b_21 : decode prog_40_method_121_code 21 = .ok (.iconst 0, 1) := by decide +kernel
theorem dJ7_copyOf_9075b_22 : decode prog_40_method_121_code 22 = .ok (.aload_n 0, 1) := by decide +kernel
theorem dJ7_copyOf_9075b_23 : decode prog_40_method_121_code 23 = .ok (.arraylength, 1) := by decide +kernel
theorem dJ7_copyOf_9075b_24 : decode prog_40_method_121_code 24 = .ok (.iload_n 1, 1) := by decide +kernel
theorem dJ7_copyOf_9075b_25 : decode prog_40_method_121_code 25 = .ok (.invokestatic 304, 3) := by decide +kernel
theorem dJ7_copyOf_9075b_28 : decode prog_40_method_121_code 28 = .ok (.invokestatic 150, 3) := by decide +kernel
theorem dJ7_copyOf_9075b_31 : decode prog_40_method_121_code 31 = .ok (.aload_n 2, 1) := by decide +kernel
theorem dJ7_copyOf_9075b_32 : decode prog_40_method_121_code 32 = .ok (.areturn, 1) := by decide +kernel
theorem pnJ8 : plainName RJ8 = true := by decide +kernel
theorem nJ8_newLength_cabcc : zDs yJ8_newLength_cabcc 3 := ⟨by decide, by decide, by decide +kernel⟩
theorem dJ8_newLength_cabcc_0 : decode prog_42_method_27_code 0 = .ok (.iload_n 0, 1) := by decide +kernel
theorem dJ8_newLength_cabcc_1 : decode prog_42_method_27_code 1 = .ok (.iload_n 1, 1) := by decide +kernel
theorem dJ8_newLength_cabcc_2 : decode prog_42_method_27_code 2 = .ok (.iload_n 2, 1) := by decide +kernel
theorem dJ8_newLength_cabcc_3 : decode prog_42_method_27_code 3 = .ok (.invokestatic 194, 3) := by decide +kernel
theorem dJ8_newLength_cabcc_6 : decode prog_42_method_27_code 6 = .ok (.iadd, 1) := by decide +kernel
theorem dJ8_newLength_cabcc_7 : decode prog_42_method_27_code 7 = .ok (.istore_n 3, 1) := by decide +kernel
theorem dJ8_newLength_cabcc_8 : decode prog_42_method_27_code 8 = .ok (.iconst 0, 1) := by decide +kernel
theorem dJ8_newLength_cabcc_9 : decode prog_42_method_27_code 9 = .ok (.iload_n 3, 1) := by decide +kernel
theorem dJ8_newLength_cabcc_10 : decode prog_42_method_27_code 10 = .ok (.if_icmp .ge 11, 3) := by decide +kernel
theorem dJ8_newLength_cabcc_13 : decode prog_42_method_27_code 13 = .ok (.iload_n 3, 1) := by decide +kernel
theorem dJ8_newLength_cabcc_14 : decode prog_42_method_27_code 14 = .ok (.ldc 200, 2) := by decide +kernel
theorem dJ8_newLength_cabcc_16 : decode prog_42_method_27_code 16 = .ok (.if_icmp .gt 5, 3) := by decide +kernel
theorem dJ8_newLength_cabcc_19 : decode prog_42_method_27_code 19 = .ok (.iload_n 3, 1) := by decide +kernel
theorem dJ8_newLength_cabcc_20 : decode prog_42_method_27_code 20 = .ok (.ireturn, 1) := by decide +kernel
theorem dJ8_newLength_cabcc_21 : decode prog_42_method_27_code 21 = .ok (.iload_n 0, 1) := by decide +kernel
theorem dJ8_newLength_cabcc_22 : decode prog_42_method_27_code 22 = .ok (.iload_n 1, 1) := by decide +kernel
theorem dJ8_newLength_cabcc_23 : decode prog_42_method_27_code 23 = .ok (.invokestatic 201, 3) := by decide +kernel
theorem dJ8_newLength_cabcc_26 : decode prog_42_method_27_code 26 = .ok (.ireturn, 1) := by decide +kernel
theorem nJ4_init_da8c8 : zDs yJ4_init_da8c8 0 := ⟨by decide, by decide, by decide +kernel⟩
theorem dJ4_init_da8c8_0 : decode prog_31_method_1_code 0 = .ok (.aload_n 0, 1) := by decide +kernel
theorem dJ4_init_da8c8_1 : decode prog_31_method_1_code 1 = .ok (.bipush 16, 2) := by decide +kernel
theorem dJ4_init_da8c8_3 : decode prog_31_method_1_code 3 = .ok (.invokespecial 1, 3) := by decide +kernel
theorem dJ4_init_da8c8_6 : decode prog_31_method_1_code 6 = .ok (.return_, 1) := by decide +kernel
theorem nJ5_init_d00df : zDs yJ5_init_d00df 1 := ⟨by decide, by decide, by decide +kernel⟩
theorem dJ5_init_d00df_0 : decode prog_15_method_2_code 0 = .ok (.aload_n 0, 1) := by decide +kernel
theorem dJ5_init_d00df_1 : decode prog_15_method_2_code 1 = .ok (.invokespecial 3, 3) := by decide +kernel
theorem dJ5_init_d00df_4 : decode prog_15_method_2_code 4 = .ok (.getstatic 18, 3) := by decide +kernel
theorem dJ5_init_d00df_7 : decode prog_15_method_2_code 7 = .ok (.ifCond .eq 18, 3) := by decide +kernel
theorem dJ5_init_d00df_10 : decode prog_15_method_2_code 10 = .ok (.aload_n 0, 1) := by decide +kernel
theorem dJ5_init_d00df_11 : decode prog_15_method_2_code 11 = .ok (.iload_n 1, 1) := by decide +kernel
theorem dJ5_init_d00df_12 : decode prog_15_method_2_code 12 = .ok (.newarray .byte, 2) := by decide +kernel
theorem dJ5_init_d00df_14 : decode prog_15_method_2_code 14 = .ok (.putfield 15, 3) := by decide +kernel
theorem dJ5_init_d00df_17 : decode prog_15_method_2_code 17 = .ok (.aload_n 0, 1) := by decide +kernel
theorem dJ5_init_d00df_18 : decode prog_15_method_2_code 18 = .ok (.iconst 0, 1) := by decide +kernel
theorem dJ5_init_d00df_19 : decode prog_15_method_2_code 19 = .ok (.putfield 22, 3) := by decide +kernel
theorem dJ5_init_d00df_22 : decode prog_15_method_2_code 22 = .ok (.goto 16, 3) := by decide +kernel
theorem dJ5_init_d00df_25 : decode prog_15_method_2_code 25 = .ok (.aload_n 0, 1) := by decide +kernel
theorem dJ5_init_d00df_26 : decode prog_15_method_2_code 26 = .ok (.iload_n 1, 1) := by decide +kernel
theorem dJ5_init_d00df_27 : decode prog_15_method_2_code 27 = .ok (.invokestatic 26, 3) := by decide +kernel
theorem dJ5_init_d00df_30 : decode prog_15_method_2_code 30 = .ok (.putfield 15, 3) := by decide +kernel
theorem dJ5_init_d00df_33 : decode prog_15_method_2_code 33 = .ok (.aload_n 0, 1) := by decide +kernel
theorem dJ5_init_d00df_34 : decode prog_15_method_2_code 34 = .ok (.iconst 1, 1) := by decide +kernel
theorem dJ5_init_d00df_35 : decode prog_15_method_2_code 35 = .ok (.putfield 22, 3) := by decide +kernel
theorem dJ5_init_d00df_38 : decode prog_15_method_2_code 38 = .ok (.return_, 1) := by decide +kernel
theorem zlen5 : ∀ i, i < 6 → zLen.getD i 0 < 6 := by decide
theorem zlen6 {i : Nat} (h : i < 6) : zLen.getD i 0 < 2147483648 := Nat.lt_trans (zlen5 i h) (by decide)
theorem zlsh : ∀ i, i < 6 → nI (zLen.getD i 0) >>> ((0 : Int32) &&& 31) = nI (zLen.getD i 0) := by decide
theorem zbyt5 : ∀ i, i < 6 → ∀ j, j < 6 → j < zLen.getD i 0 → (((zByt.getD i []).getD j 0 &&& 255).toUInt32 % 65536).toInt32 = (zByt.getD i []).getD j 0 ∧ narrow FieldType.char (.int ((zByt.getD i []).getD j 0)) = .int ((zByt.getD i []).getD j 0) := by decide
set_option maxHeartbeats 4000000 in
set_option maxRecDepth 10000 in
theorem sJ0_isEmpty_aae02 {Γ : zG} {d : Nat} {G : zH} {Post : zV} {i : Nat} (hi : i < 6) (hP : Post (some (.int (zb (zLen.getD i 0 = 0)))) G) : zM Γ d mJ0_isEmpty_aae02 0 0 [.ref (Γ.2.2.2.1 i)] G Post := by
  refine zM_of pnJ0 rfl (Nat.le_of_ble_eq_true rfl) rfl ?_
  refine z_aload_n dJ0_isEmpty_aae02_0 rfl ?_
  refine z_kval dJ0_isEmpty_aae02_1 wJ0_9 hi ?_
  refine z_klen (v := nI (zLen.getD i 0)) dJ0_isEmpty_aae02_4 hi rfl ?_
  refine z_if_ne (tgt := 12) dJ0_isEmpty_aae02_5 (by decide) (fun c1 => ?_) (fun c1 => ?_)
  · have h1 : ¬ zLen.getD i 0 = 0 := fun q => c1 (by rw [q]; rfl)
    refine z_iconst (v := 0) dJ0_isEmpty_aae02_12 (by decide) ?_
    exact z_ireturn (mi := mJ0_isEmpty_aae02) dJ0_isEmpty_aae02_13 rfl rfl (Nat.le_refl _) (Nat.le_refl _) (by rw [zb_f h1] at hP; exact hP)
  · have h1 : zLen.getD i 0 = 0 := znI_inj (zlen6 hi) (by decide) (show nI (zLen.getD i 0) = nI 0 from c1)
    refine z_iconst (v := 1) dJ0_isEmpty_aae02_8 (by decide) ?_
    refine z_goto (tgt := 13) dJ0_isEmpty_aae02_9 (by decide) ?_
    exact z_ireturn (mi := mJ0_isEmpty_aae02) dJ0_isEmpty_aae02_13 rfl rfl (Nat.le_refl _) (Nat.le_refl _) (by rw [zb_t h1] at hP; exact hP)
set_option maxHeartbeats 4000000 in
set_option maxRecDepth 10000 in
theorem sJ0_coder_7d493 {Γ : zG} {d : Nat} {G : zH} {Post : zV} {i : Nat} (hi : i < 6) (hP : Post (some (.int 0)) G) : zM Γ d mJ0_coder_7d493 0 0 [.ref (Γ.2.2.2.1 i)] G Post := by
  refine zM_of pnJ0 rfl (Nat.le_of_ble_eq_true rfl) rfl ?_
  refine z_gets dJ0_coder_7d493_0 wJ0_38 zkCS ?_
  refine z_if_eq (tgt := 13) dJ0_coder_7d493_3 (by decide) (fun c1 => ?_) (fun c1 => ?_)
  · exact absurd c1 zi10
  · refine z_aload_n dJ0_coder_7d493_6 rfl ?_
    refine z_kcod dJ0_coder_7d493_7 wJ0_15 hi ?_
    refine z_goto (tgt := 14) dJ0_coder_7d493_10 (by decide) ?_
    exact z_ireturn (mi := mJ0_coder_7d493) dJ0_coder_7d493_14 rfl rfl (Nat.le_refl _) (Nat.le_refl _) (hP)
set_option maxHeartbeats 4000000 in
set_option maxRecDepth 10000 in
theorem sJ0_length_8abf5 {Γ : zG} {d : Nat} {G : zH} {Post : zV} {i : Nat} (hi : i < 6) (hP : Post (some (.int (nI (zLen.getD i 0)))) G) : zM Γ (d + 1) mJ0_length_8abf5 0 0 [.ref (Γ.2.2.2.1 i)] G Post := by
  refine zM_of pnJ0 rfl (Nat.le_of_ble_eq_true rfl) rfl ?_
  refine z_aload_n dJ0_length_8abf5_0 rfl ?_
  refine z_kval dJ0_length_8abf5_1 wJ0_9 hi ?_
  refine z_klen (v := nI (zLen.getD i 0)) dJ0_length_8abf5_4 hi rfl ?_
  refine z_aload_n dJ0_length_8abf5_5 rfl ?_
  refine z_VK0 (mi' := mJ0_coder_7d493) dJ0_length_8abf5_6 lJ0_335 nJ0_coder_7d493 kJ0_coder_7d493 (by decide) (Nat.le_of_ble_eq_true rfl) (Nat.le_refl _) (Nat.le_refl _) hi rfl ?_
  refine sJ0_coder_7d493 hi ?_
  refine z_ishr dJ0_length_8abf5_9 ?_
  rw [zlsh i hi]
  exact z_ireturn (mi := mJ0_length_8abf5) dJ0_length_8abf5_10 rfl rfl (Nat.le_refl _) (Nat.le_refl _) (hP)
set_option maxHeartbeats 4000000 in
set_option maxRecDepth 10000 in
theorem sJ0_isLatin1_aae02 {Γ : zG} {d : Nat} {G : zH} {Post : zV} {i : Nat} (hi : i < 6) (hP : Post (some (.int 1)) G) : zM Γ d mJ0_isLatin1_aae02 0 0 [.ref (Γ.2.2.2.1 i)] G Post := by
  refine zM_of pnJ0 rfl (Nat.le_of_ble_eq_true rfl) rfl ?_
  refine z_gets dJ0_isLatin1_aae02_0 wJ0_38 zkCS ?_
  refine z_if_eq (tgt := 17) dJ0_isLatin1_aae02_3 (by decide) (fun c1 => ?_) (fun c1 => ?_)
  · exact absurd c1 zi10
  · refine z_aload_n dJ0_isLatin1_aae02_6 rfl ?_
    refine z_kcod dJ0_isLatin1_aae02_7 wJ0_15 hi ?_
    refine z_if_ne (tgt := 17) dJ0_isLatin1_aae02_10 (by decide) (fun c2 => ?_) (fun c2 => ?_)
    · exact absurd rfl c2
    · refine z_iconst (v := 1) dJ0_isLatin1_aae02_13 (by decide) ?_
      refine z_goto (tgt := 18) dJ0_isLatin1_aae02_14 (by decide) ?_
      exact z_ireturn (mi := mJ0_isLatin1_aae02) dJ0_isLatin1_aae02_18 rfl rfl (Nat.le_refl _) (Nat.le_refl _) (hP)
set_option maxHeartbeats 4000000 in
set_option maxRecDepth 10000 in
theorem sJ3_checkIndex_8e157r {Γ : zG} {d : Nat} {G : zH} {Post : zV} {j n : Nat} {a9 : Nat} (hj : j < n) (hn : n < 2147483648) (hP : Post (some (.int (nI j))) G) : zM Γ d mJ3_checkIndex_8e157 0 0 [.int (nI j), .int (nI n), .ref a9] G Post := by
  refine zM_of pnJ3 rfl (Nat.le_of_ble_eq_true rfl) rfl ?_
  refine z_iload_n dJ3_checkIndex_8e157_0 rfl ?_
  refine z_if_lt (tgt := 9) dJ3_checkIndex_8e157_1 (by decide) (fun c1 => ?_) (fun c1 => ?_)
  · exact absurd c1 (nI_pos (by omega))
  · refine z_iload_n dJ3_checkIndex_8e157_4 rfl ?_
    refine z_iload_n dJ3_checkIndex_8e157_5 rfl ?_
    refine z_icmp_lt (tgt := 16) dJ3_checkIndex_8e157_6 (by decide) (fun c2 => ?_) (fun c2 => ?_)
    · refine z_iload_n dJ3_checkIndex_8e157_16 rfl ?_
      exact z_ireturn (mi := mJ3_checkIndex_8e157) dJ3_checkIndex_8e157_17 rfl rfl (Nat.le_refl _) (Nat.le_refl _) (hP)
    · exact absurd ((nI_ltI (by omega) hn).mpr hj) c2
set_option maxHeartbeats 4000000 in
set_option maxRecDepth 10000 in
theorem sJ3_checkIndex_8e157n {Γ : zG} {d : Nat} {G : zH} {Post : zV} {j n : Nat} (hj : j < n) (hn : n < 2147483648) (hP : Post (some (.int (nI j))) G) : zM Γ d mJ3_checkIndex_8e157 0 0 [.int (nI j), .int (nI n), .null] G Post := by
  refine zM_of pnJ3 rfl (Nat.le_of_ble_eq_true rfl) rfl ?_
  refine z_iload_n dJ3_checkIndex_8e157_0 rfl ?_
  refine z_if_lt (tgt := 9) dJ3_checkIndex_8e157_1 (by decide) (fun c1 => ?_) (fun c1 => ?_)
  · exact absurd c1 (nI_pos (by omega))
  · refine z_iload_n dJ3_checkIndex_8e157_4 rfl ?_
    refine z_iload_n dJ3_checkIndex_8e157_5 rfl ?_
    refine z_icmp_lt (tgt := 16) dJ3_checkIndex_8e157_6 (by decide) (fun c2 => ?_) (fun c2 => ?_)
    · refine z_iload_n dJ3_checkIndex_8e157_16 rfl ?_
      exact z_ireturn (mi := mJ3_checkIndex_8e157) dJ3_checkIndex_8e157_17 rfl rfl (Nat.le_refl _) (Nat.le_refl _) (hP)
    · exact absurd ((nI_ltI (by omega) hn).mpr hj) c2
theorem sJ3_checkIndex_8e157 {Γ : zG} {d : Nat} {G : zH} {Post : zV} {j n : Nat} (hj : j < n) (hn : n < 2147483648) (hP : Post (some (.int (nI j))) G) : zM Γ d mJ3_checkIndex_8e157 0 0 [.int (nI j), .int (nI n), zFv Γ] G Post := by
  unfold zFv
  split
  · exact sJ3_checkIndex_8e157n hj hn hP
  · exact sJ3_checkIndex_8e157r hj hn hP
set_option maxHeartbeats 4000000 in
set_option maxRecDepth 10000 in
theorem sJ0_checkIndex_df160 {Γ : zG} {d : Nat} {G : zH} {Post : zV} {j n : Nat} (hj : j < n) (hn : n < 2147483648) (hP : Post none G) : zM Γ (d + 1) mJ0_checkIndex_df160 0 0 [.int (nI j), .int (nI n)] G Post := by
  refine zM_of pnJ0 rfl (Nat.le_of_ble_eq_true rfl) rfl ?_
  refine z_iload_n dJ0_checkIndex_df160_0 rfl ?_
  refine z_iload_n dJ0_checkIndex_df160_1 rfl ?_
  refine z_gets dJ0_checkIndex_df160_2 wJ0_1053 zkSF ?_
  refine z_S3 (mi' := mJ3_checkIndex_8e157) dJ0_checkIndex_df160_5 lJ0_1059 nJ3_checkIndex_8e157 kJ3_checkIndex_8e157 (by decide) (Nat.le_of_ble_eq_true rfl) (Nat.le_refl _) (Nat.le_refl _) ?_
  refine sJ3_checkIndex_8e157 hj hn ?_
  refine z_pop dJ0_checkIndex_df160_8 rfl ?_
  exact z_vreturn (mi := mJ0_checkIndex_df160) dJ0_checkIndex_df160_9 rfl (Nat.le_refl _) (Nat.le_refl _) (hP)
set_option maxHeartbeats 4000000 in
set_option maxRecDepth 10000 in
theorem sJ1_charAt_3b067 {Γ : zG} {d : Nat} {G : zH} {Post : zV} {i : Nat} (hi : i < 6) {j : Nat} (hj : j < zLen.getD i 0) (hP : Post (some (.int ((zByt.getD i []).getD j 0))) G) : zM Γ (d + 2) mJ1_charAt_3b067 0 0 [.ref (Γ.2.2.2.2 i), .int (nI j)] G Post := by
  refine zM_of pnJ1 rfl (Nat.le_of_ble_eq_true rfl) rfl ?_
  have h5 := zlen5 i hi
  refine z_iload_n dJ1_charAt_3b067_0 rfl ?_
  refine z_aload_n dJ1_charAt_3b067_1 rfl ?_
  refine z_klen (v := nI (zLen.getD i 0)) dJ1_charAt_3b067_2 hi rfl ?_
  refine z_S2 (mi' := mJ0_checkIndex_df160) dJ1_charAt_3b067_3 lJ1_9 nJ0_checkIndex_df160 kJ0_checkIndex_df160 (by decide) (Nat.le_of_ble_eq_true rfl) (Nat.le_refl _) (Nat.le_refl _) ?_
  refine sJ0_checkIndex_df160 hj (zlen6 hi) ?_
  refine z_aload_n dJ1_charAt_3b067_6 rfl ?_
  refine z_iload_n dJ1_charAt_3b067_7 rfl ?_
  refine z_kbld dJ1_charAt_3b067_8 hi (vp_in_nI hj (zlen6 hi)) ?_
  rw [nI_clamp (show j < 2147483648 by omega)]
  refine z_sipush (v := 255) dJ1_charAt_3b067_9 (by decide) ?_
  refine z_iand dJ1_charAt_3b067_12 ?_
  refine z_i2c dJ1_charAt_3b067_13 ?_
  rw [(zbyt5 i hi j (by omega) hj).1]
  exact z_ireturn (mi := mJ1_charAt_3b067) dJ1_charAt_3b067_14 rfl (zbyt5 i hi j (by omega) hj).2 (Nat.le_refl _) (Nat.le_refl _) hP
set_option maxHeartbeats 4000000 in
set_option maxRecDepth 10000 in
theorem sJ0_charAt_5068e {Γ : zG} {d : Nat} {G : zH} {Post : zV} {i : Nat} (hi : i < 6) {j : Nat} (hj : j < zLen.getD i 0) (hP : Post (some (.int ((zByt.getD i []).getD j 0))) G) : zM Γ (d + 3) mJ0_charAt_5068e 0 0 [.ref (Γ.2.2.2.1 i), .int (nI j)] G Post := by
  refine zM_of pnJ0 rfl (Nat.le_of_ble_eq_true rfl) rfl ?_
  have h5 := zlen5 i hi
  refine z_aload_n dJ0_charAt_5068e_0 rfl ?_
  refine z_VK0 (mi' := mJ0_isLatin1_aae02) dJ0_charAt_5068e_1 lJ0_492 nJ0_isLatin1_aae02 kJ0_isLatin1_aae02 (by decide) (Nat.le_of_ble_eq_true rfl) (Nat.le_refl _) (Nat.le_refl _) hi rfl ?_
  refine sJ0_isLatin1_aae02 hi ?_
  refine z_if_eq (tgt := 16) dJ0_charAt_5068e_4 (by decide) (fun c1 => ?_) (fun c1 => ?_)
  · exact absurd c1 zi10
  · refine z_aload_n dJ0_charAt_5068e_7 rfl ?_
    refine z_kval dJ0_charAt_5068e_8 wJ0_9 hi ?_
    refine z_iload_n dJ0_charAt_5068e_11 rfl ?_
    refine z_S2 (mi' := mJ1_charAt_3b067) dJ0_charAt_5068e_12 lJ0_495 nJ1_charAt_3b067 kJ1_charAt_3b067 (by decide) (Nat.le_of_ble_eq_true rfl) (Nat.le_refl _) (Nat.le_refl _) ?_
    refine sJ1_charAt_3b067 hi hj ?_
    exact z_ireturn (mi := mJ0_charAt_5068e) dJ0_charAt_5068e_15 rfl (zbyt5 i hi j (by omega) hj).2 (Nat.le_refl _) (Nat.le_refl _) hP
