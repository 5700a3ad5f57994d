set_option maxHeartbeats 4000000 in
set_option maxRecDepth 10000 in
theorem sX10_stoneOf {Γ : zG} {d : Nat} {G : zH} {ax : Nat → Nat} {bq m : Nat} {ρ : Nat → zSt} {γ : zSt} (hC : zCls G ax bq m ρ γ) {S F E K : Nat} (hN : zN (ρ 0) S F E K) {Post : zP} {x w : Int32} (hP : Post (zoStoneOf (ρ 0) E F x w) G) : zMX Γ (d + 5) mX10_stoneOf 1 6 [.ref (ax 0), .int x, .int w] G Post := by
  refine zMX_of pnX10 rfl (Nat.le_of_ble_eq_true rfl) rfl ?_
  obtain ⟨hS, hS6, hF, hF12, hE, hE4, hK, hK3⟩ := id hN
  refine z_aload_n dX10_stoneOf_0 rfl ?_
  refine z_get dX10_stoneOf_1 fX10_10.r (hC.1 _ (by decide)) rfl ?_
  refine z_get dX10_stoneOf_4 fX10_81 ((hC.2.1 0 (by decide)).1 _ (by decide)) rfl ?_
  refine z_iload_n dX10_stoneOf_7 rfl ?_
  refine z_V1 (mi' := mX8_has) dX10_stoneOf_8 lX10_188 nX8_has kX8_has (by decide) (Nat.le_of_ble_eq_true rfl) (Nat.zero_le _) (Nat.zero_le _) ((hC.2.1 0 (by decide)).1 _ (by decide)) rfl rfl ?_
  refine sX8_has (hC.2.1 0 (by decide)) ?_
  refine z_if_ne (tgt := 24) dX10_stoneOf_11 (by decide) (fun c1 => ?_) (fun c1 => ?_)
  · have e11 := zb_n.mp c1
    obtain ⟨s, hs, rfl⟩ := zhas (n := S) (by omega) (by rw [← hS]; exact e11)
    refine z_iload_n dX10_stoneOf_24 rfl ?_
    by_cases t0 : w = 0
    · rw [t0]
      refine z_tableIn (tgt := 64) dX10_stoneOf_25 (by decide) (by decide) rfl (by decide) ?_
      refine z_aload_n dX10_stoneOf_64 rfl ?_
      refine z_get dX10_stoneOf_65 fX10_10.r (hC.1 _ (by decide)) rfl ?_
      refine z_get dX10_stoneOf_68 fX10_81 ((hC.2.1 0 (by decide)).1 _ (by decide)) rfl ?_
      refine z_get dX10_stoneOf_71 fX10_197 ((hC.2.1 0 (by decide)).1 _ (by decide)) rfl ?_
      refine z_iload_n dX10_stoneOf_74 rfl ?_
      refine z_S2 (mi' := mX7_at) dX10_stoneOf_75 lX10_200 nX7_at kX7_at (by decide) (Nat.le_of_ble_eq_true rfl) (Nat.zero_le _) (Nat.zero_le _) ?_
      refine sX7_at ((hC.2.1 0 (by decide)).1 _ (by decide)) (by decide) (show s < 6 by omega) ?_
      exact z_ireturn (mi := mX10_stoneOf) dX10_stoneOf_78 rfl rfl (Nat.zero_le _) (Nat.zero_le _) (by rw [zoStoneOf, if_neg (not_not_intro e11), nI_clamp (show s < 2 ^ 31 by omega), if_pos t0] at hP; exact hP)
    by_cases t1 : w = 1
    · rw [t1]
      refine z_tableIn (tgt := 79) dX10_stoneOf_25 (by decide) (by decide) rfl (by decide) ?_
      refine z_aload_n dX10_stoneOf_79 rfl ?_
      refine z_get dX10_stoneOf_80 fX10_10.r (hC.1 _ (by decide)) rfl ?_
      refine z_get dX10_stoneOf_83 fX10_81 ((hC.2.1 0 (by decide)).1 _ (by decide)) rfl ?_
      refine z_get dX10_stoneOf_86 fX10_206 ((hC.2.1 0 (by decide)).1 _ (by decide)) rfl ?_
      refine z_iload_n dX10_stoneOf_89 rfl ?_
      refine z_S2 (mi' := mX7_at) dX10_stoneOf_90 lX10_200 nX7_at kX7_at (by decide) (Nat.le_of_ble_eq_true rfl) (Nat.zero_le _) (Nat.zero_le _) ?_
      refine sX7_at ((hC.2.1 0 (by decide)).1 _ (by decide)) (by decide) (show s < 6 by omega) ?_
      exact z_ireturn (mi := mX10_stoneOf) dX10_stoneOf_93 rfl rfl (Nat.zero_le _) (Nat.zero_le _) (by rw [zoStoneOf, if_neg (not_not_intro e11), nI_clamp (show s < 2 ^ 31 by omega), if_neg t0, if_pos t1] at hP; exact hP)
    by_cases t2 : w = 2
    · rw [t2]
      refine z_tableIn (tgt := 94) dX10_stoneOf_25 (by decide) (by decide) rfl (by decide) ?_
      refine z_aload_n dX10_stoneOf_94 rfl ?_
      refine z_get dX10_stoneOf_95 fX10_10.r (hC.1 _ (by decide)) rfl ?_
      refine z_get dX10_stoneOf_98 fX10_81 ((hC.2.1 0 (by decide)).1 _ (by decide)) rfl ?_
      refine z_get dX10_stoneOf_101 fX10_209 ((hC.2.1 0 (by decide)).1 _ (by decide)) rfl ?_
      refine z_iload_n dX10_stoneOf_104 rfl ?_
      refine z_S2 (mi' := mX7_at) dX10_stoneOf_105 lX10_200 nX7_at kX7_at (by decide) (Nat.le_of_ble_eq_true rfl) (Nat.zero_le _) (Nat.zero_le _) ?_
      refine sX7_at ((hC.2.1 0 (by decide)).1 _ (by decide)) (by decide) (show s < 6 by omega) ?_
      exact z_ireturn (mi := mX10_stoneOf) dX10_stoneOf_108 rfl rfl (Nat.zero_le _) (Nat.zero_le _) (by rw [zoStoneOf, if_neg (not_not_intro e11), nI_clamp (show s < 2 ^ 31 by omega), if_neg t0, if_neg t1, if_pos t2] at hP; exact hP)
    by_cases t3 : w = 3
    · rw [t3]
      refine z_tableIn (tgt := 109) dX10_stoneOf_25 (by decide) (by decide) rfl (by decide) ?_
      refine z_aload_n dX10_stoneOf_109 rfl ?_
      refine z_get dX10_stoneOf_110 fX10_10.r (hC.1 _ (by decide)) rfl ?_
      refine z_get dX10_stoneOf_113 fX10_81 ((hC.2.1 0 (by decide)).1 _ (by decide)) rfl ?_
      refine z_get dX10_stoneOf_116 fX10_212 ((hC.2.1 0 (by decide)).1 _ (by decide)) rfl ?_
      refine z_iload_n dX10_stoneOf_119 rfl ?_
      refine z_S2 (mi' := mX7_at) dX10_stoneOf_120 lX10_200 nX7_at kX7_at (by decide) (Nat.le_of_ble_eq_true rfl) (Nat.zero_le _) (Nat.zero_le _) ?_
      refine sX7_at ((hC.2.1 0 (by decide)).1 _ (by decide)) (by decide) (show s < 6 by omega) ?_
      exact z_ireturn (mi := mX10_stoneOf) dX10_stoneOf_123 rfl rfl (Nat.zero_le _) (Nat.zero_le _) (by rw [zoStoneOf, if_neg (not_not_intro e11), nI_clamp (show s < 2 ^ 31 by omega), if_neg t0, if_neg t1, if_neg t2, if_pos t3] at hP; exact hP)
    by_cases t4 : w = 4
    · rw [t4]
      refine z_tableIn (tgt := 124) dX10_stoneOf_25 (by decide) (by decide) rfl (by decide) ?_
      refine z_aload_n dX10_stoneOf_124 rfl ?_
      refine z_get dX10_stoneOf_125 fX10_10.r (hC.1 _ (by decide)) rfl ?_
      refine z_get dX10_stoneOf_128 fX10_145 ((hC.2.1 0 (by decide)).1 _ (by decide)) rfl ?_
      refine z_iload_n dX10_stoneOf_131 rfl ?_
      refine z_V1 (mi' := mX4_countOn) dX10_stoneOf_132 lX10_215 nX4_countOn kX4_countOn (by decide) (Nat.le_of_ble_eq_true rfl) (Nat.zero_le _) (Nat.zero_le _) ((hC.2.1 0 (by decide)).1 _ (by decide)) rfl rfl ?_
      refine sX4_countOn (hC.2.1 0 (by decide)) (show s < 6 by omega) ?_
      exact z_ireturn (mi := mX10_stoneOf) dX10_stoneOf_135 rfl rfl (Nat.zero_le _) (Nat.zero_le _) (by rw [zoStoneOf, if_neg (not_not_intro e11), nI_clamp (show s < 2 ^ 31 by omega), if_neg t0, if_neg t1, if_neg t2, if_neg t3, if_pos t4] at hP; exact hP)
    by_cases t5 : w = 5
    · rw [t5]
      refine z_tableIn (tgt := 136) dX10_stoneOf_25 (by decide) (by decide) rfl (by decide) ?_
      refine z_aload_n dX10_stoneOf_136 rfl ?_
      refine z_get dX10_stoneOf_137 fX10_10.r (hC.1 _ (by decide)) rfl ?_
      refine z_iload_n dX10_stoneOf_140 rfl ?_
      refine z_V1 (mi' := mX6_doubtsOnStone) dX10_stoneOf_141 lX10_218 nX6_doubtsOnStone kX6_doubtsOnStone (by decide) (Nat.le_of_ble_eq_true rfl) (Nat.zero_le _) (Nat.zero_le _) ((hC.2.1 0 (by decide)).1 _ (by decide)) rfl rfl ?_
      refine sX6_doubtsOnStone (hC.2.1 0 (by decide)) hN (show s < 6 by omega) ?_
      exact z_ireturn (mi := mX10_stoneOf) dX10_stoneOf_144 rfl rfl (Nat.zero_le _) (Nat.zero_le _) (by rw [zoStoneOf, if_neg (not_not_intro e11), nI_clamp (show s < 2 ^ 31 by omega), if_neg t0, if_neg t1, if_neg t2, if_neg t3, if_neg t4, if_pos t5] at hP; exact hP)
    refine z_tableOut (tgt := 145) dX10_stoneOf_25 (by have u0 := lv_neT (a := 0) t0 (by decide); have u1 := lv_neT (a := 1) t1 (by decide); have u2 := lv_neT (a := 2) t2 (by decide); have u3 := lv_neT (a := 3) t3 (by decide); have u4 := lv_neT (a := 4) t4 (by decide); have u5 := lv_neT (a := 5) t5 (by decide); omega) (by decide) ?_
    exact z_throw (mi := mX10_stoneOf) (cls := "java/lang/IllegalArgumentException") (ic := 225) (i := 17) rfl (by decide) gX10_221 rfl rfl dX10_stoneOf_145 dX10_stoneOf_148 dX10_stoneOf_149 dX10_stoneOf_151 dX10_stoneOf_154 (Nat.le_of_ble_eq_true rfl) (Nat.le_of_ble_eq_true rfl) (Nat.le_of_ble_eq_true rfl) (by rw [zoStoneOf, if_neg (not_not_intro e11), nI_clamp (show s < 2 ^ 31 by omega), if_neg t0, if_neg t1, if_neg t2, if_neg t3, if_neg t4, if_neg t5] at hP; exact hP)
  · have e11 := zb_0.mp c1
    exact z_throw (mi := mX10_stoneOf) (cls := "java/lang/IndexOutOfBoundsException") (ic := 196) (i := 16) rfl (by decide) gX10_192 rfl rfl dX10_stoneOf_14 dX10_stoneOf_17 dX10_stoneOf_18 dX10_stoneOf_20 dX10_stoneOf_23 (Nat.le_of_ble_eq_true rfl) (Nat.le_of_ble_eq_true rfl) (Nat.le_of_ble_eq_true rfl) (by rw [zoStoneOf, if_pos e11] at hP; exact hP)
set_option maxHeartbeats 4000000 in
set_option maxRecDepth 10000 in
theorem sX10_floodOf {Γ : zG} {d : Nat} {G : zH} {ax : Nat → Nat} {bq m : Nat} {ρ : Nat → zSt} {γ : zSt} (hC : zCls G ax bq m ρ γ) {S F E K : Nat} (hN : zN (ρ 0) S F E K) {Post : zP} {x w : Int32} (hP : Post (zoFloodOf (ρ 0) E F S x w) G) : zMX Γ (d + 6) mX10_floodOf 1 6 [.ref (ax 0), .int x, .int w] G Post := by
  refine zMX_of pnX10 rfl (Nat.le_of_ble_eq_true rfl) rfl ?_
  obtain ⟨hS, hS6, hF, hF12, hE, hE4, hK, hK3⟩ := id hN
  refine z_aload_n dX10_floodOf_0 rfl ?_
  refine z_get dX10_floodOf_1 fX10_10.r (hC.1 _ (by decide)) rfl ?_
  refine z_get dX10_floodOf_4 fX10_96 ((hC.2.1 0 (by decide)).1 _ (by decide)) rfl ?_
  refine z_iload_n dX10_floodOf_7 rfl ?_
  refine z_V1 (mi' := mX2_has) dX10_floodOf_8 lX10_226 nX2_has kX2_has (by decide) (Nat.le_of_ble_eq_true rfl) (Nat.zero_le _) (Nat.zero_le _) ((hC.2.1 0 (by decide)).1 _ (by decide)) rfl rfl ?_
  refine sX2_has (hC.2.1 0 (by decide)) ?_
  refine z_if_ne (tgt := 24) dX10_floodOf_11 (by decide) (fun c1 => ?_) (fun c1 => ?_)
  · have e11 := zb_n.mp c1
    obtain ⟨f, hf, rfl⟩ := zhas (n := F) (by omega) (by rw [← hF]; exact e11)
    refine z_iload_n dX10_floodOf_24 rfl ?_
    by_cases t0 : w = 0
    · rw [t0]
      refine z_tableIn (tgt := 64) dX10_floodOf_25 (by decide) (by decide) rfl (by decide) ?_
      refine z_aload_n dX10_floodOf_64 rfl ?_
      refine z_get dX10_floodOf_65 fX10_10.r (hC.1 _ (by decide)) rfl ?_
      refine z_get dX10_floodOf_68 fX10_96 ((hC.2.1 0 (by decide)).1 _ (by decide)) rfl ?_
      refine z_get dX10_floodOf_71 fX10_229 ((hC.2.1 0 (by decide)).1 _ (by decide)) rfl ?_
      refine z_iload_n dX10_floodOf_74 rfl ?_
      refine z_S2 (mi' := mX7_at) dX10_floodOf_75 lX10_200 nX7_at kX7_at (by decide) (Nat.le_of_ble_eq_true rfl) (Nat.zero_le _) (Nat.zero_le _) ?_
      refine sX7_at ((hC.2.1 0 (by decide)).1 _ (by decide)) (by decide) (show f < 12 by omega) ?_
      exact z_ireturn (mi := mX10_floodOf) dX10_floodOf_78 rfl rfl (Nat.zero_le _) (Nat.zero_le _) (by rw [zoFloodOf, if_neg (not_not_intro e11), nI_clamp (show f < 2 ^ 31 by omega), if_pos t0] at hP; exact hP)
    by_cases t1 : w = 1
    · rw [t1]
      refine z_tableIn (tgt := 79) dX10_floodOf_25 (by decide) (by decide) rfl (by decide) ?_
      refine z_aload_n dX10_floodOf_79 rfl ?_
      refine z_get dX10_floodOf_80 fX10_10.r (hC.1 _ (by decide)) rfl ?_
      refine z_get dX10_floodOf_83 fX10_96 ((hC.2.1 0 (by decide)).1 _ (by decide)) rfl ?_
      refine z_get dX10_floodOf_86 fX10_232 ((hC.2.1 0 (by decide)).1 _ (by decide)) rfl ?_
      refine z_iload_n dX10_floodOf_89 rfl ?_
      refine z_S2 (mi' := mX7_at) dX10_floodOf_90 lX10_200 nX7_at kX7_at (by decide) (Nat.le_of_ble_eq_true rfl) (Nat.zero_le _) (Nat.zero_le _) ?_
      refine sX7_at ((hC.2.1 0 (by decide)).1 _ (by decide)) (by decide) (show f < 12 by omega) ?_
      exact z_ireturn (mi := mX10_floodOf) dX10_floodOf_93 rfl rfl (Nat.zero_le _) (Nat.zero_le _) (by rw [zoFloodOf, if_neg (not_not_intro e11), nI_clamp (show f < 2 ^ 31 by omega), if_neg t0, if_pos t1] at hP; exact hP)
    by_cases t2 : w = 2
    · rw [t2]
      refine z_tableIn (tgt := 94) dX10_floodOf_25 (by decide) (by decide) rfl (by decide) ?_
      refine z_aload_n dX10_floodOf_94 rfl ?_
      refine z_get dX10_floodOf_95 fX10_10.r (hC.1 _ (by decide)) rfl ?_
      refine z_get dX10_floodOf_98 fX10_96 ((hC.2.1 0 (by decide)).1 _ (by decide)) rfl ?_
      refine z_get dX10_floodOf_101 fX10_235 ((hC.2.1 0 (by decide)).1 _ (by decide)) rfl ?_
      refine z_iload_n dX10_floodOf_104 rfl ?_
      refine z_S2 (mi' := mX7_at) dX10_floodOf_105 lX10_200 nX7_at kX7_at (by decide) (Nat.le_of_ble_eq_true rfl) (Nat.zero_le _) (Nat.zero_le _) ?_
      refine sX7_at ((hC.2.1 0 (by decide)).1 _ (by decide)) (by decide) (show f < 12 by omega) ?_
      exact z_ireturn (mi := mX10_floodOf) dX10_floodOf_108 rfl rfl (Nat.zero_le _) (Nat.zero_le _) (by rw [zoFloodOf, if_neg (not_not_intro e11), nI_clamp (show f < 2 ^ 31 by omega), if_neg t0, if_neg t1, if_pos t2] at hP; exact hP)
    by_cases t3 : w = 3
    · rw [t3]
      refine z_tableIn (tgt := 109) dX10_floodOf_25 (by decide) (by decide) rfl (by decide) ?_
      refine z_aload_n dX10_floodOf_109 rfl ?_
      refine z_get dX10_floodOf_110 fX10_10.r (hC.1 _ (by decide)) rfl ?_
      refine z_get dX10_floodOf_113 fX10_145 ((hC.2.1 0 (by decide)).1 _ (by decide)) rfl ?_
      refine z_iload_n dX10_floodOf_116 rfl ?_
      refine z_V1 (mi' := mX4_countFor) dX10_floodOf_117 lX10_238 nX4_countFor kX4_countFor (by decide) (Nat.le_of_ble_eq_true rfl) (Nat.zero_le _) (Nat.zero_le _) ((hC.2.1 0 (by decide)).1 _ (by decide)) rfl rfl ?_
      refine sX4_countFor (hC.2.1 0 (by decide)) (show f < 12 by omega) ?_
      exact z_ireturn (mi := mX10_floodOf) dX10_floodOf_120 rfl rfl (Nat.zero_le _) (Nat.zero_le _) (by rw [zoFloodOf, if_neg (not_not_intro e11), nI_clamp (show f < 2 ^ 31 by omega), if_neg t0, if_neg t1, if_neg t2, if_pos t3] at hP; exact hP)
    by_cases t4 : w = 4
    · rw [t4]
      refine z_tableIn (tgt := 121) dX10_floodOf_25 (by decide) (by decide) rfl (by decide) ?_
      refine z_aload_n dX10_floodOf_121 rfl ?_
      refine z_get dX10_floodOf_122 fX10_10.r (hC.1 _ (by decide)) rfl ?_
      refine z_iload_n dX10_floodOf_125 rfl ?_
      refine z_V1 (mi' := mX6_doubtsOfFlood) dX10_floodOf_126 lX10_241 nX6_doubtsOfFlood kX6_doubtsOfFlood (by decide) (Nat.le_of_ble_eq_true rfl) (Nat.zero_le _) (Nat.zero_le _) ((hC.2.1 0 (by decide)).1 _ (by decide)) rfl rfl ?_
      refine sX6_doubtsOfFlood (hC.2.1 0 (by decide)) hN (show f < 12 by omega) ?_
      exact z_ireturn (mi := mX10_floodOf) dX10_floodOf_129 rfl rfl (Nat.zero_le _) (Nat.zero_le _) (by rw [zoFloodOf, if_neg (not_not_intro e11), nI_clamp (show f < 2 ^ 31 by omega), if_neg t0, if_neg t1, if_neg t2, if_neg t3, if_pos t4] at hP; exact hP)
    by_cases t5 : w = 5
    · rw [t5]
      refine z_tableIn (tgt := 130) dX10_floodOf_25 (by decide) (by decide) rfl (by decide) ?_
      refine z_aload_n dX10_floodOf_130 rfl ?_
      refine z_get dX10_floodOf_131 fX10_10.r (hC.1 _ (by decide)) rfl ?_
      refine z_iload_n dX10_floodOf_134 rfl ?_
      refine z_V1 (mi' := mX6_creditOf) dX10_floodOf_135 lX10_244 nX6_creditOf kX6_creditOf (by decide) (Nat.le_of_ble_eq_true rfl) (Nat.zero_le _) (Nat.zero_le _) ((hC.2.1 0 (by decide)).1 _ (by decide)) rfl rfl ?_
      refine sX6_creditOf (hC.2.1 0 (by decide)) hN (show f < 12 by omega) ?_
      exact z_ireturn (mi := mX10_floodOf) dX10_floodOf_138 rfl rfl (Nat.zero_le _) (Nat.zero_le _) (by rw [zoFloodOf, if_neg (not_not_intro e11), nI_clamp (show f < 2 ^ 31 by omega), if_neg t0, if_neg t1, if_neg t2, if_neg t3, if_neg t4, if_pos t5] at hP; exact hP)
    refine z_tableOut (tgt := 139) dX10_floodOf_25 (by have u0 := lv_neT (a := 0) t0 (by decide); have u1 := lv_neT (a := 1) t1 (by decide); have u2 := lv_neT (a := 2) t2 (by decide); have u3 := lv_neT (a := 3) t3 (by decide); have u4 := lv_neT (a := 4) t4 (by decide); have u5 := lv_neT (a := 5) t5 (by decide); omega) (by decide) ?_
    exact z_throw (mi := mX10_floodOf) (cls := "java/lang/IllegalArgumentException") (ic := 225) (i := 17) rfl (by decide) gX10_221 rfl rfl dX10_floodOf_139 dX10_floodOf_142 dX10_floodOf_143 dX10_floodOf_145 dX10_floodOf_148 (Nat.le_of_ble_eq_true rfl) (Nat.le_of_ble_eq_true rfl) (Nat.le_of_ble_eq_true rfl) (by rw [zoFloodOf, if_neg (not_not_intro e11), nI_clamp (show f < 2 ^ 31 by omega), if_neg t0, if_neg t1, if_neg t2, if_neg t3, if_neg t4, if_neg t5] at hP; exact hP)
  · have e11 := zb_0.mp c1
    exact z_throw (mi := mX10_floodOf) (cls := "java/lang/IndexOutOfBoundsException") (ic := 196) (i := 18) rfl (by decide) gX10_192 rfl rfl dX10_floodOf_14 dX10_floodOf_17 dX10_floodOf_18 dX10_floodOf_20 dX10_floodOf_23 (Nat.le_of_ble_eq_true rfl) (Nat.le_of_ble_eq_true rfl) (Nat.le_of_ble_eq_true rfl) (by rw [zoFloodOf, if_pos e11] at hP; exact hP)
set_option maxHeartbeats 4000000 in
set_option maxRecDepth 10000 in
theorem sX10_floodIn {Γ : zG} {d : Nat} {G : zH} {ax : Nat → Nat} {bq m : Nat} {ρ : Nat → zSt} {γ : zSt} (hC : zCls G ax bq m ρ γ) {S F E K : Nat} (hN : zN (ρ 0) S F E K) {Post : zP} {y : Int32} (hP : Post (zoFloodIn (ρ 0) F y) G) : zMX Γ (d + 2) mX10_floodIn 1 6 [.ref (ax 0), .int y] G Post := by
  refine zMX_of pnX10 rfl (Nat.le_of_ble_eq_true rfl) rfl ?_
  obtain ⟨hS, hS6, hF, hF12, hE, hE4, hK, hK3⟩ := id hN
  refine z_aload_n dX10_floodIn_0 rfl ?_
  refine z_get dX10_floodIn_1 fX10_10.r (hC.1 _ (by decide)) rfl ?_
  refine z_get dX10_floodIn_4 fX10_96 ((hC.2.1 0 (by decide)).1 _ (by decide)) rfl ?_
  refine z_iload_n dX10_floodIn_7 rfl ?_
  refine z_V1 (mi' := mX2_findYear) dX10_floodIn_8 lX10_247 nX2_findYear kX2_findYear (by decide) (Nat.le_of_ble_eq_true rfl) (Nat.zero_le _) (Nat.zero_le _) ((hC.2.1 0 (by decide)).1 _ (by decide)) rfl rfl ?_
  refine sX2_findYear (hC.2.1 0 (by decide)) hN ?_
  refine z_istore_n dX10_floodIn_11 (by decide) rfl ?_
  refine z_iload_n dX10_floodIn_12 rfl ?_
  refine z_if_ge (tgt := 26) dX10_floodIn_13 (by decide) (fun c1 => ?_) (fun c1 => ?_)
  · refine z_iload_n dX10_floodIn_26 rfl ?_
    exact z_ireturn (mi := mX10_floodIn) dX10_floodIn_27 rfl rfl (Nat.zero_le _) (Nat.zero_le _) (by rw [zoFloodIn, if_pos c1] at hP; exact hP)
  · exact z_throwN (mi := mX10_floodIn) (i := 19) rfl rfl rfl dX10_floodIn_16 dX10_floodIn_19 (Or.inl ⟨dX10_floodIn_20, dX10_floodIn_22, dX10_floodIn_25⟩) (Nat.le_of_ble_eq_true rfl) (Nat.le_of_ble_eq_true rfl) (Nat.le_of_ble_eq_true rfl) (by rw [zoFloodIn, if_neg c1] at hP; exact hP)
set_option maxHeartbeats 4000000 in
set_option maxRecDepth 10000 in
theorem sX10_before {Γ : zG} {d : Nat} {G : zH} {ax : Nat → Nat} {bq m : Nat} {ρ : Nat → zSt} {γ : zSt} (hC : zCls G ax bq m ρ γ) {S F E K : Nat} (hN : zN (ρ 0) S F E K) {Post : zP} {y : Int32} (hP : Post (zoBefore (ρ 0) F y) G) : zMX Γ (d + 2) mX10_before 1 6 [.ref (ax 0), .int y] G Post := by
  refine zMX_of pnX10 rfl (Nat.le_of_ble_eq_true rfl) rfl ?_
  obtain ⟨hS, hS6, hF, hF12, hE, hE4, hK, hK3⟩ := id hN
  refine z_aload_n dX10_before_0 rfl ?_
  refine z_get dX10_before_1 fX10_10.r (hC.1 _ (by decide)) rfl ?_
  refine z_get dX10_before_4 fX10_96 ((hC.2.1 0 (by decide)).1 _ (by decide)) rfl ?_
  refine z_iload_n dX10_before_7 rfl ?_
  refine z_V1 (mi' := mX2_findLatestAhead) dX10_before_8 lX10_255 nX2_findLatestAhead kX2_findLatestAhead (by decide) (Nat.le_of_ble_eq_true rfl) (Nat.zero_le _) (Nat.zero_le _) ((hC.2.1 0 (by decide)).1 _ (by decide)) rfl rfl ?_
  refine sX2_findLatestAhead (hC.2.1 0 (by decide)) hN ?_
  refine z_istore_n dX10_before_11 (by decide) rfl ?_
  refine z_iload_n dX10_before_12 rfl ?_
  refine z_if_ge (tgt := 27) dX10_before_13 (by decide) (fun c1 => ?_) (fun c1 => ?_)
  · refine z_iload_n dX10_before_27 rfl ?_
    exact z_ireturn (mi := mX10_before) dX10_before_28 rfl rfl (Nat.zero_le _) (Nat.zero_le _) (by rw [zoBefore, if_pos c1] at hP; exact hP)
  · exact z_throwN (mi := mX10_before) (i := 20) rfl rfl rfl dX10_before_16 dX10_before_19 (Or.inr ⟨dX10_before_20, dX10_before_23, dX10_before_26⟩) (Nat.le_of_ble_eq_true rfl) (Nat.le_of_ble_eq_true rfl) (Nat.le_of_ble_eq_true rfl) (by rw [zoBefore, if_neg c1] at hP; exact hP)
set_option maxHeartbeats 4000000 in
set_option maxRecDepth 10000 in
theorem sX10_edge {Γ : zG} {d : Nat} {G : zH} {ax : Nat → Nat} {bq m : Nat} {ρ : Nat → zSt} {γ : zSt} (hC : zCls G ax bq m ρ γ) {S F E K : Nat} (hN : zN (ρ 0) S F E K) {Post : zP} {z : Int32} (hP : Post (zoEdge (ρ 0) z) G) : zMX Γ (d + 2) mX10_edge 1 6 [.ref (ax 0), .int z] G Post := by
  refine zMX_of pnX10 rfl (Nat.le_of_ble_eq_true rfl) rfl ?_
  obtain ⟨hS, hS6, hF, hF12, hE, hE4, hK, hK3⟩ := id hN
  refine z_aload_n dX10_edge_0 rfl ?_
  refine z_get dX10_edge_1 fX10_10.r (hC.1 _ (by decide)) rfl ?_
  refine z_get dX10_edge_4 fX10_123 ((hC.2.1 0 (by decide)).1 _ (by decide)) rfl ?_
  refine z_iload_n dX10_edge_7 rfl ?_
  refine z_V1 (mi' := mX0_has) dX10_edge_8 lX10_260 nX0_has kX0_has (by decide) (Nat.le_of_ble_eq_true rfl) (Nat.zero_le _) (Nat.zero_le _) ((hC.2.1 0 (by decide)).1 _ (by decide)) rfl rfl ?_
  refine sX0_has (hC.2.1 0 (by decide)) ?_
  refine z_if_ne (tgt := 25) dX10_edge_11 (by decide) (fun c1 => ?_) (fun c1 => ?_)
  · have e11 := zb_n.mp c1
    obtain ⟨c, hc, rfl⟩ := zhas (n := K) (by omega) (by rw [← hK]; exact e11)
    refine z_aload_n dX10_edge_25 rfl ?_
    refine z_get dX10_edge_26 fX10_10.r (hC.1 _ (by decide)) rfl ?_
    refine z_get dX10_edge_29 fX10_123 ((hC.2.1 0 (by decide)).1 _ (by decide)) rfl ?_
    refine z_get dX10_edge_32 fX10_263 ((hC.2.1 0 (by decide)).1 _ (by decide)) rfl ?_
    refine z_iload_n dX10_edge_35 rfl ?_
    refine z_S2 (mi' := mX7_at) dX10_edge_36 lX10_200 nX7_at kX7_at (by decide) (Nat.le_of_ble_eq_true rfl) (Nat.zero_le _) (Nat.zero_le _) ?_
    refine sX7_at ((hC.2.1 0 (by decide)).1 _ (by decide)) (by decide) (show c < 3 by omega) ?_
    exact z_ireturn (mi := mX10_edge) dX10_edge_39 rfl rfl (Nat.zero_le _) (Nat.zero_le _) (by rw [zoEdge, if_neg (not_not_intro e11), nI_clamp (show c < 2 ^ 31 by omega)] at hP; exact hP)
  · have e11 := zb_0.mp c1
    exact z_throwW (mi := mX10_edge) (cls := "java/lang/IndexOutOfBoundsException") (ic := 196) (i := 21) rfl (by decide) gX10_192 rfl rfl dX10_edge_14 dX10_edge_17 dX10_edge_18 dX10_edge_21 dX10_edge_24 (Nat.le_of_ble_eq_true rfl) (Nat.le_of_ble_eq_true rfl) (Nat.le_of_ble_eq_true rfl) (by rw [zoEdge, if_pos e11] at hP; exact hP)
set_option maxHeartbeats 4000000 in
set_option maxRecDepth 10000 in
theorem sX10_markOf {Γ : zG} {d : Nat} {G : zH} {ax : Nat → Nat} {bq m : Nat} {ρ : Nat → zSt} {γ : zSt} (hC : zCls G ax bq m ρ γ) {S F E K : Nat} (hN : zN (ρ 0) S F E K) {Post : zP} {x y w : Int32} (hP : Post (zoMarkOf (ρ 0) E x y w) G) : zMX Γ (d + 3) mX10_markOf 1 6 [.ref (ax 0), .int x, .int y, .int w] G Post := by
  refine zMX_of pnX10 rfl (Nat.le_of_ble_eq_true rfl) rfl ?_
  obtain ⟨hS, hS6, hF, hF12, hE, hE4, hK, hK3⟩ := id hN
  refine z_aload_n dX10_markOf_0 rfl ?_
  refine z_get dX10_markOf_1 fX10_10.r (hC.1 _ (by decide)) rfl ?_
  refine z_get dX10_markOf_4 fX10_81 ((hC.2.1 0 (by decide)).1 _ (by decide)) rfl ?_
  refine z_iload_n dX10_markOf_7 rfl ?_
  refine z_V1 (mi' := mX8_has) dX10_markOf_8 lX10_188 nX8_has kX8_has (by decide) (Nat.le_of_ble_eq_true rfl) (Nat.zero_le _) (Nat.zero_le _) ((hC.2.1 0 (by decide)).1 _ (by decide)) rfl rfl ?_
  refine sX8_has (hC.2.1 0 (by decide)) ?_
  refine z_if_eq (tgt := 28) dX10_markOf_11 (by decide) (fun c1 => ?_) (fun c1 => ?_)
  · have e11 := zb_0.mp c1
    exact z_throwW (mi := mX10_markOf) (cls := "java/lang/IndexOutOfBoundsException") (ic := 196) (i := 22) rfl (by decide) gX10_192 rfl rfl dX10_markOf_28 dX10_markOf_31 dX10_markOf_32 dX10_markOf_35 dX10_markOf_38 (Nat.le_of_ble_eq_true rfl) (Nat.le_of_ble_eq_true rfl) (Nat.le_of_ble_eq_true rfl) (by rw [zoMarkOf, if_pos e11] at hP; exact hP)
  · have e11 := zb_n.mp c1
    obtain ⟨s, hs, rfl⟩ := zhas (n := S) (by omega) (by rw [← hS]; exact e11)
    refine z_aload_n dX10_markOf_14 rfl ?_
    refine z_get dX10_markOf_15 fX10_10.r (hC.1 _ (by decide)) rfl ?_
    refine z_get dX10_markOf_18 fX10_96 ((hC.2.1 0 (by decide)).1 _ (by decide)) rfl ?_
    refine z_iload_n dX10_markOf_21 rfl ?_
    refine z_V1 (mi' := mX2_has) dX10_markOf_22 lX10_226 nX2_has kX2_has (by decide) (Nat.le_of_ble_eq_true rfl) (Nat.zero_le _) (Nat.zero_le _) ((hC.2.1 0 (by decide)).1 _ (by decide)) rfl rfl ?_
    refine sX2_has (hC.2.1 0 (by decide)) ?_
    refine z_if_ne (tgt := 39) dX10_markOf_25 (by decide) (fun c2 => ?_) (fun c2 => ?_)
    · have e25 := zb_n.mp c2
      obtain ⟨f, hf, rfl⟩ := zhas (n := F) (by omega) (by rw [← hF]; exact e25)
      refine z_iload_n dX10_markOf_39 rfl ?_
      refine z_if_lt (tgt := 48) dX10_markOf_40 (by decide) (fun c3 => ?_) (fun c3 => ?_)
      · exact z_throwW (mi := mX10_markOf) (cls := "java/lang/IllegalArgumentException") (ic := 225) (i := 23) rfl (by decide) gX10_221 rfl rfl dX10_markOf_48 dX10_markOf_51 dX10_markOf_52 dX10_markOf_55 dX10_markOf_58 (Nat.le_of_ble_eq_true rfl) (Nat.le_of_ble_eq_true rfl) (Nat.le_of_ble_eq_true rfl) (by rw [zoMarkOf, if_neg (not_not_intro e11), if_neg (not_not_intro e25), if_pos (Or.inl c3)] at hP; exact hP)
      · refine z_iload_n dX10_markOf_43 rfl ?_
        refine z_iconst (v := 4) dX10_markOf_44 (by decide) ?_
        refine z_icmp_le (tgt := 59) dX10_markOf_45 (by decide) (fun c4 => ?_) (fun c4 => ?_)
        · refine z_aload_n dX10_markOf_59 rfl ?_
          refine z_get dX10_markOf_60 fX10_10.r (hC.1 _ (by decide)) rfl ?_
          refine z_get dX10_markOf_63 fX10_145 ((hC.2.1 0 (by decide)).1 _ (by decide)) rfl ?_
          refine z_iload_n dX10_markOf_66 rfl ?_
          refine z_iload_n dX10_markOf_67 rfl ?_
          refine z_V2 (mi' := mX4_has) dX10_markOf_68 lX10_270 nX4_has kX4_has (by decide) (Nat.le_of_ble_eq_true rfl) (Nat.zero_le _) (Nat.zero_le _) ((hC.2.1 0 (by decide)).1 _ (by decide)) rfl rfl ?_
          refine sX4_has (hC.2.1 0 (by decide)) (show s < 6 by omega) (show f < 12 by omega) ?_
          refine z_if_ne (tgt := 85) dX10_markOf_71 (by decide) (fun c5 => ?_) (fun c5 => ?_)
          · have e71 := zb_n.mp c5
            refine z_iload_n dX10_markOf_85 rfl ?_
            by_cases t0 : w = 0
            · rw [t0]
              refine z_tableIn (tgt := 116) dX10_markOf_86 (by decide) (by decide) rfl (by decide) ?_
              refine z_aload_n dX10_markOf_116 rfl ?_
              refine z_get dX10_markOf_117 fX10_10.r (hC.1 _ (by decide)) rfl ?_
              refine z_get dX10_markOf_120 fX10_145 ((hC.2.1 0 (by decide)).1 _ (by decide)) rfl ?_
              refine z_iload_n dX10_markOf_123 rfl ?_
              refine z_iload_n dX10_markOf_124 rfl ?_
              refine z_V2 (mi' := mX4_heightAt) dX10_markOf_125 lX10_275 nX4_heightAt kX4_heightAt (by decide) (Nat.le_of_ble_eq_true rfl) (Nat.zero_le _) (Nat.zero_le _) ((hC.2.1 0 (by decide)).1 _ (by decide)) rfl rfl ?_
              refine sX4_heightAt (hC.2.1 0 (by decide)) (show s < 6 by omega) (show f < 12 by omega) ?_
              exact z_ireturn (mi := mX10_markOf) dX10_markOf_128 rfl rfl (Nat.zero_le _) (Nat.zero_le _) (by rw [zoMarkOf, if_neg (not_not_intro e11), if_neg (not_not_intro e25), nI_clamp (show s < 2 ^ 31 by omega), nI_clamp (show f < 2 ^ 31 by omega), if_neg (fun q => q.elim c3 (Int32.not_lt.mpr c4)), if_pos e71, if_pos t0] at hP; exact hP)
            by_cases t1 : w = 1
            · rw [t1]
              refine z_tableIn (tgt := 129) dX10_markOf_86 (by decide) (by decide) rfl (by decide) ?_
              refine z_aload_n dX10_markOf_129 rfl ?_
              refine z_get dX10_markOf_130 fX10_10.r (hC.1 _ (by decide)) rfl ?_
              refine z_get dX10_markOf_133 fX10_145 ((hC.2.1 0 (by decide)).1 _ (by decide)) rfl ?_
              refine z_iload_n dX10_markOf_136 rfl ?_
              refine z_iload_n dX10_markOf_137 rfl ?_
              refine z_V2 (mi' := mX4_depthAt) dX10_markOf_138 lX10_278 nX4_depthAt kX4_depthAt (by decide) (Nat.le_of_ble_eq_true rfl) (Nat.zero_le _) (Nat.zero_le _) ((hC.2.1 0 (by decide)).1 _ (by decide)) rfl rfl ?_
              refine sX4_depthAt (hC.2.1 0 (by decide)) (show s < 6 by omega) (show f < 12 by omega) ?_
              exact z_ireturn (mi := mX10_markOf) dX10_markOf_141 rfl rfl (Nat.zero_le _) (Nat.zero_le _) (by rw [zoMarkOf, if_neg (not_not_intro e11), if_neg (not_not_intro e25), nI_clamp (show s < 2 ^ 31 by omega), nI_clamp (show f < 2 ^ 31 by omega), if_neg (fun q => q.elim c3 (Int32.not_lt.mpr c4)), if_pos e71, if_neg t0, if_pos t1] at hP; exact hP)
            by_cases t2 : w = 2
            · rw [t2]
              refine z_tableIn (tgt := 142) dX10_markOf_86 (by decide) (by decide) rfl (by decide) ?_
              refine z_aload_n dX10_markOf_142 rfl ?_
              refine z_get dX10_markOf_143 fX10_10.r (hC.1 _ (by decide)) rfl ?_
              refine z_get dX10_markOf_146 fX10_145 ((hC.2.1 0 (by decide)).1 _ (by decide)) rfl ?_
              refine z_iload_n dX10_markOf_149 rfl ?_
              refine z_iload_n dX10_markOf_150 rfl ?_
              refine z_V2 (mi' := mX4_cutYearAt) dX10_markOf_151 lX10_281 nX4_cutYearAt kX4_cutYearAt (by decide) (Nat.le_of_ble_eq_true rfl) (Nat.zero_le _) (Nat.zero_le _) ((hC.2.1 0 (by decide)).1 _ (by decide)) rfl rfl ?_
              refine sX4_cutYearAt (hC.2.1 0 (by decide)) (show s < 6 by omega) (show f < 12 by omega) ?_
              exact z_ireturn (mi := mX10_markOf) dX10_markOf_154 rfl rfl (Nat.zero_le _) (Nat.zero_le _) (by rw [zoMarkOf, if_neg (not_not_intro e11), if_neg (not_not_intro e25), nI_clamp (show s < 2 ^ 31 by omega), nI_clamp (show f < 2 ^ 31 by omega), if_neg (fun q => q.elim c3 (Int32.not_lt.mpr c4)), if_pos e71, if_neg t0, if_neg t1, if_pos t2] at hP; exact hP)
            by_cases t3 : w = 3
            · rw [t3]
              refine z_tableIn (tgt := 155) dX10_markOf_86 (by decide) (by decide) rfl (by decide) ?_
              refine z_aload_n dX10_markOf_155 rfl ?_
              refine z_get dX10_markOf_156 fX10_10.r (hC.1 _ (by decide)) rfl ?_
              refine z_iload_n dX10_markOf_159 rfl ?_
              refine z_iload_n dX10_markOf_160 rfl ?_
              refine z_V2 (mi' := mX6_trueHeight) dX10_markOf_161 lX10_284 nX6_trueHeight kX6_trueHeight (by decide) (Nat.le_of_ble_eq_true rfl) (Nat.zero_le _) (Nat.zero_le _) ((hC.2.1 0 (by decide)).1 _ (by decide)) rfl rfl ?_
              refine sX6_trueHeight (hC.2.1 0 (by decide)) hN (show s < 6 by omega) (show f < 12 by omega) ?_
              exact z_ireturn (mi := mX10_markOf) dX10_markOf_164 rfl rfl (Nat.zero_le _) (Nat.zero_le _) (by rw [zoMarkOf, if_neg (not_not_intro e11), if_neg (not_not_intro e25), nI_clamp (show s < 2 ^ 31 by omega), nI_clamp (show f < 2 ^ 31 by omega), if_neg (fun q => q.elim c3 (Int32.not_lt.mpr c4)), if_pos e71, if_neg t0, if_neg t1, if_neg t2, if_pos t3] at hP; exact hP)
            refine z_tableOut (tgt := 165) dX10_markOf_86 (by have u0 := lv_neT (a := 0) t0 (by decide); have u1 := lv_neT (a := 1) t1 (by decide); have u2 := lv_neT (a := 2) t2 (by decide); have u3 := lv_neT (a := 3) t3 (by decide); omega) (by decide) ?_
            refine z_aload_n dX10_markOf_165 rfl ?_
            refine z_get dX10_markOf_166 fX10_10.r (hC.1 _ (by decide)) rfl ?_
            refine z_iload_n dX10_markOf_169 rfl ?_
            refine z_iload_n dX10_markOf_170 rfl ?_
            refine z_V2 (mi' := mX6_yearsLeft) dX10_markOf_171 lX10_287 nX6_yearsLeft kX6_yearsLeft (by decide) (Nat.le_of_ble_eq_true rfl) (Nat.zero_le _) (Nat.zero_le _) ((hC.2.1 0 (by decide)).1 _ (by decide)) rfl rfl ?_
            refine sX6_yearsLeft (hC.2.1 0 (by decide)) (show s < 6 by omega) (show f < 12 by omega) ?_
            exact z_ireturn (mi := mX10_markOf) dX10_markOf_174 rfl rfl (Nat.zero_le _) (Nat.zero_le _) (by rw [zoMarkOf, if_neg (not_not_intro e11), if_neg (not_not_intro e25), nI_clamp (show s < 2 ^ 31 by omega), nI_clamp (show f < 2 ^ 31 by omega), if_neg (fun q => q.elim c3 (Int32.not_lt.mpr c4)), if_pos e71, if_neg t0, if_neg t1, if_neg t2, if_neg t3] at hP; exact hP)
          · have e71 := zb_0.mp c5
            exact z_throwN (mi := mX10_markOf) (i := 24) rfl rfl rfl dX10_markOf_74 dX10_markOf_77 (Or.inr ⟨dX10_markOf_78, dX10_markOf_81, dX10_markOf_84⟩) (Nat.le_of_ble_eq_true rfl) (Nat.le_of_ble_eq_true rfl) (Nat.le_of_ble_eq_true rfl) (by rw [zoMarkOf, if_neg (not_not_intro e11), if_neg (not_not_intro e25), nI_clamp (show s < 2 ^ 31 by omega), nI_clamp (show f < 2 ^ 31 by omega), if_neg (fun q => q.elim c3 (Int32.not_lt.mpr c4)), if_neg e71] at hP; exact hP)
        · exact z_throwW (mi := mX10_markOf) (cls := "java/lang/IllegalArgumentException") (ic := 225) (i := 23) rfl (by decide) gX10_221 rfl rfl dX10_markOf_48 dX10_markOf_51 dX10_markOf_52 dX10_markOf_55 dX10_markOf_58 (Nat.le_of_ble_eq_true rfl) (Nat.le_of_ble_eq_true rfl) (Nat.le_of_ble_eq_true rfl) (by rw [zoMarkOf, if_neg (not_not_intro e11), if_neg (not_not_intro e25), if_pos (Or.inr (Int32.not_le.mp c4))] at hP; exact hP)
    · have e25 := zb_0.mp c2
      exact z_throwW (mi := mX10_markOf) (cls := "java/lang/IndexOutOfBoundsException") (ic := 196) (i := 22) rfl (by decide) gX10_192 rfl rfl dX10_markOf_28 dX10_markOf_31 dX10_markOf_32 dX10_markOf_35 dX10_markOf_38 (Nat.le_of_ble_eq_true rfl) (Nat.le_of_ble_eq_true rfl) (Nat.le_of_ble_eq_true rfl) (by rw [zoMarkOf, if_neg (not_not_intro e11), if_pos e25] at hP; exact hP)
set_option maxHeartbeats 4000000 in
set_option maxRecDepth 10000 in
theorem sX10_mark {Γ : zG} {d : Nat} {G : zH} {ax : Nat → Nat} {bq m : Nat} {ρ : Nat → zSt} {γ : zSt} (hC : zCls G ax bq m ρ γ) {S F E K : Nat} (hN : zN (ρ 0) S F E K) {Post : zP} {x p : Int32} (hP : Post (zoMark (ρ 0) x p) G) : zMX Γ (d + 4) mX10_mark 1 6 [.ref (ax 0), .int x, .int p] G Post := by
  refine zMX_of pnX10 rfl (Nat.le_of_ble_eq_true rfl) rfl ?_
  obtain ⟨hS, hS6, hF, hF12, hE, hE4, hK, hK3⟩ := id hN
  refine z_aload_n dX10_mark_0 rfl ?_
  refine z_get dX10_mark_1 fX10_10.r (hC.1 _ (by decide)) rfl ?_
  refine z_get dX10_mark_4 fX10_81 ((hC.2.1 0 (by decide)).1 _ (by decide)) rfl ?_
  refine z_iload_n dX10_mark_7 rfl ?_
  refine z_V1 (mi' := mX8_has) dX10_mark_8 lX10_188 nX8_has kX8_has (by decide) (Nat.le_of_ble_eq_true rfl) (Nat.zero_le _) (Nat.zero_le _) ((hC.2.1 0 (by decide)).1 _ (by decide)) rfl rfl ?_
  refine sX8_has (hC.2.1 0 (by decide)) ?_
  refine z_if_ne (tgt := 24) dX10_mark_11 (by decide) (fun c1 => ?_) (fun c1 => ?_)
  · have e11 := zb_n.mp c1
    obtain ⟨s, hs, rfl⟩ := zhas (n := S) (by omega) (by rw [← hS]; exact e11)
    refine z_aload_n dX10_mark_24 rfl ?_
    refine z_get dX10_mark_25 fX10_10.r (hC.1 _ (by decide)) rfl ?_
    refine z_get dX10_mark_28 fX10_145 ((hC.2.1 0 (by decide)).1 _ (by decide)) rfl ?_
    refine z_iload_n dX10_mark_31 rfl ?_
    refine z_iload_n dX10_mark_32 rfl ?_
    refine z_V2 (mi' := mX4_floodAtPlace) dX10_mark_33 lX10_290 nX4_floodAtPlace kX4_floodAtPlace (by decide) (Nat.le_of_ble_eq_true rfl) (Nat.zero_le _) (Nat.zero_le _) ((hC.2.1 0 (by decide)).1 _ (by decide)) rfl rfl ?_
    refine sX4_floodAtPlace (hC.2.1 0 (by decide)) (show s < 6 by omega) ?_
    refine z_istore_n dX10_mark_36 (by decide) rfl ?_
    refine z_iload_n dX10_mark_37 rfl ?_
    refine z_if_ge (tgt := 52) dX10_mark_38 (by decide) (fun c2 => ?_) (fun c2 => ?_)
    · refine z_iload_n dX10_mark_52 rfl ?_
      exact z_ireturn (mi := mX10_mark) dX10_mark_53 rfl rfl (Nat.zero_le _) (Nat.zero_le _) (by rw [zoMark, if_neg (not_not_intro e11), nI_clamp (show s < 2 ^ 31 by omega), if_pos c2] at hP; exact hP)
    · exact z_throwN (mi := mX10_mark) (i := 25) rfl rfl rfl dX10_mark_41 dX10_mark_44 (Or.inr ⟨dX10_mark_45, dX10_mark_48, dX10_mark_51⟩) (Nat.le_of_ble_eq_true rfl) (Nat.le_of_ble_eq_true rfl) (Nat.le_of_ble_eq_true rfl) (by rw [zoMark, if_neg (not_not_intro e11), nI_clamp (show s < 2 ^ 31 by omega), if_neg c2] at hP; exact hP)
  · have e11 := zb_0.mp c1
    exact z_throw (mi := mX10_mark) (cls := "java/lang/IndexOutOfBoundsException") (ic := 196) (i := 16) rfl (by decide) gX10_192 rfl rfl dX10_mark_14 dX10_mark_17 dX10_mark_18 dX10_mark_20 dX10_mark_23 (Nat.le_of_ble_eq_true rfl) (Nat.le_of_ble_eq_true rfl) (Nat.le_of_ble_eq_true rfl) (by rw [zoMark, if_pos e11] at hP; exact hP)
set_option maxHeartbeats 4000000 in
set_option maxRecDepth 10000 in
theorem sX10_level {Γ : zG} {d : Nat} {G : zH} {ax : Nat → Nat} {bq m : Nat} {ρ : Nat → zSt} {γ : zSt} (hC : zCls G ax bq m ρ γ) {S F E K : Nat} (hN : zN (ρ 0) S F E K) {Post : zP} {x y : Int32} (hP : Post (zoLevel (ρ 0) x y) G) : zMX Γ (d + 3) mX10_level 1 6 [.ref (ax 0), .int x, .int y] G Post := by
  refine zMX_of pnX10 rfl (Nat.le_of_ble_eq_true rfl) rfl ?_
  obtain ⟨hS, hS6, hF, hF12, hE, hE4, hK, hK3⟩ := id hN
  refine z_aload_n dX10_level_0 rfl ?_
  refine z_get dX10_level_1 fX10_10.r (hC.1 _ (by decide)) rfl ?_
  refine z_get dX10_level_4 fX10_81 ((hC.2.1 0 (by decide)).1 _ (by decide)) rfl ?_
  refine z_iload_n dX10_level_7 rfl ?_
  refine z_V1 (mi' := mX8_has) dX10_level_8 lX10_188 nX8_has kX8_has (by decide) (Nat.le_of_ble_eq_true rfl) (Nat.zero_le _) (Nat.zero_le _) ((hC.2.1 0 (by decide)).1 _ (by decide)) rfl rfl ?_
  refine sX8_has (hC.2.1 0 (by decide)) ?_
  refine z_if_eq (tgt := 28) dX10_level_11 (by decide) (fun c1 => ?_) (fun c1 => ?_)
  · have e11 := zb_0.mp c1
    exact z_throwW (mi := mX10_level) (cls := "java/lang/IndexOutOfBoundsException") (ic := 196) (i := 22) rfl (by decide) gX10_192 rfl rfl dX10_level_28 dX10_level_31 dX10_level_32 dX10_level_35 dX10_level_38 (Nat.le_of_ble_eq_true rfl) (Nat.le_of_ble_eq_true rfl) (Nat.le_of_ble_eq_true rfl) (by rw [zoLevel, if_pos e11] at hP; exact hP)
  · have e11 := zb_n.mp c1
    obtain ⟨s, hs, rfl⟩ := zhas (n := S) (by omega) (by rw [← hS]; exact e11)
    refine z_aload_n dX10_level_14 rfl ?_
    refine z_get dX10_level_15 fX10_10.r (hC.1 _ (by decide)) rfl ?_
    refine z_get dX10_level_18 fX10_96 ((hC.2.1 0 (by decide)).1 _ (by decide)) rfl ?_
    refine z_iload_n dX10_level_21 rfl ?_
    refine z_V1 (mi' := mX2_has) dX10_level_22 lX10_226 nX2_has kX2_has (by decide) (Nat.le_of_ble_eq_true rfl) (Nat.zero_le _) (Nat.zero_le _) ((hC.2.1 0 (by decide)).1 _ (by decide)) rfl rfl ?_
    refine sX2_has (hC.2.1 0 (by decide)) ?_
    refine z_if_ne (tgt := 39) dX10_level_25 (by decide) (fun c2 => ?_) (fun c2 => ?_)
    · have e25 := zb_n.mp c2
      obtain ⟨f, hf, rfl⟩ := zhas (n := F) (by omega) (by rw [← hF]; exact e25)
      refine z_aload_n dX10_level_39 rfl ?_
      refine z_get dX10_level_40 fX10_10.r (hC.1 _ (by decide)) rfl ?_
      refine z_iload_n dX10_level_43 rfl ?_
      refine z_iload_n dX10_level_44 rfl ?_
      refine z_V2 (mi' := mX6_levelAt) dX10_level_45 lX10_295 nX6_levelAt kX6_levelAt (by decide) (Nat.le_of_ble_eq_true rfl) (Nat.zero_le _) (Nat.zero_le _) ((hC.2.1 0 (by decide)).1 _ (by decide)) rfl rfl ?_
      refine sX6_levelAt (hC.2.1 0 (by decide)) (show s < 6 by omega) (show f < 12 by omega) ?_
      exact z_ireturn (mi := mX10_level) dX10_level_48 rfl rfl (Nat.zero_le _) (Nat.zero_le _) (by rw [zoLevel, if_neg (not_not_intro e11), if_neg (not_not_intro e25), nI_clamp (show s < 2 ^ 31 by omega), nI_clamp (show f < 2 ^ 31 by omega)] at hP; exact hP)
    · have e25 := zb_0.mp c2
      exact z_throwW (mi := mX10_level) (cls := "java/lang/IndexOutOfBoundsException") (ic := 196) (i := 22) rfl (by decide) gX10_192 rfl rfl dX10_level_28 dX10_level_31 dX10_level_32 dX10_level_35 dX10_level_38 (Nat.le_of_ble_eq_true rfl) (Nat.le_of_ble_eq_true rfl) (Nat.le_of_ble_eq_true rfl) (by rw [zoLevel, if_neg (not_not_intro e11), if_pos e25] at hP; exact hP)
set_option maxHeartbeats 4000000 in
set_option maxRecDepth 10000 in
theorem sX10_reads {Γ : zG} {d : Nat} {G : zH} {ax : Nat → Nat} {bq m : Nat} {ρ : Nat → zSt} {γ : zSt} (hC : zCls G ax bq m ρ γ) {S F E K : Nat} (hN : zN (ρ 0) S F E K) {Post : zP} {x y : Int32} (hP : Post (zoReads (ρ 0) E x y) G) : zMX Γ (d + 4) mX10_reads 1 6 [.ref (ax 0), .int x, .int y] G Post := by
  refine zMX_of pnX10 rfl (Nat.le_of_ble_eq_true rfl) rfl ?_
  obtain ⟨hS, hS6, hF, hF12, hE, hE4, hK, hK3⟩ := id hN
  refine z_aload_n dX10_reads_0 rfl ?_
  refine z_get dX10_reads_1 fX10_10.r (hC.1 _ (by decide)) rfl ?_
  refine z_get dX10_reads_4 fX10_81 ((hC.2.1 0 (by decide)).1 _ (by decide)) rfl ?_
  refine z_iload_n dX10_reads_7 rfl ?_
  refine z_V1 (mi' := mX8_has) dX10_reads_8 lX10_188 nX8_has kX8_has (by decide) (Nat.le_of_ble_eq_true rfl) (Nat.zero_le _) (Nat.zero_le _) ((hC.2.1 0 (by decide)).1 _ (by decide)) rfl rfl ?_
  refine sX8_has (hC.2.1 0 (by decide)) ?_
  refine z_if_eq (tgt := 28) dX10_reads_11 (by decide) (fun c1 => ?_) (fun c1 => ?_)
  · have e11 := zb_0.mp c1
    exact z_throwW (mi := mX10_reads) (cls := "java/lang/IndexOutOfBoundsException") (ic := 196) (i := 22) rfl (by decide) gX10_192 rfl rfl dX10_reads_28 dX10_reads_31 dX10_reads_32 dX10_reads_35 dX10_reads_38 (Nat.le_of_ble_eq_true rfl) (Nat.le_of_ble_eq_true rfl) (Nat.le_of_ble_eq_true rfl) (by rw [zoReads, if_pos e11] at hP; exact hP)
  · have e11 := zb_n.mp c1
    obtain ⟨s, hs, rfl⟩ := zhas (n := S) (by omega) (by rw [← hS]; exact e11)
    refine z_aload_n dX10_reads_14 rfl ?_
    refine z_get dX10_reads_15 fX10_10.r (hC.1 _ (by decide)) rfl ?_
    refine z_get dX10_reads_18 fX10_96 ((hC.2.1 0 (by decide)).1 _ (by decide)) rfl ?_
    refine z_iload_n dX10_reads_21 rfl ?_
    refine z_V1 (mi' := mX2_has) dX10_reads_22 lX10_226 nX2_has kX2_has (by decide) (Nat.le_of_ble_eq_true rfl) (Nat.zero_le _) (Nat.zero_le _) ((hC.2.1 0 (by decide)).1 _ (by decide)) rfl rfl ?_
    refine sX2_has (hC.2.1 0 (by decide)) ?_
    refine z_if_ne (tgt := 39) dX10_reads_25 (by decide) (fun c2 => ?_) (fun c2 => ?_)
    · have e25 := zb_n.mp c2
      obtain ⟨f, hf, rfl⟩ := zhas (n := F) (by omega) (by rw [← hF]; exact e25)
      refine z_aload_n dX10_reads_39 rfl ?_
      refine z_get dX10_reads_40 fX10_10.r (hC.1 _ (by decide)) rfl ?_
      refine z_iload_n dX10_reads_43 rfl ?_
      refine z_iload_n dX10_reads_44 rfl ?_
      refine z_V2 (mi' := mX6_readingAt) dX10_reads_45 lX10_298 nX6_readingAt kX6_readingAt (by decide) (Nat.le_of_ble_eq_true rfl) (Nat.zero_le _) (Nat.zero_le _) ((hC.2.1 0 (by decide)).1 _ (by decide)) rfl rfl ?_
      refine sX6_readingAt (hC.2.1 0 (by decide)) hN (show s < 6 by omega) (show f < 12 by omega) ?_
      exact z_ireturn (mi := mX10_reads) dX10_reads_48 rfl rfl (Nat.zero_le _) (Nat.zero_le _) (by rw [zoReads, if_neg (not_not_intro e11), if_neg (not_not_intro e25), nI_clamp (show s < 2 ^ 31 by omega), nI_clamp (show f < 2 ^ 31 by omega)] at hP; exact hP)
    · have e25 := zb_0.mp c2
      exact z_throwW (mi := mX10_reads) (cls := "java/lang/IndexOutOfBoundsException") (ic := 196) (i := 22) rfl (by decide) gX10_192 rfl rfl dX10_reads_28 dX10_reads_31 dX10_reads_32 dX10_reads_35 dX10_reads_38 (Nat.le_of_ble_eq_true rfl) (Nat.le_of_ble_eq_true rfl) (Nat.le_of_ble_eq_true rfl) (by rw [zoReads, if_neg (not_not_intro e11), if_pos e25] at hP; exact hP)
set_option maxHeartbeats 4000000 in
set_option maxRecDepth 10000 in
theorem sX10_shift {Γ : zG} {d : Nat} {G : zH} {ax : Nat → Nat} {bq m : Nat} {ρ : Nat → zSt} {γ : zSt} (hC : zCls G ax bq m ρ γ) {S F E K : Nat} (hN : zN (ρ 0) S F E K) {Post : zP} {y : Int32} (hP : Post (zoShift (ρ 0) E y) G) : zMX Γ (d + 2) mX10_shift 1 6 [.ref (ax 0), .int y] G Post := by
  refine zMX_of pnX10 rfl (Nat.le_of_ble_eq_true rfl) rfl ?_
  obtain ⟨hS, hS6, hF, hF12, hE, hE4, hK, hK3⟩ := id hN
  refine z_iload_n dX10_shift_0 rfl ?_
  refine z_if_lt (tgt := 11) dX10_shift_1 (by decide) (fun c1 => ?_) (fun c1 => ?_)
  · exact z_throwW (mi := mX10_shift) (cls := "java/lang/IllegalArgumentException") (ic := 225) (i := 26) rfl (by decide) gX10_221 rfl rfl dX10_shift_11 dX10_shift_14 dX10_shift_15 dX10_shift_18 dX10_shift_21 (Nat.le_of_ble_eq_true rfl) (Nat.le_of_ble_eq_true rfl) (Nat.le_of_ble_eq_true rfl) (by rw [zoShift, if_pos (Or.inl c1)] at hP; exact hP)
  · refine z_iload_n dX10_shift_4 rfl ?_
    refine z_sipush (v := 999) dX10_shift_5 (by decide) ?_
    refine z_icmp_le (tgt := 22) dX10_shift_8 (by decide) (fun c2 => ?_) (fun c2 => ?_)
    · refine z_aload_n dX10_shift_22 rfl ?_
      refine z_get dX10_shift_23 fX10_10.r (hC.1 _ (by decide)) rfl ?_
      refine z_get dX10_shift_26 fX10_107 ((hC.2.1 0 (by decide)).1 _ (by decide)) rfl ?_
      refine z_iload_n dX10_shift_29 rfl ?_
      refine z_V1 (mi' := mX1_shiftIn) dX10_shift_30 lX10_303 nX1_shiftIn kX1_shiftIn (by decide) (Nat.le_of_ble_eq_true rfl) (Nat.zero_le _) (Nat.zero_le _) ((hC.2.1 0 (by decide)).1 _ (by decide)) rfl rfl ?_
      refine sX1_shiftIn (hC.2.1 0 (by decide)) hN ?_
      exact z_ireturn (mi := mX10_shift) dX10_shift_33 rfl rfl (Nat.zero_le _) (Nat.zero_le _) (by rw [zoShift, if_neg (fun q => q.elim c1 (Int32.not_lt.mpr c2))] at hP; exact hP)
    · exact z_throwW (mi := mX10_shift) (cls := "java/lang/IllegalArgumentException") (ic := 225) (i := 26) rfl (by decide) gX10_221 rfl rfl dX10_shift_11 dX10_shift_14 dX10_shift_15 dX10_shift_18 dX10_shift_21 (Nat.le_of_ble_eq_true rfl) (Nat.le_of_ble_eq_true rfl) (Nat.le_of_ble_eq_true rfl) (by rw [zoShift, if_pos (Or.inr (Int32.not_le.mp c2))] at hP; exact hP)
set_option maxHeartbeats 4000000 in
set_option maxRecDepth 10000 in
theorem sX10_errorIn {Γ : zG} {d : Nat} {G : zH} {ax : Nat → Nat} {bq m : Nat} {ρ : Nat → zSt} {γ : zSt} (hC : zCls G ax bq m ρ γ) {S F E K : Nat} (hN : zN (ρ 0) S F E K) {Post : zP} {x w : Int32} (hP : Post (zoErrorIn (ρ 0) x w) G) : zMX Γ (d + 2) mX10_errorIn 1 6 [.ref (ax 0), .int x, .int w] G Post := by
  refine zMX_of pnX10 rfl (Nat.le_of_ble_eq_true rfl) rfl ?_
  obtain ⟨hS, hS6, hF, hF12, hE, hE4, hK, hK3⟩ := id hN
  refine z_aload_n dX10_errorIn_0 rfl ?_
  refine z_get dX10_errorIn_1 fX10_10.r (hC.1 _ (by decide)) rfl ?_
  refine z_get dX10_errorIn_4 fX10_81 ((hC.2.1 0 (by decide)).1 _ (by decide)) rfl ?_
  refine z_iload_n dX10_errorIn_7 rfl ?_
  refine z_V1 (mi' := mX8_has) dX10_errorIn_8 lX10_188 nX8_has kX8_has (by decide) (Nat.le_of_ble_eq_true rfl) (Nat.zero_le _) (Nat.zero_le _) ((hC.2.1 0 (by decide)).1 _ (by decide)) rfl rfl ?_
  refine sX8_has (hC.2.1 0 (by decide)) ?_
  refine z_if_ne (tgt := 24) dX10_errorIn_11 (by decide) (fun c1 => ?_) (fun c1 => ?_)
  · have e11 := zb_n.mp c1
    obtain ⟨s, hs, rfl⟩ := zhas (n := S) (by omega) (by rw [← hS]; exact e11)
    refine z_iload_n dX10_errorIn_24 rfl ?_
    refine z_if_lt (tgt := 34) dX10_errorIn_25 (by decide) (fun c2 => ?_) (fun c2 => ?_)
    · exact z_throwW (mi := mX10_errorIn) (cls := "java/lang/IllegalArgumentException") (ic := 225) (i := 27) rfl (by decide) gX10_221 rfl rfl dX10_errorIn_34 dX10_errorIn_37 dX10_errorIn_38 dX10_errorIn_41 dX10_errorIn_44 (Nat.le_of_ble_eq_true rfl) (Nat.le_of_ble_eq_true rfl) (Nat.le_of_ble_eq_true rfl) (by rw [zoErrorIn, if_neg (not_not_intro e11), if_pos (Or.inl c2)] at hP; exact hP)
    · refine z_iload_n dX10_errorIn_28 rfl ?_
      refine z_bipush (v := 60) dX10_errorIn_29 (by decide) ?_
      refine z_icmp_le (tgt := 45) dX10_errorIn_31 (by decide) (fun c3 => ?_) (fun c3 => ?_)
      · obtain ⟨j, hj, rfl⟩ := nI_of c2
        have hj60 := (nI_leI (b := 60) hj (by decide)).mp c3
        refine z_aload_n dX10_errorIn_45 rfl ?_
        refine z_get dX10_errorIn_46 fX10_10.r (hC.1 _ (by decide)) rfl ?_
        refine z_iload_n dX10_errorIn_49 rfl ?_
        refine z_iload_n dX10_errorIn_50 rfl ?_
        refine z_V2 (mi' := mX6_errorAfter) dX10_errorIn_51 lX10_308 nX6_errorAfter kX6_errorAfter (by decide) (Nat.le_of_ble_eq_true rfl) (Nat.zero_le _) (Nat.zero_le _) ((hC.2.1 0 (by decide)).1 _ (by decide)) rfl rfl ?_
        refine sX6_errorAfter (hC.2.1 0 (by decide)) (show s < 6 by omega) (show j < 2147483000 by omega) ?_
        exact z_ireturn (mi := mX10_errorIn) dX10_errorIn_54 rfl rfl (Nat.zero_le _) (Nat.zero_le _) (by rw [zoErrorIn, if_neg (not_not_intro e11), nI_clamp (show s < 2 ^ 31 by omega), if_neg (fun q => q.elim c2 (Int32.not_lt.mpr c3)), nI_clamp hj] at hP; exact hP)
      · exact z_throwW (mi := mX10_errorIn) (cls := "java/lang/IllegalArgumentException") (ic := 225) (i := 27) rfl (by decide) gX10_221 rfl rfl dX10_errorIn_34 dX10_errorIn_37 dX10_errorIn_38 dX10_errorIn_41 dX10_errorIn_44 (Nat.le_of_ble_eq_true rfl) (Nat.le_of_ble_eq_true rfl) (Nat.le_of_ble_eq_true rfl) (by rw [zoErrorIn, if_neg (not_not_intro e11), if_pos (Or.inr (Int32.not_le.mp c3))] at hP; exact hP)
  · have e11 := zb_0.mp c1
    exact z_throw (mi := mX10_errorIn) (cls := "java/lang/IndexOutOfBoundsException") (ic := 196) (i := 16) rfl (by decide) gX10_192 rfl rfl dX10_errorIn_14 dX10_errorIn_17 dX10_errorIn_18 dX10_errorIn_20 dX10_errorIn_23 (Nat.le_of_ble_eq_true rfl) (Nat.le_of_ble_eq_true rfl) (Nat.le_of_ble_eq_true rfl) (by rw [zoErrorIn, if_pos e11] at hP; exact hP)
theorem znI0 {n : Nat} (h : n < 2147483648) : nI n = 0 ↔ n = 0 := nI_eq (b := 0) h (by decide)
set_option maxHeartbeats 4000000 in
set_option maxRecDepth 10000 in
theorem sX10_rises {Γ : zG} {d : Nat} {G : zH} {ax : Nat → Nat} {bq m : Nat} {ρ : Nat → zSt} {γ : zSt} (hC : zCls G ax bq m ρ γ) {S F E K : Nat} (hN : zN (ρ 0) S F E K) {Post : zP} {x : Int32} (hP : Post (zoRises (ρ 0) E F x) G) : zMX Γ (d + 5) mX10_rises 1 6 [.ref (ax 0), .int x] G Post := by
  refine zMX_of pnX10 rfl (Nat.le_of_ble_eq_true rfl) rfl ?_
  obtain ⟨hS, hS6, hF, hF12, hE, hE4, hK, hK3⟩ := id hN
  refine z_aload_n dX10_rises_0 rfl ?_
  refine z_get dX10_rises_1 fX10_10.r (hC.1 _ (by decide)) rfl ?_
  refine z_get dX10_rises_4 fX10_81 ((hC.2.1 0 (by decide)).1 _ (by decide)) rfl ?_
  refine z_iload_n dX10_rises_7 rfl ?_
  refine z_V1 (mi' := mX8_has) dX10_rises_8 lX10_188 nX8_has kX8_has (by decide) (Nat.le_of_ble_eq_true rfl) (Nat.zero_le _) (Nat.zero_le _) ((hC.2.1 0 (by decide)).1 _ (by decide)) rfl rfl ?_
  refine sX8_has (hC.2.1 0 (by decide)) ?_
  refine z_if_ne (tgt := 24) dX10_rises_11 (by decide) (fun c1 => ?_) (fun c1 => ?_)
  · have e11 := zb_n.mp c1
    obtain ⟨s, hs, rfl⟩ := zhas (n := S) (by omega) (by rw [← hS]; exact e11)
    refine z_aload_n dX10_rises_24 rfl ?_
    refine z_get dX10_rises_25 fX10_10.r (hC.1 _ (by decide)) rfl ?_
    refine z_iload_n dX10_rises_28 rfl ?_
    refine z_V1 (mi' := mX6_doubtsOnStone) dX10_rises_29 lX10_218 nX6_doubtsOnStone kX6_doubtsOnStone (by decide) (Nat.le_of_ble_eq_true rfl) (Nat.zero_le _) (Nat.zero_le _) ((hC.2.1 0 (by decide)).1 _ (by decide)) rfl rfl ?_
    refine sX6_doubtsOnStone (hC.2.1 0 (by decide)) hN (show s < 6 by omega) ?_
    refine z_if_ne (tgt := 39) dX10_rises_32 (by decide) (fun c2 => ?_) (fun c2 => ?_)
    · have h8 := zdOn_le (ρ 0) E F s hF12
      have h9 := fun q => c2 ((znI0 (by omega)).mpr q)
      refine z_iconst (v := 0) dX10_rises_39 (by decide) ?_
      exact z_ireturn (mi := mX10_rises) dX10_rises_40 rfl rfl (Nat.zero_le _) (Nat.zero_le _) (by rw [zoRises, if_neg (not_not_intro e11), nI_clamp (show s < 2 ^ 31 by omega), zb_f h9] at hP; exact hP)
    · have h8 := zdOn_le (ρ 0) E F s hF12
      have h9 := (znI0 (by omega)).mp c2
      refine z_iconst (v := 1) dX10_rises_35 (by decide) ?_
      refine z_goto (tgt := 40) dX10_rises_36 (by decide) ?_
      exact z_ireturn (mi := mX10_rises) dX10_rises_40 rfl rfl (Nat.zero_le _) (Nat.zero_le _) (by rw [zoRises, if_neg (not_not_intro e11), nI_clamp (show s < 2 ^ 31 by omega), zb_t h9] at hP; exact hP)
  · have e11 := zb_0.mp c1
    exact z_throw (mi := mX10_rises) (cls := "java/lang/IndexOutOfBoundsException") (ic := 196) (i := 16) rfl (by decide) gX10_192 rfl rfl dX10_rises_14 dX10_rises_17 dX10_rises_18 dX10_rises_20 dX10_rises_23 (Nat.le_of_ble_eq_true rfl) (Nat.le_of_ble_eq_true rfl) (Nat.le_of_ble_eq_true rfl) (by rw [zoRises, if_pos e11] at hP; exact hP)
set_option maxHeartbeats 4000000 in
set_option maxRecDepth 10000 in
theorem sX10_doubts {Γ : zG} {d : Nat} {G : zH} {ax : Nat → Nat} {bq m : Nat} {ρ : Nat → zSt} {γ : zSt} (hC : zCls G ax bq m ρ γ) {S F E K : Nat} (hN : zN (ρ 0) S F E K) {Post : zV}  (hP : Post (some (.int (nI (zsm (zdOn (ρ 0) E F) S)))) G) : zM Γ (d + 6) mX10_doubts 0 0 [.ref (ax 0)] G Post := by
  refine zM_of pnX10 rfl (Nat.le_of_ble_eq_true rfl) rfl ?_
  obtain ⟨hS, hS6, hF, hF12, hE, hE4, hK, hK3⟩ := id hN
  refine z_aload_n dX10_doubts_0 rfl ?_
  refine z_get dX10_doubts_1 fX10_10.r (hC.1 _ (by decide)) rfl ?_
  refine z_V0 (mi' := mX6_doubtsByStones) dX10_doubts_4 lX10_324 nX6_doubtsByStones kX6_doubtsByStones (by decide) (Nat.le_of_ble_eq_true rfl) (Nat.le_refl _) (Nat.le_refl _) ((hC.2.1 0 (by decide)).1 _ (by decide)) rfl rfl ?_
  refine sX6_doubtsByStones (hC.2.1 0 (by decide)) hN ?_
  exact z_ireturn (mi := mX10_doubts) dX10_doubts_7 rfl rfl (Nat.le_refl _) (Nat.le_refl _) (hP)
set_option maxHeartbeats 4000000 in
set_option maxRecDepth 10000 in
theorem sX10_doubtsAgain {Γ : zG} {d : Nat} {G : zH} {ax : Nat → Nat} {bq m : Nat} {ρ : Nat → zSt} {γ : zSt} (hC : zCls G ax bq m ρ γ) {S F E K : Nat} (hN : zN (ρ 0) S F E K) {Post : zV}  (hP : Post (some (.int (nI (zsm (zdOf (ρ 0) E F S) F) / 2))) G) : zM Γ (d + 6) mX10_doubtsAgain 0 0 [.ref (ax 0)] G Post := by
  refine zM_of pnX10 rfl (Nat.le_of_ble_eq_true rfl) rfl ?_
  obtain ⟨hS, hS6, hF, hF12, hE, hE4, hK, hK3⟩ := id hN
  refine z_aload_n dX10_doubtsAgain_0 rfl ?_
  refine z_get dX10_doubtsAgain_1 fX10_10.r (hC.1 _ (by decide)) rfl ?_
  refine z_V0 (mi' := mX6_doubtsByFloods) dX10_doubtsAgain_4 lX10_327 nX6_doubtsByFloods kX6_doubtsByFloods (by decide) (Nat.le_of_ble_eq_true rfl) (Nat.le_refl _) (Nat.le_refl _) ((hC.2.1 0 (by decide)).1 _ (by decide)) rfl rfl ?_
  refine sX6_doubtsByFloods (hC.2.1 0 (by decide)) hN ?_
  exact z_ireturn (mi := mX10_doubtsAgain) dX10_doubtsAgain_7 rfl rfl (Nat.le_refl _) (Nat.le_refl _) (hP)
set_option maxHeartbeats 4000000 in
set_option maxRecDepth 10000 in
theorem sX10_faultPosition {Γ : zG} {d : Nat} {G : zH} {ax : Nat → Nat} {bq m : Nat} {ρ : Nat → zSt} {γ : zSt} (hC : zCls G ax bq m ρ γ) {S F E K : Nat} (hN : zN (ρ 0) S F E K) {Post : zV}  (hP : Post (some (.int (γ 0 1))) G) : zM Γ (d) mX10_faultPosition 0 0 [.ref (ax 0)] G Post := by
  refine zM_of pnX10 rfl (Nat.le_of_ble_eq_true rfl) rfl ?_
  obtain ⟨hS, hS6, hF, hF12, hE, hE4, hK, hK3⟩ := id hN
  refine z_aload_n dX10_faultPosition_0 rfl ?_
  refine z_get dX10_faultPosition_1 fX10_49.r (hC.1 _ (by decide)) rfl ?_
  exact z_ireturn (mi := mX10_faultPosition) dX10_faultPosition_4 rfl rfl (Nat.le_refl _) (Nat.le_refl _) (hP)
theorem zlook2 {w : Int32} (h : ¬ w = 0) (h1 : ¬ w = 1) : Op.lookupswitch.offset [(0, 26), (1, 34)] 42 w.toInt = 42 := by
  rw [lv_osw h (by decide), lv_osw h1 (by decide)]
  rfl
set_option maxHeartbeats 4000000 in
set_option maxRecDepth 10000 in
theorem sX10_reason {Γ : zG} {d : Nat} {G : zH} {ax : Nat → Nat} {bq m : Nat} {ρ : Nat → zSt} {γ : zSt} (hC : zCls G ax bq m ρ γ) {S F E K : Nat} (hN : zN (ρ 0) S F E K) {Post : zP} {w : Int32} (hP : Post (zoReason γ w) G) : zMX Γ (d) mX10_reason 1 6 [.ref (ax 0), .int w] G Post := by
  refine zMX_of pnX10 rfl (Nat.le_of_ble_eq_true rfl) rfl ?_
  obtain ⟨hS, hS6, hF, hF12, hE, hE4, hK, hK3⟩ := id hN
  refine z_iload_n dX10_reason_0 rfl ?_
  refine z_if_lt (tgt := 9) dX10_reason_1 (by decide) (fun c1 => ?_) (fun c1 => ?_)
  · exact z_throwW (mi := mX10_reason) (cls := "java/lang/IllegalArgumentException") (ic := 225) (i := 32) rfl (by decide) gX10_221 rfl rfl dX10_reason_9 dX10_reason_12 dX10_reason_13 dX10_reason_16 dX10_reason_19 (Nat.le_of_ble_eq_true rfl) (Nat.le_of_ble_eq_true rfl) (Nat.le_of_ble_eq_true rfl) (by rw [zoReason, if_pos (Or.inl c1)] at hP; exact hP)
  · refine z_iload_n dX10_reason_4 rfl ?_
    refine z_iconst (v := 2) dX10_reason_5 (by decide) ?_
    refine z_icmp_le (tgt := 20) dX10_reason_6 (by decide) (fun c2 => ?_) (fun c2 => ?_)
    · refine z_aload_n dX10_reason_20 rfl ?_
      refine z_get dX10_reason_21 fX10_38.r (hC.1 _ (by decide)) rfl ?_
      refine z_get dX10_reason_24 fX10_376.r (hC.1 _ (by decide)) rfl ?_
      refine z_if_ne (tgt := 41) dX10_reason_27 (by decide) (fun c3 => ?_) (fun c3 => ?_)
      · refine z_iload_n dX10_reason_41 rfl ?_
        by_cases t0 : w = 0
        · rw [t0]
          refine z_lookup (off := 26) (tgt := 68) dX10_reason_42 (by decide) (by decide) (by decide) ?_
          refine z_aload_n dX10_reason_68 rfl ?_
          refine z_get dX10_reason_69 fX10_38.r (hC.1 _ (by decide)) rfl ?_
          refine z_get dX10_reason_72 fX10_376.r (hC.1 _ (by decide)) rfl ?_
          exact z_ireturn (mi := mX10_reason) dX10_reason_75 rfl rfl (Nat.zero_le _) (Nat.zero_le _) (by rw [zoReason, if_neg (fun q => q.elim c1 (Int32.not_lt.mpr c2)), if_neg c3, if_pos t0] at hP; exact hP)
        by_cases t1 : w = 1
        · rw [t1]
          refine z_lookup (off := 34) (tgt := 76) dX10_reason_42 (by decide) (by decide) (by decide) ?_
          refine z_aload_n dX10_reason_76 rfl ?_
          refine z_get dX10_reason_77 fX10_38.r (hC.1 _ (by decide)) rfl ?_
          refine z_get dX10_reason_80 fX10_381.r (hC.1 _ (by decide)) rfl ?_
          exact z_ireturn (mi := mX10_reason) dX10_reason_83 rfl rfl (Nat.zero_le _) (Nat.zero_le _) (by rw [zoReason, if_neg (fun q => q.elim c1 (Int32.not_lt.mpr c2)), if_neg c3, if_neg t0, if_pos t1] at hP; exact hP)
        refine z_lookup (off := 42) (tgt := 84) dX10_reason_42 (by decide) (zlook2 t0 t1) (by decide) ?_
        refine z_aload_n dX10_reason_84 rfl ?_
        refine z_get dX10_reason_85 fX10_38.r (hC.1 _ (by decide)) rfl ?_
        refine z_get dX10_reason_88 fX10_360.r (hC.1 _ (by decide)) rfl ?_
        exact z_ireturn (mi := mX10_reason) dX10_reason_91 rfl rfl (Nat.zero_le _) (Nat.zero_le _) (by rw [zoReason, if_neg (fun q => q.elim c1 (Int32.not_lt.mpr c2)), if_neg c3, if_neg t0, if_neg t1] at hP; exact hP)
      · exact z_throwN (mi := mX10_reason) (i := 33) rfl rfl rfl dX10_reason_30 dX10_reason_33 (Or.inr ⟨dX10_reason_34, dX10_reason_37, dX10_reason_40⟩) (Nat.le_of_ble_eq_true rfl) (Nat.le_of_ble_eq_true rfl) (Nat.le_of_ble_eq_true rfl) (by rw [zoReason, if_neg (fun q => q.elim c1 (Int32.not_lt.mpr c2)), if_pos c3] at hP; exact hP)
    · exact z_throwW (mi := mX10_reason) (cls := "java/lang/IllegalArgumentException") (ic := 225) (i := 32) rfl (by decide) gX10_221 rfl rfl dX10_reason_9 dX10_reason_12 dX10_reason_13 dX10_reason_16 dX10_reason_19 (Nat.le_of_ble_eq_true rfl) (Nat.le_of_ble_eq_true rfl) (Nat.le_of_ble_eq_true rfl) (by rw [zoReason, if_pos (Or.inr (Int32.not_le.mp c2))] at hP; exact hP)
set_option maxHeartbeats 4000000 in
set_option maxRecDepth 10000 in
theorem sX10_account {Γ : zG} {d : Nat} {G : zH} {ax : Nat → Nat} {bq m : Nat} {ρ : Nat → zSt} {γ : zSt} (hC : zCls G ax bq m ρ γ) {S F E K : Nat} (hN : zN (ρ 0) S F E K) {Post : zP} {w : Int32} (hP : Post (zoAccount (ρ 0) γ E F S w) G) : zMX Γ (d + 6) mX10_account 1 6 [.ref (ax 0), .int w] G Post := by
  refine zMX_of pnX10 rfl (Nat.le_of_ble_eq_true rfl) rfl ?_
  obtain ⟨hS, hS6, hF, hF12, hE, hE4, hK, hK3⟩ := id hN
  refine z_iload_n dX10_account_0 rfl ?_
  by_cases t0 : w = 0
  · rw [t0]
    refine z_tableIn (tgt := 64) dX10_account_1 (by decide) (by decide) rfl (by decide) ?_
    refine z_aload_n dX10_account_64 rfl ?_
    refine z_get dX10_account_65 fX10_10.r (hC.1 _ (by decide)) rfl ?_
    refine z_get dX10_account_68 fX10_417.r ((hC.2.1 0 (by decide)).1 _ (by decide)) rfl ?_
    exact z_ireturn (mi := mX10_account) dX10_account_71 rfl rfl (Nat.zero_le _) (Nat.zero_le _) (by rw [zoAccount, if_pos t0] at hP; exact hP)
  by_cases t1 : w = 1
  · rw [t1]
    refine z_tableIn (tgt := 72) dX10_account_1 (by decide) (by decide) rfl (by decide) ?_
    refine z_aload_n dX10_account_72 rfl ?_
    refine z_get dX10_account_73 fX10_10.r (hC.1 _ (by decide)) rfl ?_
    refine z_get dX10_account_76 fX10_81 ((hC.2.1 0 (by decide)).1 _ (by decide)) rfl ?_
    refine z_get dX10_account_79 fX10_419.r ((hC.2.1 0 (by decide)).1 _ (by decide)) rfl ?_
    exact z_ireturn (mi := mX10_account) dX10_account_82 rfl rfl (Nat.zero_le _) (Nat.zero_le _) (by rw [zoAccount, if_neg t0, if_pos t1] at hP; exact hP)
  by_cases t2 : w = 2
  · rw [t2]
    refine z_tableIn (tgt := 83) dX10_account_1 (by decide) (by decide) rfl (by decide) ?_
    refine z_aload_n dX10_account_83 rfl ?_
    refine z_get dX10_account_84 fX10_10.r (hC.1 _ (by decide)) rfl ?_
    refine z_get dX10_account_87 fX10_96 ((hC.2.1 0 (by decide)).1 _ (by decide)) rfl ?_
    refine z_get dX10_account_90 fX10_311.r ((hC.2.1 0 (by decide)).1 _ (by decide)) rfl ?_
    exact z_ireturn (mi := mX10_account) dX10_account_93 rfl rfl (Nat.zero_le _) (Nat.zero_le _) (by rw [zoAccount, if_neg t0, if_neg t1, if_pos t2] at hP; exact hP)
  by_cases t3 : w = 3
  · rw [t3]
    refine z_tableIn (tgt := 94) dX10_account_1 (by decide) (by decide) rfl (by decide) ?_
    refine z_aload_n dX10_account_94 rfl ?_
    refine z_get dX10_account_95 fX10_10.r (hC.1 _ (by decide)) rfl ?_
    refine z_get dX10_account_98 fX10_107 ((hC.2.1 0 (by decide)).1 _ (by decide)) rfl ?_
    refine z_get dX10_account_101 fX10_420.r ((hC.2.1 0 (by decide)).1 _ (by decide)) rfl ?_
    exact z_ireturn (mi := mX10_account) dX10_account_104 rfl rfl (Nat.zero_le _) (Nat.zero_le _) (by rw [zoAccount, if_neg t0, if_neg t1, if_neg t2, if_pos t3] at hP; exact hP)
  by_cases t4 : w = 4
  · rw [t4]
    refine z_tableIn (tgt := 105) dX10_account_1 (by decide) (by decide) rfl (by decide) ?_
    refine z_aload_n dX10_account_105 rfl ?_
    refine z_get dX10_account_106 fX10_10.r (hC.1 _ (by decide)) rfl ?_
    refine z_get dX10_account_109 fX10_123 ((hC.2.1 0 (by decide)).1 _ (by decide)) rfl ?_
    refine z_get dX10_account_112 fX10_411.r ((hC.2.1 0 (by decide)).1 _ (by decide)) rfl ?_
    exact z_ireturn (mi := mX10_account) dX10_account_115 rfl rfl (Nat.zero_le _) (Nat.zero_le _) (by rw [zoAccount, if_neg t0, if_neg t1, if_neg t2, if_neg t3, if_pos t4] at hP; exact hP)
  by_cases t5 : w = 5
  · rw [t5]
    refine z_tableIn (tgt := 116) dX10_account_1 (by decide) (by decide) rfl (by decide) ?_
    refine z_aload_n dX10_account_116 rfl ?_
    refine z_get dX10_account_117 fX10_10.r (hC.1 _ (by decide)) rfl ?_
    refine z_get dX10_account_120 fX10_145 ((hC.2.1 0 (by decide)).1 _ (by decide)) rfl ?_
    refine z_V0 (mi' := mX4_countAll) dX10_account_123 lX10_421 nX4_countAll kX4_countAll (by decide) (Nat.le_of_ble_eq_true rfl) (Nat.zero_le _) (Nat.zero_le _) ((hC.2.1 0 (by decide)).1 _ (by decide)) rfl rfl ?_
    refine sX4_countAll (hC.2.1 0 (by decide)) ?_
    exact z_ireturn (mi := mX10_account) dX10_account_126 rfl rfl (Nat.zero_le _) (Nat.zero_le _) (by rw [zoAccount, if_neg t0, if_neg t1, if_neg t2, if_neg t3, if_neg t4, if_pos t5] at hP; exact hP)
  by_cases t6 : w = 6
  · rw [t6]
    refine z_tableIn (tgt := 127) dX10_account_1 (by decide) (by decide) rfl (by decide) ?_
    refine z_aload_n dX10_account_127 rfl ?_
    refine z_get dX10_account_128 fX10_10.r (hC.1 _ (by decide)) rfl ?_
    refine z_get dX10_account_131 fX10_145 ((hC.2.1 0 (by decide)).1 _ (by decide)) rfl ?_
    refine z_get dX10_account_134 fX10_424.r ((hC.2.1 0 (by decide)).1 _ (by decide)) rfl ?_
    exact z_ireturn (mi := mX10_account) dX10_account_137 rfl rfl (Nat.zero_le _) (Nat.zero_le _) (by rw [zoAccount, if_neg t0, if_neg t1, if_neg t2, if_neg t3, if_neg t4, if_neg t5, if_pos t6] at hP; exact hP)
  by_cases t7 : w = 7
  · rw [t7]
    refine z_tableIn (tgt := 138) dX10_account_1 (by decide) (by decide) rfl (by decide) ?_
    refine z_aload_n dX10_account_138 rfl ?_
    refine z_get dX10_account_139 fX10_10.r (hC.1 _ (by decide)) rfl ?_
    refine z_get dX10_account_142 fX10_145 ((hC.2.1 0 (by decide)).1 _ (by decide)) rfl ?_
    refine z_get dX10_account_145 fX10_427.r ((hC.2.1 0 (by decide)).1 _ (by decide)) rfl ?_
    exact z_ireturn (mi := mX10_account) dX10_account_148 rfl rfl (Nat.zero_le _) (Nat.zero_le _) (by rw [zoAccount, if_neg t0, if_neg t1, if_neg t2, if_neg t3, if_neg t4, if_neg t5, if_neg t6, if_pos t7] at hP; exact hP)
  by_cases t8 : w = 8
  · rw [t8]
    refine z_tableIn (tgt := 149) dX10_account_1 (by decide) (by decide) rfl (by decide) ?_
    refine z_aload_n dX10_account_149 rfl ?_
    refine z_get dX10_account_150 fX10_10.r (hC.1 _ (by decide)) rfl ?_
    refine z_get dX10_account_153 fX10_145 ((hC.2.1 0 (by decide)).1 _ (by decide)) rfl ?_
    refine z_get dX10_account_156 fX10_430.r ((hC.2.1 0 (by decide)).1 _ (by decide)) rfl ?_
    exact z_ireturn (mi := mX10_account) dX10_account_159 rfl rfl (Nat.zero_le _) (Nat.zero_le _) (by rw [zoAccount, if_neg t0, if_neg t1, if_neg t2, if_neg t3, if_neg t4, if_neg t5, if_neg t6, if_neg t7, if_pos t8] at hP; exact hP)
  by_cases t9 : w = 9
  · rw [t9]
    refine z_tableIn (tgt := 160) dX10_account_1 (by decide) (by decide) rfl (by decide) ?_
    refine z_aload_n dX10_account_160 rfl ?_
    refine z_get dX10_account_161 fX10_10.r (hC.1 _ (by decide)) rfl ?_
    refine z_V0 (mi' := mX6_stonesInDoubt) dX10_account_164 lX10_433 nX6_stonesInDoubt kX6_stonesInDoubt (by decide) (Nat.le_of_ble_eq_true rfl) (Nat.zero_le _) (Nat.zero_le _) ((hC.2.1 0 (by decide)).1 _ (by decide)) rfl rfl ?_
    refine sX6_stonesInDoubt (hC.2.1 0 (by decide)) hN ?_
    exact z_ireturn (mi := mX10_account) dX10_account_167 rfl rfl (Nat.zero_le _) (Nat.zero_le _) (by rw [zoAccount, if_neg t0, if_neg t1, if_neg t2, if_neg t3, if_neg t4, if_neg t5, if_neg t6, if_neg t7, if_neg t8, if_pos t9] at hP; exact hP)
  by_cases t10 : w = 10
  · rw [t10]
    refine z_tableIn (tgt := 168) dX10_account_1 (by decide) (by decide) rfl (by decide) ?_
    refine z_aload_n dX10_account_168 rfl ?_
    refine z_get dX10_account_169 fX10_31.r (hC.1 _ (by decide)) rfl ?_
    refine z_get dX10_account_172 fX10_436.r (hC.1 _ (by decide)) rfl ?_
    exact z_ireturn (mi := mX10_account) dX10_account_175 rfl rfl (Nat.zero_le _) (Nat.zero_le _) (by rw [zoAccount, if_neg t0, if_neg t1, if_neg t2, if_neg t3, if_neg t4, if_neg t5, if_neg t6, if_neg t7, if_neg t8, if_neg t9, if_pos t10] at hP; exact hP)
  by_cases t11 : w = 11
  · rw [t11]
    refine z_tableIn (tgt := 176) dX10_account_1 (by decide) (by decide) rfl (by decide) ?_
    refine z_aload_n dX10_account_176 rfl ?_
    refine z_get dX10_account_177 fX10_45.r (hC.1 _ (by decide)) rfl ?_
    refine z_get dX10_account_180 fX10_437.r (hC.1 _ (by decide)) rfl ?_
    exact z_ireturn (mi := mX10_account) dX10_account_183 rfl rfl (Nat.zero_le _) (Nat.zero_le _) (by rw [zoAccount, if_neg t0, if_neg t1, if_neg t2, if_neg t3, if_neg t4, if_neg t5, if_neg t6, if_neg t7, if_neg t8, if_neg t9, if_neg t10, if_pos t11] at hP; exact hP)
  refine z_tableOut (tgt := 184) dX10_account_1 (by have u0 := lv_neT (a := 0) t0 (by decide); have u1 := lv_neT (a := 1) t1 (by decide); have u2 := lv_neT (a := 2) t2 (by decide); have u3 := lv_neT (a := 3) t3 (by decide); have u4 := lv_neT (a := 4) t4 (by decide); have u5 := lv_neT (a := 5) t5 (by decide); have u6 := lv_neT (a := 6) t6 (by decide); have u7 := lv_neT (a := 7) t7 (by decide); have u8 := lv_neT (a := 8) t8 (by decide); have u9 := lv_neT (a := 9) t9 (by decide); have u10 := lv_neT (a := 10) t10 (by decide); have u11 := lv_neT (a := 11) t11 (by decide); omega) (by decide) ?_
  exact z_throwW (mi := mX10_account) (cls := "java/lang/IllegalArgumentException") (ic := 225) (i := 37) rfl (by decide) gX10_221 rfl rfl dX10_account_184 dX10_account_187 dX10_account_188 dX10_account_191 dX10_account_194 (Nat.le_of_ble_eq_true rfl) (Nat.le_of_ble_eq_true rfl) (Nat.le_of_ble_eq_true rfl) (by rw [zoAccount, if_neg t0, if_neg t1, if_neg t2, if_neg t3, if_neg t4, if_neg t5, if_neg t6, if_neg t7, if_neg t8, if_neg t9, if_neg t10, if_neg t11] at hP; exact hP)
set_option maxHeartbeats 4000000 in
set_option maxRecDepth 10000 in
theorem sX10_undo {Γ : zG} {d : Nat} {G : zH} {ax : Nat → Nat} {bq m : Nat} {ρ : Nat → zSt} {γ : zSt} (hC : zCls G ax bq m ρ γ) {nx ct : Nat} (hX : zXN γ nx ct) {Post : zP} (hO : 0 < ct → ∀ G1, zCls G1 ax bq m (zrv ρ 0 (ρ (3 + zlast nx))) (zu (zu γ 0 2 (nI (zlast nx))) 0 3 (nI (ct - 1))) → zFC G G1 ax bq → Post (zvi (nI (ct - 1))) G1) (hE9 : ct = 0 → Post (.inr zIS) G) : zMX Γ (d + 4) mX10_undo 1 6 [.ref (ax 0)] G Post := by
  refine zMX_of pnX10 rfl (Nat.le_of_ble_eq_true rfl) rfl ?_
  have hX1 := hX
  obtain ⟨hn, hn8, hc, hc8⟩ := hX1
  refine z_aload_n dX10_undo_0 rfl ?_
  refine z_get dX10_undo_1 fX10_31.r (hC.1 _ (by decide)) rfl ?_
  refine z_get dX10_undo_4 fX10_436.r (hC.1 _ (by decide)) rfl ?_
  refine z_if_ne (tgt := 21) dX10_undo_7 (by decide) (fun c1 => ?_) (fun c1 => ?_)
  · have h0 : 0 < ct := Nat.pos_of_ne_zero (fun q => c1 (by rw [hc, q]; rfl))
    refine z_aload_n dX10_undo_21 rfl ?_
    refine z_get dX10_undo_22 fX10_31.r (hC.1 _ (by decide)) rfl ?_
    refine z_aload_n dX10_undo_25 rfl ?_
    refine z_get dX10_undo_26 fX10_10.r (hC.1 _ (by decide)) rfl ?_
    refine z_V1 (mi' := mX3_takeBack) dX10_undo_29 lX10_443 nX3_takeBack kX3_takeBack (by decide) (Nat.le_of_ble_eq_true rfl) (Nat.zero_le _) (Nat.zero_le _) (hC.1 _ (by decide)) rfl rfl ?_
    refine sX3_takeBack hC hX h0 (fun _ hC hF => ?_)
    refine z_aload_n dX10_undo_32 rfl ?_
    refine z_get dX10_undo_33 fX10_31.r (hC.1 _ (by decide)) rfl ?_
    refine z_get dX10_undo_36 fX10_436.r (hC.1 _ (by decide)) rfl ?_
    exact z_ireturn (mi := mX10_undo) dX10_undo_39 rfl rfl (Nat.zero_le _) (Nat.zero_le _) (hO h0 _ hC hF)
  · have h0 : ct = 0 := (znI0 (by omega)).mp (by rw [← hc]; exact c1)
    exact z_throwW (mi := mX10_undo) (cls := "java/lang/IllegalStateException") (ic := 338) (i := 38) rfl (by decide) gX10_334 rfl rfl dX10_undo_10 dX10_undo_13 dX10_undo_14 dX10_undo_17 dX10_undo_20 (Nat.le_of_ble_eq_true rfl) (Nat.le_of_ble_eq_true rfl) (Nat.le_of_ble_eq_true rfl) (hE9 h0)
set_option maxHeartbeats 4000000 in
set_option maxRecDepth 10000 in
theorem sX10_restore {Γ : zG} {d : Nat} {G : zH} {ax : Nat → Nat} {bq m : Nat} {ρ : Nat → zSt} {γ : zSt} (hC : zCls G ax bq m ρ γ) {Post : zP} (hO : ¬ γ 0 0 = 0 → ∀ G1, zCls G1 ax bq m (zrv ρ 0 (ρ 2)) (zu γ 0 3 0) → zFC G G1 ax bq → Post (zvi (ρ 2 13 0)) G1) (hE9 : γ 0 0 = 0 → Post (.inr zIS) G) : zMX Γ (d + 3) mX10_restore 1 6 [.ref (ax 0)] G Post := by
  refine zMX_of pnX10 rfl (Nat.le_of_ble_eq_true rfl) rfl ?_
  have hQ : zFC G G ax bq := zFC.rf
  refine z_aload_n dX10_restore_0 rfl ?_
  refine z_get dX10_restore_1 fX10_22.r (hC.1 _ (by decide)) rfl ?_
  refine z_if_ne (tgt := 18) dX10_restore_4 (by decide) (fun c1 => ?_) (fun c1 => ?_)
  · refine z_aload_n dX10_restore_18 rfl ?_
    refine z_get dX10_restore_19 fX10_10.r (hC.1 _ (by decide)) rfl ?_
    refine z_aload_n dX10_restore_22 rfl ?_
    refine z_get dX10_restore_23 fX10_19.r (hC.1 _ (by decide)) rfl ?_
    refine z_V1 (mi' := mX6_copyFrom) dX10_restore_26 lX10_351 nX6_copyFrom kX6_copyFrom (by decide) (Nat.le_of_ble_eq_true rfl) (Nat.zero_le _) (Nat.zero_le _) ((hC.2.1 0 (by decide)).1 _ (by decide)) rfl rfl ?_
    refine sX6_copyFrom (hC.2.1 0 (by decide)) (hC.2.1 2 (by decide)) (zar_dis hC.2.2.1 (by decide) (by decide) (by decide)) (fun _ h1 _ hF => ?_)
    have hC := hC.riv (by decide) h1 hF
    have hQ := hQ.tr (zFC.frm (by decide) hF)
    refine z_aload_n dX10_restore_29 rfl ?_
    refine z_get dX10_restore_30 fX10_31.r (hC.1 _ (by decide)) rfl ?_
    refine z_V0 (mi' := mX3_forget) dX10_restore_33 lX10_448 nX3_forget kX3_forget (by decide) (Nat.le_of_ble_eq_true rfl) (Nat.zero_le _) (Nat.zero_le _) (hC.1 _ (by decide)) rfl rfl ?_
    refine sX3_forget hC (fun _ hC hF => ?_)
    have hQ := hQ.tr hF
    refine z_aload_n dX10_restore_36 rfl ?_
    refine z_get dX10_restore_37 fX10_10.r (hC.1 _ (by decide)) rfl ?_
    refine z_get dX10_restore_40 fX10_417.r ((hC.2.1 0 (by decide)).1 _ (by decide)) rfl ?_
    exact z_ireturn (mi := mX10_restore) dX10_restore_43 rfl rfl (Nat.zero_le _) (Nat.zero_le _) (hO c1 _ hC hQ)
  · exact z_throwW (mi := mX10_restore) (cls := "java/lang/IllegalStateException") (ic := 338) (i := 39) rfl (by decide) gX10_334 rfl rfl dX10_restore_7 dX10_restore_10 dX10_restore_11 dX10_restore_14 dX10_restore_17 (Nat.le_of_ble_eq_true rfl) (Nat.le_of_ble_eq_true rfl) (Nat.le_of_ble_eq_true rfl) (hE9 c1)
set_option maxHeartbeats 4000000 in
set_option maxRecDepth 10000 in
theorem sX10_save {Γ : zG} {d : Nat} {G : zH} {ax : Nat → Nat} {bq m : Nat} {ρ : Nat → zSt} {γ : zSt} (hC : zCls G ax bq m ρ γ) {Post : zV} (hP : ∀ G1, zCls G1 ax bq m (zrv ρ 2 (ρ 0)) (zu γ 0 0 1) → zFC G G1 ax bq → Post (some (.int (ρ 0 13 0))) G1) : zM Γ (d + 3) mX10_save 0 0 [.ref (ax 0)] G Post := by
  refine zM_of pnX10 rfl (Nat.le_of_ble_eq_true rfl) rfl ?_
  have hQ : zFC G G ax bq := zFC.rf
  refine z_aload_n dX10_save_0 rfl ?_
  refine z_get dX10_save_1 fX10_19.r (hC.1 _ (by decide)) rfl ?_
  refine z_aload_n dX10_save_4 rfl ?_
  refine z_get dX10_save_5 fX10_10.r (hC.1 _ (by decide)) rfl ?_
  refine z_V1 (mi' := mX6_copyFrom) dX10_save_8 lX10_351 nX6_copyFrom kX6_copyFrom (by decide) (Nat.le_of_ble_eq_true rfl) (Nat.le_refl _) (Nat.le_refl _) ((hC.2.1 2 (by decide)).1 0 (by decide)) rfl rfl ?_
  refine sX6_copyFrom (hC.2.1 2 (by decide)) (hC.2.1 0 (by decide)) (zar_dis hC.2.2.1 (by decide) (by decide) (by decide)) (fun _ h1 _ hF => ?_)
  have hC := hC.riv (by decide) h1 hF
  have hQ := hQ.tr (zFC.frm (by decide) hF)
  refine z_aload_n dX10_save_11 rfl ?_
  refine z_iconst (v := 1) dX10_save_12 (by decide) ?_
  refine z_put dX10_save_13 fX10_22 (hC.1 _ (by decide)) rfl rfl (Nat.le_of_ble_eq_true rfl) ?_
  refine z_cnum hC 0 1 (by decide) rfl (fun _ hC hF => ?_)
  have hQ := hQ.tr hF
  refine z_aload_n dX10_save_16 rfl ?_
  refine z_get dX10_save_17 fX10_10.r (hC.1 _ (by decide)) rfl ?_
  refine z_get dX10_save_20 fX10_417.r ((hC.2.1 0 (by decide)).1 _ (by decide)) rfl ?_
  exact z_ireturn (mi := mX10_save) dX10_save_23 rfl rfl (Nat.le_refl _) (Nat.le_refl _) (hP _ hC hQ)
set_option maxHeartbeats 4000000 in
set_option maxRecDepth 10000 in
theorem sX9_isFull {Γ : zG} {d : Nat} {G : zH} {ax : Nat → Nat} {bq m : Nat} {ρ : Nat → zSt} {γ : zSt} (hC : zCls G ax bq m ρ γ) {Post : zV} {L : Nat} (hL : γ 0 7 = nI L) (hL60 : L ≤ 60) (hP : Post (some (.int (zb (60 ≤ L)))) G) : zM Γ d mX9_isFull 0 0 [.ref (ax 4)] G Post := by
  refine zM_of pnX9 rfl (Nat.le_of_ble_eq_true rfl) rfl ?_
  refine z_aload_n dX9_isFull_0 rfl ?_
  refine z_get dX9_isFull_1 fX9_13.r (hC.1 _ (by decide)) rfl ?_
  rw [hL]
  refine z_bipush (v := 60) dX9_isFull_4 (by decide) ?_
  refine z_icmp_lt (tgt := 13) dX9_isFull_6 (by decide) (fun c1 => ?_) (fun c1 => ?_)
  · refine z_iconst (v := 0) dX9_isFull_13 (by decide) ?_
    exact z_ireturn (mi := mX9_isFull) dX9_isFull_14 rfl rfl (Nat.le_refl _) (Nat.le_refl _) (by rw [zb_f (by have := (nI_ltI (b := 60) (by omega) (by decide)).mp c1; omega)] at hP; exact hP)
  · refine z_iconst (v := 1) dX9_isFull_9 (by decide) ?_
    refine z_goto (tgt := 14) dX9_isFull_10 (by decide) ?_
    exact z_ireturn (mi := mX9_isFull) dX9_isFull_14 rfl rfl (Nat.le_refl _) (Nat.le_refl _) (by rw [zb_t (by have := Nat.le_of_not_lt fun q => c1 ((nI_ltI (b := 60) (by omega) (by decide)).mpr q); omega)] at hP; exact hP)
set_option maxHeartbeats 4000000 in
set_option maxRecDepth 10000 in
theorem sX9_empty {Γ : zG} {d : Nat} {G : zH} {ax : Nat → Nat} {bq m : Nat} {ρ : Nat → zSt} {γ : zSt} (hC : zCls G ax bq m ρ γ) {Post : zV} (hP : ∀ G1, zCls G1 ax bq m ρ (zu γ 0 7 0) → zFC G G1 ax bq → Post none G1) : zM Γ d mX9_empty 0 0 [.ref (ax 4)] G Post := by
  refine zM_of pnX9 rfl (Nat.le_of_ble_eq_true rfl) rfl ?_
  refine z_aload_n dX9_empty_0 rfl ?_
  refine z_iconst (v := 0) dX9_empty_1 (by decide) ?_
  refine z_put dX9_empty_2 fX9_13 (hC.1 _ (by decide)) rfl rfl (Nat.le_of_ble_eq_true rfl) ?_
  refine z_cnum hC 7 0 (by decide) rfl (fun _ hC hF => ?_)
  exact z_vreturn (mi := mX9_empty) dX9_empty_5 rfl (Nat.le_refl _) (Nat.le_refl _) (hP _ hC hF)
set_option maxHeartbeats 4000000 in
set_option maxRecDepth 10000 in
theorem sX9_put {Γ : zG} {d : Nat} {G : zH} {ax : Nat → Nat} {bq m : Nat} {ρ : Nat → zSt} {γ : zSt} (hC : zCls G ax bq m ρ γ) {Post : zV} {L : Nat} (hL : γ 0 7 = nI L) (hL60 : L ≤ 60) {x : Int32} (h59 : L < 60) (hP : ∀ G1, zCls G1 ax bq m ρ (zu (zu γ 1 L (vp_nar .char x)) 0 7 (nI (L + 1))) → zFC G G1 ax bq → Post (some (.int (nI (L + 1)))) G1) : zM Γ d mX9_put 0 0 [.ref (ax 4), .int x] G Post := by
  refine zM_of pnX9 rfl (Nat.le_of_ble_eq_true rfl) rfl ?_
  have hQ : zFC G G ax bq := zFC.rf
  refine z_aload_n dX9_put_0 rfl ?_
  refine z_get dX9_put_1 fX9_13.r (hC.1 _ (by decide)) rfl ?_
  rw [hL]
  refine z_if_lt (tgt := 39) dX9_put_4 (by decide) (fun c1 => ?_) (fun c1 => ?_)
  · exact absurd c1 (nI_pos (by omega))
  · refine z_aload_n dX9_put_7 rfl ?_
    refine z_get dX9_put_8 fX9_13.r (hC.1 _ (by decide)) rfl ?_
    refine z_aload_n dX9_put_11 rfl ?_
    refine z_get dX9_put_12 fX9_9.r (hC.1 _ (by decide)) rfl ?_
    refine z_alen (v := nI 60) dX9_put_15 (hC.1 5 (by decide)) rfl ?_
    rw [hL]
    refine z_icmp_ge (tgt := 39) dX9_put_16 (by decide) (fun c2 => ?_) (fun c2 => ?_)
    · exact absurd c2 (nI_ge h59 (by decide))
    · refine z_aload_n dX9_put_19 rfl ?_
      refine z_get dX9_put_20 fX9_9.r (hC.1 _ (by decide)) rfl ?_
      refine z_aload_n dX9_put_23 rfl ?_
      refine z_get dX9_put_24 fX9_13.r (hC.1 _ (by decide)) rfl ?_
      rw [hL]
      refine z_iload_n dX9_put_27 rfl ?_
      refine z_cast dX9_put_28 (hC.1 5 (by decide)) (vp_in_nI h59 (by decide)) ?_
      rw [nI_clamp (by omega)]
      refine z_carr hC 1 L (vp_nar .char x) (by decide) (by decide) (by simp only [zclE, zu_row]) (fun _ hC hF => ?_)
      have hQ := hQ.tr hF
      refine z_aload_n dX9_put_29 rfl ?_
      refine z_dup dX9_put_30 rfl ?_
      refine z_get dX9_put_31 fX9_13.r (hC.1 _ (by decide)) rfl ?_
      refine z_iconst (v := 1) dX9_put_34 (by decide) ?_
      refine z_iadd dX9_put_35 ?_
      rw [show zu γ 1 L (vp_nar .char x) 0 7 + 1 = nI (L + 1) by rw [zu_r (by decide), hL, nI_1]]
      refine z_put dX9_put_36 fX9_13 (hC.1 _ (by decide)) rfl rfl (Nat.le_of_ble_eq_true rfl) ?_
      refine z_cnum hC 7 (nI (L + 1)) (by decide) rfl (fun _ hC hF => ?_)
      have hQ := hQ.tr hF
      refine z_aload_n dX9_put_39 rfl ?_
      refine z_get dX9_put_40 fX9_13.r (hC.1 _ (by decide)) rfl ?_
      exact z_ireturn (mi := mX9_put) dX9_put_43 rfl rfl (Nat.le_refl _) (Nat.le_refl _) (hP _ hC hQ)
set_option maxHeartbeats 4000000 in
set_option maxRecDepth 10000 in
theorem sX10_append {Γ : zG} {d : Nat} {G : zH} {ax : Nat → Nat} {bq m : Nat} {ρ : Nat → zSt} {γ : zSt} (hC : zCls G ax bq m ρ γ) {Post : zP} {L : Nat} (hL : γ 0 7 = nI L) (hL60 : L ≤ 60) {x : Int32} (hO : L < 60 → ∀ G1, zCls G1 ax bq m ρ (zu (zu γ 1 L (vp_nar .char x)) 0 7 (nI (L + 1))) → zFC G G1 ax bq → Post (zvi (nI (L + 1))) G1) (hE9 : L = 60 → Post (.inr zIS) G) : zMX Γ (d + 1) mX10_append 1 6 [.ref (ax 0), .int x] G Post := by
  refine zMX_of pnX10 rfl (Nat.le_of_ble_eq_true rfl) rfl ?_
  refine z_aload_n dX10_append_0 rfl ?_
  refine z_get dX10_append_1 fX10_45.r (hC.1 _ (by decide)) rfl ?_
  refine z_V0 (mi' := mX9_isFull) dX10_append_4 lX10_330 nX9_isFull kX9_isFull (by decide) (Nat.le_of_ble_eq_true rfl) (Nat.zero_le _) (Nat.zero_le _) (hC.1 _ (by decide)) rfl rfl ?_
  refine sX9_isFull hC hL hL60 ?_
  refine z_if_eq (tgt := 21) dX10_append_7 (by decide) (fun c1 => ?_) (fun c1 => ?_)
  · have e7 := zb_0.mp c1
    refine z_aload_n dX10_append_21 rfl ?_
    refine z_get dX10_append_22 fX10_45.r (hC.1 _ (by decide)) rfl ?_
    refine z_iload_n dX10_append_25 rfl ?_
    refine z_V1 (mi' := mX9_put) dX10_append_26 lX10_339 nX9_put kX9_put (by decide) (Nat.le_of_ble_eq_true rfl) (Nat.zero_le _) (Nat.zero_le _) (hC.1 _ (by decide)) rfl rfl ?_
    refine sX9_put hC hL hL60 (by omega) (fun _ hC hF => ?_)
    exact z_ireturn (mi := mX10_append) dX10_append_29 rfl rfl (Nat.zero_le _) (Nat.zero_le _) (hO (by omega) _ hC hF)
  · have e7 := zb_n.mp c1
    exact z_throwW (mi := mX10_append) (cls := "java/lang/IllegalStateException") (ic := 338) (i := 29) rfl (by decide) gX10_334 rfl rfl dX10_append_10 dX10_append_13 dX10_append_14 dX10_append_17 dX10_append_20 (Nat.le_of_ble_eq_true rfl) (Nat.le_of_ble_eq_true rfl) (Nat.le_of_ble_eq_true rfl) (hE9 (by omega))
