set_option maxHeartbeats 4000000 in
set_option maxRecDepth 10000 in
theorem sX6_refusesStone {Γ : zG} {d : Nat} {G : zH} {Post : zV} {ad : Nat → Nat} {σ : zSt} (hR : zRiv G ad σ) {S F E K : Nat} (hN : zN σ S F E K) {rf : Nat} {ra rb rc : Value} (hF : G rf = some (.inr (5, [ra, rb, rc]))) {p b h : Int32}  (hO : zrSt σ p b h = none → Post (some (.int 0)) G) (hX : ∀ rn rd, zrSt σ p b h = some (rn, rd) → Post (some (.int 1)) (zset G rf (.inr (5, [.int rn, .int rd, .int 0])))) : zM Γ (d + 1) mX6_refusesStone 0 0 [.ref (ad 0), .int p, .int b, .int h, .ref rf] G Post := by
  refine zM_of pnX6 rfl (Nat.le_of_ble_eq_true rfl) rfl ?_
  obtain ⟨hS, hS6, hFc, hF12, hE, hE4, hK, hK3⟩ := id hN
  refine z_iload_n dX6_refusesStone_0 rfl ?_
  refine z_iconst (v := 0) dX6_refusesStone_1 (by decide) ?_
  refine z_bipush (v := 50) dX6_refusesStone_2 (by decide) ?_
  refine z_S3 (mi' := mX6_isOutside) dX6_refusesStone_4 lX6_64 nX6_isOutside kX6_isOutside (by decide) (Nat.le_of_ble_eq_true rfl) (Nat.le_refl _) (Nat.le_refl _) ?_
  refine sX6_isOutside ?_
  refine z_if_ne (tgt := 29) dX6_refusesStone_7 (by decide) (fun c1 => ?_) (fun c1 => ?_)
  · have e7 := zb_n.mp c1
    refine z_aload dX6_refusesStone_29 rfl ?_
    refine z_iconst (v := 1) dX6_refusesStone_31 (by decide) ?_
    refine z_iconst (v := 0) dX6_refusesStone_32 (by decide) ?_
    refine z_V2 (mi' := mX5_give) dX6_refusesStone_33 lX6_70 nX5_give kX5_give (by decide) (Nat.le_of_ble_eq_true rfl) (Nat.le_refl _) (Nat.le_refl _) hF rfl rfl ?_
    refine sX5_give hF ?_
    exact z_ireturn (mi := mX6_refusesStone) dX6_refusesStone_36 rfl rfl (Nat.le_refl _) (Nat.le_refl _) (hX _ _ (by rw [zrSt, if_pos (Or.inl e7)]))
  · have e7 := zb_0.mp c1
    refine z_iload_n dX6_refusesStone_10 rfl ?_
    refine z_iconst (v := 0) dX6_refusesStone_11 (by decide) ?_
    refine z_bipush (v := 30) dX6_refusesStone_12 (by decide) ?_
    refine z_S3 (mi' := mX6_isOutside) dX6_refusesStone_14 lX6_64 nX6_isOutside kX6_isOutside (by decide) (Nat.le_of_ble_eq_true rfl) (Nat.le_refl _) (Nat.le_refl _) ?_
    refine sX6_isOutside ?_
    refine z_if_ne (tgt := 29) dX6_refusesStone_17 (by decide) (fun c2 => ?_) (fun c2 => ?_)
    · have e17 := zb_n.mp c2
      refine z_aload dX6_refusesStone_29 rfl ?_
      refine z_iconst (v := 1) dX6_refusesStone_31 (by decide) ?_
      refine z_iconst (v := 0) dX6_refusesStone_32 (by decide) ?_
      refine z_V2 (mi' := mX5_give) dX6_refusesStone_33 lX6_70 nX5_give kX5_give (by decide) (Nat.le_of_ble_eq_true rfl) (Nat.le_refl _) (Nat.le_refl _) hF rfl rfl ?_
      refine sX5_give hF ?_
      exact z_ireturn (mi := mX6_refusesStone) dX6_refusesStone_36 rfl rfl (Nat.le_refl _) (Nat.le_refl _) (hX _ _ (by rw [zrSt, if_pos (Or.inr (Or.inl e17))]))
    · have e17 := zb_0.mp c2
      refine z_iload_n dX6_refusesStone_20 rfl ?_
      refine z_iconst (v := 1) dX6_refusesStone_21 (by decide) ?_
      refine z_iconst (v := 5) dX6_refusesStone_22 (by decide) ?_
      refine z_S3 (mi' := mX6_isOutside) dX6_refusesStone_23 lX6_64 nX6_isOutside kX6_isOutside (by decide) (Nat.le_of_ble_eq_true rfl) (Nat.le_refl _) (Nat.le_refl _) ?_
      refine sX6_isOutside ?_
      refine z_if_eq (tgt := 37) dX6_refusesStone_26 (by decide) (fun c3 => ?_) (fun c3 => ?_)
      · have e26 := zb_0.mp c3
        refine z_aload_n dX6_refusesStone_37 rfl ?_
        refine z_get dX6_refusesStone_38 fX6_16.r (hR.1 _ (by decide)) rfl ?_
        refine z_get dX6_refusesStone_41 fX6_74.r (hR.1 _ (by decide)) rfl ?_
        refine z_bipush (v := 6) dX6_refusesStone_44 (by decide) ?_
        refine z_icmp_lt (tgt := 64) dX6_refusesStone_46 (by decide) (fun c4 => ?_) (fun c4 => ?_)
        · refine z_iconst (v := 0) dX6_refusesStone_64 (by decide) ?_
          exact z_ireturn (mi := mX6_refusesStone) dX6_refusesStone_65 rfl rfl (Nat.le_refl _) (Nat.le_refl _) (hO (by rw [zrSt, if_neg (fun q => q.elim e7 (fun q => q.elim e17 e26)), if_neg (Int32.not_le.mpr c4)]))
        · refine z_aload dX6_refusesStone_49 rfl ?_
          refine z_iconst (v := 2) dX6_refusesStone_51 (by decide) ?_
          refine z_bipush (v := 6) dX6_refusesStone_52 (by decide) ?_
          refine z_V2 (mi' := mX5_give) dX6_refusesStone_54 lX6_70 nX5_give kX5_give (by decide) (Nat.le_of_ble_eq_true rfl) (Nat.le_refl _) (Nat.le_refl _) hF rfl rfl ?_
          refine sX5_give hF ?_
          refine z_if_eq (tgt := 64) dX6_refusesStone_57 (by decide) (fun c5 => ?_) (fun c5 => ?_)
          · exact absurd c5 (by decide)
          · refine z_iconst (v := 1) dX6_refusesStone_60 (by decide) ?_
            refine z_goto (tgt := 65) dX6_refusesStone_61 (by decide) ?_
            exact z_ireturn (mi := mX6_refusesStone) dX6_refusesStone_65 rfl rfl (Nat.le_refl _) (Nat.le_refl _) (hX _ _ (by rw [zrSt, if_neg (fun q => q.elim e7 (fun q => q.elim e17 e26)), if_pos (Int32.not_lt.mp c4)]))
      · have e26 := zb_n.mp c3
        refine z_aload dX6_refusesStone_29 rfl ?_
        refine z_iconst (v := 1) dX6_refusesStone_31 (by decide) ?_
        refine z_iconst (v := 0) dX6_refusesStone_32 (by decide) ?_
        refine z_V2 (mi' := mX5_give) dX6_refusesStone_33 lX6_70 nX5_give kX5_give (by decide) (Nat.le_of_ble_eq_true rfl) (Nat.le_refl _) (Nat.le_refl _) hF rfl rfl ?_
        refine sX5_give hF ?_
        exact z_ireturn (mi := mX6_refusesStone) dX6_refusesStone_36 rfl rfl (Nat.le_refl _) (Nat.le_refl _) (hX _ _ (by rw [zrSt, if_pos (Or.inr (Or.inr e26))]))
set_option maxHeartbeats 4000000 in
set_option maxRecDepth 10000 in
theorem sX6_refusesFlood {Γ : zG} {d : Nat} {G : zH} {Post : zV} {ad : Nat → Nat} {σ : zSt} (hR : zRiv G ad σ) {S F E K : Nat} (hN : zN σ S F E K) {rf : Nat} {ra rb rc : Value} (hF : G rf = some (.inr (5, [ra, rb, rc]))) {p b h : Int32}  (hO : zrFl σ F p b h = none → Post (some (.int 0)) G) (hX : ∀ rn rd, zrFl σ F p b h = some (rn, rd) → Post (some (.int 1)) (zset G rf (.inr (5, [.int rn, .int rd, .int 0])))) : zM Γ (d + 2) mX6_refusesFlood 0 0 [.ref (ad 0), .int p, .int b, .int h, .ref rf] G Post := by
  refine zM_of pnX6 rfl (Nat.le_of_ble_eq_true rfl) rfl ?_
  obtain ⟨hS, hS6, hFc, hF12, hE, hE4, hK, hK3⟩ := id hN
  refine z_iload_n dX6_refusesFlood_0 rfl ?_
  refine z_iconst (v := 0) dX6_refusesFlood_1 (by decide) ?_
  refine z_aload_n dX6_refusesFlood_2 rfl ?_
  refine z_get dX6_refusesFlood_3 fX6_9.r (hR.1 _ (by decide)) rfl ?_
  refine z_S3 (mi' := mX6_isOutside) dX6_refusesFlood_6 lX6_64 nX6_isOutside kX6_isOutside (by decide) (Nat.le_of_ble_eq_true rfl) (Nat.le_refl _) (Nat.le_refl _) ?_
  refine sX6_isOutside ?_
  refine z_if_ne (tgt := 32) dX6_refusesFlood_9 (by decide) (fun c1 => ?_) (fun c1 => ?_)
  · have e9 := zb_n.mp c1
    refine z_aload dX6_refusesFlood_32 rfl ?_
    refine z_iconst (v := 1) dX6_refusesFlood_34 (by decide) ?_
    refine z_iconst (v := 0) dX6_refusesFlood_35 (by decide) ?_
    refine z_V2 (mi' := mX5_give) dX6_refusesFlood_36 lX6_70 nX5_give kX5_give (by decide) (Nat.le_of_ble_eq_true rfl) (Nat.le_refl _) (Nat.le_refl _) hF rfl rfl ?_
    refine sX5_give hF ?_
    exact z_ireturn (mi := mX6_refusesFlood) dX6_refusesFlood_39 rfl rfl (Nat.le_refl _) (Nat.le_refl _) (hX _ _ (by rw [zrFl, if_pos (Or.inl e9)]))
  · have e9 := zb_0.mp c1
    refine z_iload_n dX6_refusesFlood_12 rfl ?_
    refine z_iconst (v := 1) dX6_refusesFlood_13 (by decide) ?_
    refine z_bipush (v := 99) dX6_refusesFlood_14 (by decide) ?_
    refine z_S3 (mi' := mX6_isOutside) dX6_refusesFlood_16 lX6_64 nX6_isOutside kX6_isOutside (by decide) (Nat.le_of_ble_eq_true rfl) (Nat.le_refl _) (Nat.le_refl _) ?_
    refine sX6_isOutside ?_
    refine z_if_ne (tgt := 32) dX6_refusesFlood_19 (by decide) (fun c2 => ?_) (fun c2 => ?_)
    · have e19 := zb_n.mp c2
      refine z_aload dX6_refusesFlood_32 rfl ?_
      refine z_iconst (v := 1) dX6_refusesFlood_34 (by decide) ?_
      refine z_iconst (v := 0) dX6_refusesFlood_35 (by decide) ?_
      refine z_V2 (mi' := mX5_give) dX6_refusesFlood_36 lX6_70 nX5_give kX5_give (by decide) (Nat.le_of_ble_eq_true rfl) (Nat.le_refl _) (Nat.le_refl _) hF rfl rfl ?_
      refine sX5_give hF ?_
      exact z_ireturn (mi := mX6_refusesFlood) dX6_refusesFlood_39 rfl rfl (Nat.le_refl _) (Nat.le_refl _) (hX _ _ (by rw [zrFl, if_pos (Or.inr (Or.inl e19))]))
    · have e19 := zb_0.mp c2
      refine z_iload_n dX6_refusesFlood_22 rfl ?_
      refine z_iconst (v := 0) dX6_refusesFlood_23 (by decide) ?_
      refine z_bipush (v := 99) dX6_refusesFlood_24 (by decide) ?_
      refine z_S3 (mi' := mX6_isOutside) dX6_refusesFlood_26 lX6_64 nX6_isOutside kX6_isOutside (by decide) (Nat.le_of_ble_eq_true rfl) (Nat.le_refl _) (Nat.le_refl _) ?_
      refine sX6_isOutside ?_
      refine z_if_eq (tgt := 40) dX6_refusesFlood_29 (by decide) (fun c3 => ?_) (fun c3 => ?_)
      · have e29 := zb_0.mp c3
        refine z_aload_n dX6_refusesFlood_40 rfl ?_
        refine z_get dX6_refusesFlood_41 fX6_23.r (hR.1 _ (by decide)) rfl ?_
        refine z_iload_n dX6_refusesFlood_44 rfl ?_
        refine z_V1 (mi' := mX2_findYear) dX6_refusesFlood_45 lX6_77 nX2_findYear kX2_findYear (by decide) (Nat.le_of_ble_eq_true rfl) (Nat.le_refl _) (Nat.le_refl _) (hR.1 _ (by decide)) rfl rfl ?_
        refine sX2_findYear hR hN ?_
        refine z_istore dX6_refusesFlood_48 (by decide) rfl ?_
        refine z_iload dX6_refusesFlood_50 rfl ?_
        refine z_if_lt (tgt := 64) dX6_refusesFlood_52 (by decide) (fun c4 => ?_) (fun c4 => ?_)
        · refine z_aload_n dX6_refusesFlood_64 rfl ?_
          refine z_get dX6_refusesFlood_65 fX6_23.r (hR.1 _ (by decide)) rfl ?_
          refine z_get dX6_refusesFlood_68 fX6_81.r (hR.1 _ (by decide)) rfl ?_
          refine z_bipush (v := 12) dX6_refusesFlood_71 (by decide) ?_
          refine z_icmp_lt (tgt := 91) dX6_refusesFlood_73 (by decide) (fun c5 => ?_) (fun c5 => ?_)
          · refine z_iconst (v := 0) dX6_refusesFlood_91 (by decide) ?_
            exact z_ireturn (mi := mX6_refusesFlood) dX6_refusesFlood_92 rfl rfl (Nat.le_refl _) (Nat.le_refl _) (hO (by rw [zrFl, if_neg (fun q => q.elim e9 (fun q => q.elim e19 e29)), if_neg (Int32.not_le.mpr c4), if_neg (Int32.not_le.mpr c5)]))
          · refine z_aload dX6_refusesFlood_76 rfl ?_
            refine z_iconst (v := 2) dX6_refusesFlood_78 (by decide) ?_
            refine z_bipush (v := 12) dX6_refusesFlood_79 (by decide) ?_
            refine z_V2 (mi' := mX5_give) dX6_refusesFlood_81 lX6_70 nX5_give kX5_give (by decide) (Nat.le_of_ble_eq_true rfl) (Nat.le_refl _) (Nat.le_refl _) hF rfl rfl ?_
            refine sX5_give hF ?_
            refine z_if_eq (tgt := 91) dX6_refusesFlood_84 (by decide) (fun c6 => ?_) (fun c6 => ?_)
            · exact absurd c6 (by decide)
            · refine z_iconst (v := 1) dX6_refusesFlood_87 (by decide) ?_
              refine z_goto (tgt := 92) dX6_refusesFlood_88 (by decide) ?_
              exact z_ireturn (mi := mX6_refusesFlood) dX6_refusesFlood_92 rfl rfl (Nat.le_refl _) (Nat.le_refl _) (hX _ _ (by rw [zrFl, if_neg (fun q => q.elim e9 (fun q => q.elim e19 e29)), if_neg (Int32.not_le.mpr c4), if_pos (Int32.not_lt.mp c5)]))
        · refine z_aload dX6_refusesFlood_55 rfl ?_
          refine z_iconst (v := 4) dX6_refusesFlood_57 (by decide) ?_
          refine z_iload dX6_refusesFlood_58 rfl ?_
          refine z_V2 (mi' := mX5_give) dX6_refusesFlood_60 lX6_70 nX5_give kX5_give (by decide) (Nat.le_of_ble_eq_true rfl) (Nat.le_refl _) (Nat.le_refl _) hF rfl rfl ?_
          refine sX5_give hF ?_
          exact z_ireturn (mi := mX6_refusesFlood) dX6_refusesFlood_63 rfl rfl (Nat.le_refl _) (Nat.le_refl _) (hX _ _ (by rw [zrFl, if_neg (fun q => q.elim e9 (fun q => q.elim e19 e29)), if_pos (Int32.not_lt.mp c4)]))
      · have e29 := zb_n.mp c3
        refine z_aload dX6_refusesFlood_32 rfl ?_
        refine z_iconst (v := 1) dX6_refusesFlood_34 (by decide) ?_
        refine z_iconst (v := 0) dX6_refusesFlood_35 (by decide) ?_
        refine z_V2 (mi' := mX5_give) dX6_refusesFlood_36 lX6_70 nX5_give kX5_give (by decide) (Nat.le_of_ble_eq_true rfl) (Nat.le_refl _) (Nat.le_refl _) hF rfl rfl ?_
        refine sX5_give hF ?_
        exact z_ireturn (mi := mX6_refusesFlood) dX6_refusesFlood_39 rfl rfl (Nat.le_refl _) (Nat.le_refl _) (hX _ _ (by rw [zrFl, if_pos (Or.inr (Or.inr e29))]))
set_option maxHeartbeats 4000000 in
set_option maxRecDepth 10000 in
theorem sX6_refusesEpoch {Γ : zG} {d : Nat} {G : zH} {Post : zV} {ad : Nat → Nat} {σ : zSt} (hR : zRiv G ad σ) {S F E K : Nat} (hN : zN σ S F E K) {rf : Nat} {ra rb rc : Value} (hF : G rf = some (.inr (5, [ra, rb, rc]))) {p b : Int32}  (hO : zrEp σ E p b = none → Post (some (.int 0)) G) (hX : ∀ rn rd, zrEp σ E p b = some (rn, rd) → Post (some (.int 1)) (zset G rf (.inr (5, [.int rn, .int rd, .int 0])))) : zM Γ (d + 2) mX6_refusesEpoch 0 0 [.ref (ad 0), .int p, .int b, .ref rf] G Post := by
  refine zM_of pnX6 rfl (Nat.le_of_ble_eq_true rfl) rfl ?_
  obtain ⟨hS, hS6, hFc, hF12, hE, hE4, hK, hK3⟩ := id hN
  refine z_iload_n dX6_refusesEpoch_0 rfl ?_
  refine z_iconst (v := 0) dX6_refusesEpoch_1 (by decide) ?_
  refine z_sipush (v := 999) dX6_refusesEpoch_2 (by decide) ?_
  refine z_S3 (mi' := mX6_isOutside) dX6_refusesEpoch_5 lX6_64 nX6_isOutside kX6_isOutside (by decide) (Nat.le_of_ble_eq_true rfl) (Nat.le_refl _) (Nat.le_refl _) ?_
  refine sX6_isOutside ?_
  refine z_if_ne (tgt := 22) dX6_refusesEpoch_8 (by decide) (fun c1 => ?_) (fun c1 => ?_)
  · have e8 := zb_n.mp c1
    refine z_aload_n dX6_refusesEpoch_22 rfl ?_
    refine z_iconst (v := 1) dX6_refusesEpoch_23 (by decide) ?_
    refine z_iconst (v := 0) dX6_refusesEpoch_24 (by decide) ?_
    refine z_V2 (mi' := mX5_give) dX6_refusesEpoch_25 lX6_70 nX5_give kX5_give (by decide) (Nat.le_of_ble_eq_true rfl) (Nat.le_refl _) (Nat.le_refl _) hF rfl rfl ?_
    refine sX5_give hF ?_
    exact z_ireturn (mi := mX6_refusesEpoch) dX6_refusesEpoch_28 rfl rfl (Nat.le_refl _) (Nat.le_refl _) (hX _ _ (by rw [zrEp, if_pos (Or.inl e8)]))
  · have e8 := zb_0.mp c1
    refine z_iload_n dX6_refusesEpoch_11 rfl ?_
    refine z_bipush (v := (-9)) dX6_refusesEpoch_12 (by decide) ?_
    refine z_bipush (v := 9) dX6_refusesEpoch_14 (by decide) ?_
    refine z_S3 (mi' := mX6_isOutside) dX6_refusesEpoch_16 lX6_64 nX6_isOutside kX6_isOutside (by decide) (Nat.le_of_ble_eq_true rfl) (Nat.le_refl _) (Nat.le_refl _) ?_
    refine sX6_isOutside ?_
    refine z_if_eq (tgt := 29) dX6_refusesEpoch_19 (by decide) (fun c2 => ?_) (fun c2 => ?_)
    · have e19 := zb_0.mp c2
      refine z_aload_n dX6_refusesEpoch_29 rfl ?_
      refine z_get dX6_refusesEpoch_30 fX6_30.r (hR.1 _ (by decide)) rfl ?_
      refine z_get dX6_refusesEpoch_33 fX6_82.r (hR.1 _ (by decide)) rfl ?_
      refine z_iconst (v := 4) dX6_refusesEpoch_36 (by decide) ?_
      refine z_icmp_lt (tgt := 64) dX6_refusesEpoch_37 (by decide) (fun c3 => ?_) (fun c3 => ?_)
      · refine z_iconst (v := 0) dX6_refusesEpoch_64 (by decide) ?_
        exact z_ireturn (mi := mX6_refusesEpoch) dX6_refusesEpoch_65 rfl rfl (Nat.le_refl _) (Nat.le_refl _) (hO (by rw [zrEp, if_neg (fun q => q.elim e8 e19), if_neg (fun q => Int32.not_lt.mpr q.1 c3)]))
      · refine z_aload_n dX6_refusesEpoch_40 rfl ?_
        refine z_get dX6_refusesEpoch_41 fX6_30.r (hR.1 _ (by decide)) rfl ?_
        refine z_iload_n dX6_refusesEpoch_44 rfl ?_
        refine z_V1 (mi' := mX1_find) dX6_refusesEpoch_45 lX6_83 nX1_find kX1_find (by decide) (Nat.le_of_ble_eq_true rfl) (Nat.le_refl _) (Nat.le_refl _) (hR.1 _ (by decide)) rfl rfl ?_
        refine sX1_find hR hN ?_
        refine z_if_ge (tgt := 64) dX6_refusesEpoch_48 (by decide) (fun c4 => ?_) (fun c4 => ?_)
        · refine z_iconst (v := 0) dX6_refusesEpoch_64 (by decide) ?_
          exact z_ireturn (mi := mX6_refusesEpoch) dX6_refusesEpoch_65 rfl rfl (Nat.le_refl _) (Nat.le_refl _) (hO (by rw [zrEp, if_neg (fun q => q.elim e8 e19), if_neg (fun q => Int32.not_lt.mpr c4 q.2)]))
        · refine z_aload_n dX6_refusesEpoch_51 rfl ?_
          refine z_iconst (v := 2) dX6_refusesEpoch_52 (by decide) ?_
          refine z_iconst (v := 4) dX6_refusesEpoch_53 (by decide) ?_
          refine z_V2 (mi' := mX5_give) dX6_refusesEpoch_54 lX6_70 nX5_give kX5_give (by decide) (Nat.le_of_ble_eq_true rfl) (Nat.le_refl _) (Nat.le_refl _) hF rfl rfl ?_
          refine sX5_give hF ?_
          refine z_if_eq (tgt := 64) dX6_refusesEpoch_57 (by decide) (fun c5 => ?_) (fun c5 => ?_)
          · exact absurd c5 (by decide)
          · refine z_iconst (v := 1) dX6_refusesEpoch_60 (by decide) ?_
            refine z_goto (tgt := 65) dX6_refusesEpoch_61 (by decide) ?_
            exact z_ireturn (mi := mX6_refusesEpoch) dX6_refusesEpoch_65 rfl rfl (Nat.le_refl _) (Nat.le_refl _) (hX _ _ (by rw [zrEp, if_neg (fun q => q.elim e8 e19), if_pos ⟨Int32.not_lt.mp c3, Int32.not_le.mp c4⟩]))
    · have e19 := zb_n.mp c2
      refine z_aload_n dX6_refusesEpoch_22 rfl ?_
      refine z_iconst (v := 1) dX6_refusesEpoch_23 (by decide) ?_
      refine z_iconst (v := 0) dX6_refusesEpoch_24 (by decide) ?_
      refine z_V2 (mi' := mX5_give) dX6_refusesEpoch_25 lX6_70 nX5_give kX5_give (by decide) (Nat.le_of_ble_eq_true rfl) (Nat.le_refl _) (Nat.le_refl _) hF rfl rfl ?_
      refine sX5_give hF ?_
      exact z_ireturn (mi := mX6_refusesEpoch) dX6_refusesEpoch_28 rfl rfl (Nat.le_refl _) (Nat.le_refl _) (hX _ _ (by rw [zrEp, if_pos (Or.inr e19)]))
set_option maxHeartbeats 4000000 in
set_option maxRecDepth 10000 in
theorem sX6_refusesChisel {Γ : zG} {d : Nat} {G : zH} {Post : zV} {ad : Nat → Nat} {σ : zSt} (hR : zRiv G ad σ) {rf : Nat} {ra rb rc : Value} (hF : G rf = some (.inr (5, [ra, rb, rc])))   (hO : zrCh σ = none → Post (some (.int 0)) G) (hX : ∀ rn rd, zrCh σ = some (rn, rd) → Post (some (.int 1)) (zset G rf (.inr (5, [.int rn, .int rd, .int 0])))) : zM Γ (d + 1) mX6_refusesChisel 0 0 [.ref (ad 0), .ref rf] G Post := by
  refine zM_of pnX6 rfl (Nat.le_of_ble_eq_true rfl) rfl ?_
  refine z_aload_n dX6_refusesChisel_0 rfl ?_
  refine z_get dX6_refusesChisel_1 fX6_37.r (hR.1 _ (by decide)) rfl ?_
  refine z_get dX6_refusesChisel_4 fX6_86.r (hR.1 _ (by decide)) rfl ?_
  refine z_iconst (v := 3) dX6_refusesChisel_7 (by decide) ?_
  refine z_icmp_lt (tgt := 24) dX6_refusesChisel_8 (by decide) (fun c1 => ?_) (fun c1 => ?_)
  · refine z_iconst (v := 0) dX6_refusesChisel_24 (by decide) ?_
    exact z_ireturn (mi := mX6_refusesChisel) dX6_refusesChisel_25 rfl rfl (Nat.le_refl _) (Nat.le_refl _) (hO (by rw [zrCh, if_neg (Int32.not_le.mpr c1)]))
  · refine z_aload_n dX6_refusesChisel_11 rfl ?_
    refine z_iconst (v := 2) dX6_refusesChisel_12 (by decide) ?_
    refine z_iconst (v := 3) dX6_refusesChisel_13 (by decide) ?_
    refine z_V2 (mi' := mX5_give) dX6_refusesChisel_14 lX6_70 nX5_give kX5_give (by decide) (Nat.le_of_ble_eq_true rfl) (Nat.le_refl _) (Nat.le_refl _) hF rfl rfl ?_
    refine sX5_give hF ?_
    refine z_if_eq (tgt := 24) dX6_refusesChisel_17 (by decide) (fun c2 => ?_) (fun c2 => ?_)
    · exact absurd c2 (by decide)
    · refine z_iconst (v := 1) dX6_refusesChisel_20 (by decide) ?_
      refine z_goto (tgt := 25) dX6_refusesChisel_21 (by decide) ?_
      exact z_ireturn (mi := mX6_refusesChisel) dX6_refusesChisel_25 rfl rfl (Nat.le_refl _) (Nat.le_refl _) (hX _ _ (by rw [zrCh, if_pos (Int32.not_lt.mp c1)]))
set_option maxHeartbeats 4000000 in
set_option maxRecDepth 10000 in
theorem sX6_refusesYears {Γ : zG} {d : Nat} {G : zH} {Post : zV} {ad : Nat → Nat} {σ : zSt} (hR : zRiv G ad σ) {rf : Nat} {ra rb rc : Value} (hF : G rf = some (.inr (5, [ra, rb, rc]))) {p : Int32}  (hO : zrYe p = none → Post (some (.int 0)) G) (hX : ∀ rn rd, zrYe p = some (rn, rd) → Post (some (.int 1)) (zset G rf (.inr (5, [.int rn, .int rd, .int 0])))) : zM Γ (d + 1) mX6_refusesYears 0 0 [.ref (ad 0), .int p, .ref rf] G Post := by
  refine zM_of pnX6 rfl (Nat.le_of_ble_eq_true rfl) rfl ?_
  refine z_iload_n dX6_refusesYears_0 rfl ?_
  refine z_iconst (v := 1) dX6_refusesYears_1 (by decide) ?_
  refine z_bipush (v := 60) dX6_refusesYears_2 (by decide) ?_
  refine z_S3 (mi' := mX6_isOutside) dX6_refusesYears_4 lX6_64 nX6_isOutside kX6_isOutside (by decide) (Nat.le_of_ble_eq_true rfl) (Nat.le_refl _) (Nat.le_refl _) ?_
  refine sX6_isOutside ?_
  refine z_if_eq (tgt := 23) dX6_refusesYears_7 (by decide) (fun c1 => ?_) (fun c1 => ?_)
  · have e7 := zb_0.mp c1
    refine z_iconst (v := 0) dX6_refusesYears_23 (by decide) ?_
    exact z_ireturn (mi := mX6_refusesYears) dX6_refusesYears_24 rfl rfl (Nat.le_refl _) (Nat.le_refl _) (hO (by rw [zrYe, if_neg e7]))
  · have e7 := zb_n.mp c1
    refine z_aload_n dX6_refusesYears_10 rfl ?_
    refine z_iconst (v := 1) dX6_refusesYears_11 (by decide) ?_
    refine z_iconst (v := 0) dX6_refusesYears_12 (by decide) ?_
    refine z_V2 (mi' := mX5_give) dX6_refusesYears_13 lX6_70 nX5_give kX5_give (by decide) (Nat.le_of_ble_eq_true rfl) (Nat.le_refl _) (Nat.le_refl _) hF rfl rfl ?_
    refine sX5_give hF ?_
    refine z_if_eq (tgt := 23) dX6_refusesYears_16 (by decide) (fun c2 => ?_) (fun c2 => ?_)
    · exact absurd c2 (by decide)
    · refine z_iconst (v := 1) dX6_refusesYears_19 (by decide) ?_
      refine z_goto (tgt := 24) dX6_refusesYears_20 (by decide) ?_
      exact z_ireturn (mi := mX6_refusesYears) dX6_refusesYears_24 rfl rfl (Nat.le_refl _) (Nat.le_refl _) (hX _ _ (by rw [zrYe, if_pos e7]))
set_option maxHeartbeats 4000000 in
set_option maxRecDepth 10000 in
theorem sX6_refusesCut {Γ : zG} {d : Nat} {G : zH} {Post : zV} {ad : Nat → Nat} {σ : zSt} (hR : zRiv G ad σ) {S F E K : Nat} (hN : zN σ S F E K) {rf : Nat} {ra rb rc : Value} (hF : G rf = some (.inr (5, [ra, rb, rc]))) {x y z : Int32}  (hO : zrCu σ E x y z = none → Post (some (.int 0)) G) (hX : ∀ rn rd, zrCu σ E x y z = some (rn, rd) → Post (some (.int 1)) (zset G rf (.inr (5, [.int rn, .int rd, .int 0])))) : zM Γ (d + 4) mX6_refusesCut 0 0 [.ref (ad 0), .int x, .int y, .int z, .ref rf] G Post := by
  refine zM_of pnX6 rfl (Nat.le_of_ble_eq_true rfl) rfl ?_
  obtain ⟨hS, hS6, hFc, hF12, hE, hE4, hK, hK3⟩ := id hN
  refine z_aload_n dX6_refusesCut_0 rfl ?_
  refine z_get dX6_refusesCut_1 fX6_16.r (hR.1 _ (by decide)) rfl ?_
  refine z_iload_n dX6_refusesCut_4 rfl ?_
  refine z_V1 (mi' := mX8_has) dX6_refusesCut_5 lX6_87 nX8_has kX8_has (by decide) (Nat.le_of_ble_eq_true rfl) (Nat.le_refl _) (Nat.le_refl _) (hR.1 _ (by decide)) rfl rfl ?_
  refine sX8_has hR ?_
  refine z_if_ne (tgt := 19) dX6_refusesCut_8 (by decide) (fun c1 => ?_) (fun c1 => ?_)
  · have e8 := zb_n.mp c1
    obtain ⟨s, hs, rfl⟩ := zhas (n := S) (by omega) (by rw [← hS]; exact e8)
    refine z_aload_n dX6_refusesCut_19 rfl ?_
    refine z_get dX6_refusesCut_20 fX6_23.r (hR.1 _ (by decide)) rfl ?_
    refine z_iload_n dX6_refusesCut_23 rfl ?_
    refine z_V1 (mi' := mX2_has) dX6_refusesCut_24 lX6_91 nX2_has kX2_has (by decide) (Nat.le_of_ble_eq_true rfl) (Nat.le_refl _) (Nat.le_refl _) (hR.1 _ (by decide)) rfl rfl ?_
    refine sX2_has hR ?_
    refine z_if_ne (tgt := 38) dX6_refusesCut_27 (by decide) (fun c2 => ?_) (fun c2 => ?_)
    · have e27 := zb_n.mp c2
      obtain ⟨f, hf, rfl⟩ := zhas (n := F) (by omega) (by rw [← hFc]; exact e27)
      refine z_aload_n dX6_refusesCut_38 rfl ?_
      refine z_get dX6_refusesCut_39 fX6_37.r (hR.1 _ (by decide)) rfl ?_
      refine z_iload_n dX6_refusesCut_42 rfl ?_
      refine z_V1 (mi' := mX0_has) dX6_refusesCut_43 lX6_92 nX0_has kX0_has (by decide) (Nat.le_of_ble_eq_true rfl) (Nat.le_refl _) (Nat.le_refl _) (hR.1 _ (by decide)) rfl rfl ?_
      refine sX0_has hR ?_
      refine z_if_ne (tgt := 57) dX6_refusesCut_46 (by decide) (fun c3 => ?_) (fun c3 => ?_)
      · have e46 := zb_n.mp c3
        obtain ⟨c, hc, rfl⟩ := zhas (n := K) (by omega) (by rw [← hK]; exact e46)
        refine z_aload_n dX6_refusesCut_57 rfl ?_
        refine z_get dX6_refusesCut_58 fX6_44.r (hR.1 _ (by decide)) rfl ?_
        refine z_iload_n dX6_refusesCut_61 rfl ?_
        refine z_iload_n dX6_refusesCut_62 rfl ?_
        refine z_V2 (mi' := mX4_has) dX6_refusesCut_63 lX6_93 nX4_has kX4_has (by decide) (Nat.le_of_ble_eq_true rfl) (Nat.le_refl _) (Nat.le_refl _) (hR.1 _ (by decide)) rfl rfl ?_
        refine sX4_has hR (show s < 6 by omega) (show f < 12 by omega) ?_
        refine z_if_eq (tgt := 85) dX6_refusesCut_66 (by decide) (fun c4 => ?_) (fun c4 => ?_)
        · have e66 := zb_0.mp c4
          refine z_aload_n dX6_refusesCut_85 rfl ?_
          refine z_iload_n dX6_refusesCut_86 rfl ?_
          refine z_iload_n dX6_refusesCut_87 rfl ?_
          refine z_V2 (mi' := mX6_levelAt) dX6_refusesCut_88 lX6_99 nX6_levelAt kX6_levelAt (by decide) (Nat.le_of_ble_eq_true rfl) (Nat.le_refl _) (Nat.le_refl _) (hR.1 _ (by decide)) rfl rfl ?_
          refine sX6_levelAt hR (show s < 6 by omega) (show f < 12 by omega) ?_
          refine z_istore dX6_refusesCut_91 (by decide) rfl ?_
          refine z_iload dX6_refusesCut_93 rfl ?_
          refine z_iconst (v := 1) dX6_refusesCut_95 (by decide) ?_
          refine z_icmp_ge (tgt := 111) dX6_refusesCut_96 (by decide) (fun c5 => ?_) (fun c5 => ?_)
          · refine z_aload_n dX6_refusesCut_111 rfl ?_
            refine z_iload_n dX6_refusesCut_112 rfl ?_
            refine z_iload_n dX6_refusesCut_113 rfl ?_
            refine z_V2 (mi' := mX6_readingAt) dX6_refusesCut_114 lX6_102 nX6_readingAt kX6_readingAt (by decide) (Nat.le_of_ble_eq_true rfl) (Nat.le_refl _) (Nat.le_refl _) (hR.1 _ (by decide)) rfl rfl ?_
            refine sX6_readingAt hR hN (show s < 6 by omega) (show f < 12 by omega) ?_
            refine z_istore dX6_refusesCut_117 (by decide) rfl ?_
            refine z_iload dX6_refusesCut_119 rfl ?_
            refine z_iconst (v := 0) dX6_refusesCut_121 (by decide) ?_
            refine z_bipush (v := 99) dX6_refusesCut_122 (by decide) ?_
            refine z_S3 (mi' := mX6_isOutside) dX6_refusesCut_124 lX6_64 nX6_isOutside kX6_isOutside (by decide) (Nat.le_of_ble_eq_true rfl) (Nat.le_refl _) (Nat.le_refl _) ?_
            refine sX6_isOutside ?_
            refine z_if_eq (tgt := 140) dX6_refusesCut_127 (by decide) (fun c6 => ?_) (fun c6 => ?_)
            · have e127 := zb_0.mp c6
              refine z_aload_n dX6_refusesCut_140 rfl ?_
              refine z_get dX6_refusesCut_141 fX6_37.r (hR.1 _ (by decide)) rfl ?_
              refine z_get dX6_refusesCut_144 fX6_105 (hR.1 _ (by decide)) rfl ?_
              refine z_iload_n dX6_refusesCut_147 rfl ?_
              refine z_S2 (mi' := mX7_at) dX6_refusesCut_148 lX6_109 nX7_at kX7_at (by decide) (Nat.le_of_ble_eq_true rfl) (Nat.le_refl _) (Nat.le_refl _) ?_
              refine sX7_at (hR.1 _ (by decide)) (by decide) (show c < 3 by omega) ?_
              refine z_istore dX6_refusesCut_151 (by decide) rfl ?_
              refine z_iload dX6_refusesCut_153 rfl ?_
              refine z_aload_n dX6_refusesCut_155 rfl ?_
              refine z_get dX6_refusesCut_156 fX6_16.r (hR.1 _ (by decide)) rfl ?_
              refine z_get dX6_refusesCut_159 fX6_115 (hR.1 _ (by decide)) rfl ?_
              refine z_iload_n dX6_refusesCut_162 rfl ?_
              refine z_S2 (mi' := mX7_at) dX6_refusesCut_163 lX6_109 nX7_at kX7_at (by decide) (Nat.le_of_ble_eq_true rfl) (Nat.le_refl _) (Nat.le_refl _) ?_
              refine sX7_at (hR.1 _ (by decide)) (by decide) (show s < 6 by omega) ?_
              refine z_icmp_ge (tgt := 179) dX6_refusesCut_166 (by decide) (fun c7 => ?_) (fun c7 => ?_)
              · refine z_aload_n dX6_refusesCut_179 rfl ?_
                refine z_get dX6_refusesCut_180 fX6_44.r (hR.1 _ (by decide)) rfl ?_
                refine z_iload_n dX6_refusesCut_183 rfl ?_
                refine z_iload dX6_refusesCut_184 rfl ?_
                refine z_V2 (mi' := mX4_floodAtHeight) dX6_refusesCut_186 lX6_118 nX4_floodAtHeight kX4_floodAtHeight (by decide) (Nat.le_of_ble_eq_true rfl) (Nat.le_refl _) (Nat.le_refl _) (hR.1 _ (by decide)) rfl rfl ?_
                refine sX4_floodAtHeight hR (show s < 6 by omega) ?_
                refine z_istore dX6_refusesCut_189 (by decide) rfl ?_
                refine z_iload dX6_refusesCut_191 rfl ?_
                refine z_if_lt (tgt := 206) dX6_refusesCut_193 (by decide) (fun c8 => ?_) (fun c8 => ?_)
                · refine z_aload_n dX6_refusesCut_206 rfl ?_
                  refine z_get dX6_refusesCut_207 fX6_44.r (hR.1 _ (by decide)) rfl ?_
                  refine z_iload_n dX6_refusesCut_210 rfl ?_
                  refine z_V1 (mi' := mX4_countOn) dX6_refusesCut_211 lX6_121 nX4_countOn kX4_countOn (by decide) (Nat.le_of_ble_eq_true rfl) (Nat.le_refl _) (Nat.le_refl _) (hR.1 _ (by decide)) rfl rfl ?_
                  refine sX4_countOn hR (show s < 6 by omega) ?_
                  refine z_bipush (v := 6) dX6_refusesCut_214 (by decide) ?_
                  refine z_icmp_lt (tgt := 234) dX6_refusesCut_216 (by decide) (fun c9 => ?_) (fun c9 => ?_)
                  · refine z_iconst (v := 0) dX6_refusesCut_234 (by decide) ?_
                    exact z_ireturn (mi := mX6_refusesCut) dX6_refusesCut_235 rfl rfl (Nat.le_refl _) (Nat.le_refl _) (hO (by rw [zrCu, if_neg (not_not_intro e8), if_neg (not_not_intro e27), if_neg (not_not_intro e46), nI_clamp (show s < 2 ^ 31 by omega), nI_clamp (show f < 2 ^ 31 by omega), nI_clamp (show c < 2 ^ 31 by omega), zrCu1, if_neg e66, if_neg (Int32.not_lt.mpr c5), if_neg e127, if_neg (Int32.not_lt.mpr c7), if_neg (Int32.not_le.mpr c8), if_neg (Int32.not_le.mpr c9)]))
                  · refine z_aload dX6_refusesCut_219 rfl ?_
                    refine z_iconst (v := 2) dX6_refusesCut_221 (by decide) ?_
                    refine z_bipush (v := 6) dX6_refusesCut_222 (by decide) ?_
                    refine z_V2 (mi' := mX5_give) dX6_refusesCut_224 lX6_70 nX5_give kX5_give (by decide) (Nat.le_of_ble_eq_true rfl) (Nat.le_refl _) (Nat.le_refl _) hF rfl rfl ?_
                    refine sX5_give hF ?_
                    refine z_if_eq (tgt := 234) dX6_refusesCut_227 (by decide) (fun c10 => ?_) (fun c10 => ?_)
                    · exact absurd c10 (by decide)
                    · refine z_iconst (v := 1) dX6_refusesCut_230 (by decide) ?_
                      refine z_goto (tgt := 235) dX6_refusesCut_231 (by decide) ?_
                      exact z_ireturn (mi := mX6_refusesCut) dX6_refusesCut_235 rfl rfl (Nat.le_refl _) (Nat.le_refl _) (hX _ _ (by rw [zrCu, if_neg (not_not_intro e8), if_neg (not_not_intro e27), if_neg (not_not_intro e46), nI_clamp (show s < 2 ^ 31 by omega), nI_clamp (show f < 2 ^ 31 by omega), nI_clamp (show c < 2 ^ 31 by omega), zrCu1, if_neg e66, if_neg (Int32.not_lt.mpr c5), if_neg e127, if_neg (Int32.not_lt.mpr c7), if_neg (Int32.not_le.mpr c8), if_pos (Int32.not_lt.mp c9)]))
                · refine z_aload dX6_refusesCut_196 rfl ?_
                  refine z_bipush (v := 9) dX6_refusesCut_198 (by decide) ?_
                  refine z_iload dX6_refusesCut_200 rfl ?_
                  refine z_V2 (mi' := mX5_give) dX6_refusesCut_202 lX6_70 nX5_give kX5_give (by decide) (Nat.le_of_ble_eq_true rfl) (Nat.le_refl _) (Nat.le_refl _) hF rfl rfl ?_
                  refine sX5_give hF ?_
                  exact z_ireturn (mi := mX6_refusesCut) dX6_refusesCut_205 rfl rfl (Nat.le_refl _) (Nat.le_refl _) (hX _ _ (by rw [zrCu, if_neg (not_not_intro e8), if_neg (not_not_intro e27), if_neg (not_not_intro e46), nI_clamp (show s < 2 ^ 31 by omega), nI_clamp (show f < 2 ^ 31 by omega), nI_clamp (show c < 2 ^ 31 by omega), zrCu1, if_neg e66, if_neg (Int32.not_lt.mpr c5), if_neg e127, if_neg (Int32.not_lt.mpr c7), if_pos (Int32.not_lt.mp c8)]))
              · refine z_aload dX6_refusesCut_169 rfl ?_
                refine z_bipush (v := 8) dX6_refusesCut_171 (by decide) ?_
                refine z_iload dX6_refusesCut_173 rfl ?_
                refine z_V2 (mi' := mX5_give) dX6_refusesCut_175 lX6_70 nX5_give kX5_give (by decide) (Nat.le_of_ble_eq_true rfl) (Nat.le_refl _) (Nat.le_refl _) hF rfl rfl ?_
                refine sX5_give hF ?_
                exact z_ireturn (mi := mX6_refusesCut) dX6_refusesCut_178 rfl rfl (Nat.le_refl _) (Nat.le_refl _) (hX _ _ (by rw [zrCu, if_neg (not_not_intro e8), if_neg (not_not_intro e27), if_neg (not_not_intro e46), nI_clamp (show s < 2 ^ 31 by omega), nI_clamp (show f < 2 ^ 31 by omega), nI_clamp (show c < 2 ^ 31 by omega), zrCu1, if_neg e66, if_neg (Int32.not_lt.mpr c5), if_neg e127, if_pos (Int32.not_le.mp c7)]))
            · have e127 := zb_n.mp c6
              refine z_aload dX6_refusesCut_130 rfl ?_
              refine z_bipush (v := 7) dX6_refusesCut_132 (by decide) ?_
              refine z_iload dX6_refusesCut_134 rfl ?_
              refine z_V2 (mi' := mX5_give) dX6_refusesCut_136 lX6_70 nX5_give kX5_give (by decide) (Nat.le_of_ble_eq_true rfl) (Nat.le_refl _) (Nat.le_refl _) hF rfl rfl ?_
              refine sX5_give hF ?_
              exact z_ireturn (mi := mX6_refusesCut) dX6_refusesCut_139 rfl rfl (Nat.le_refl _) (Nat.le_refl _) (hX _ _ (by rw [zrCu, if_neg (not_not_intro e8), if_neg (not_not_intro e27), if_neg (not_not_intro e46), nI_clamp (show s < 2 ^ 31 by omega), nI_clamp (show f < 2 ^ 31 by omega), nI_clamp (show c < 2 ^ 31 by omega), zrCu1, if_neg e66, if_neg (Int32.not_lt.mpr c5), if_pos e127]))
          · refine z_aload dX6_refusesCut_99 rfl ?_
            refine z_bipush (v := 6) dX6_refusesCut_101 (by decide) ?_
            refine z_iconst (v := 1) dX6_refusesCut_103 (by decide) ?_
            refine z_iload dX6_refusesCut_104 rfl ?_
            refine z_isub dX6_refusesCut_106 ?_
            refine z_V2 (mi' := mX5_give) dX6_refusesCut_107 lX6_70 nX5_give kX5_give (by decide) (Nat.le_of_ble_eq_true rfl) (Nat.le_refl _) (Nat.le_refl _) hF rfl rfl ?_
            refine sX5_give hF ?_
            exact z_ireturn (mi := mX6_refusesCut) dX6_refusesCut_110 rfl rfl (Nat.le_refl _) (Nat.le_refl _) (hX _ _ (by rw [zrCu, if_neg (not_not_intro e8), if_neg (not_not_intro e27), if_neg (not_not_intro e46), nI_clamp (show s < 2 ^ 31 by omega), nI_clamp (show f < 2 ^ 31 by omega), nI_clamp (show c < 2 ^ 31 by omega), zrCu1, if_neg e66, if_pos (Int32.not_le.mp c5)]))
        · have e66 := zb_n.mp c4
          refine z_aload dX6_refusesCut_69 rfl ?_
          refine z_iconst (v := 5) dX6_refusesCut_71 (by decide) ?_
          refine z_aload_n dX6_refusesCut_72 rfl ?_
          refine z_get dX6_refusesCut_73 fX6_44.r (hR.1 _ (by decide)) rfl ?_
          refine z_iload_n dX6_refusesCut_76 rfl ?_
          refine z_iload_n dX6_refusesCut_77 rfl ?_
          refine z_V2 (mi' := mX4_heightAt) dX6_refusesCut_78 lX6_95 nX4_heightAt kX4_heightAt (by decide) (Nat.le_of_ble_eq_true rfl) (Nat.le_refl _) (Nat.le_refl _) (hR.1 _ (by decide)) rfl rfl ?_
          refine sX4_heightAt hR (show s < 6 by omega) (show f < 12 by omega) ?_
          refine z_V2 (mi' := mX5_give) dX6_refusesCut_81 lX6_70 nX5_give kX5_give (by decide) (Nat.le_of_ble_eq_true rfl) (Nat.le_refl _) (Nat.le_refl _) hF rfl rfl ?_
          refine sX5_give hF ?_
          exact z_ireturn (mi := mX6_refusesCut) dX6_refusesCut_84 rfl rfl (Nat.le_refl _) (Nat.le_refl _) (hX _ _ (by rw [zrCu, if_neg (not_not_intro e8), if_neg (not_not_intro e27), if_neg (not_not_intro e46), nI_clamp (show s < 2 ^ 31 by omega), nI_clamp (show f < 2 ^ 31 by omega), nI_clamp (show c < 2 ^ 31 by omega), zrCu1, if_pos e66]))
      · have e46 := zb_0.mp c3
        refine z_aload dX6_refusesCut_49 rfl ?_
        refine z_iconst (v := 3) dX6_refusesCut_51 (by decide) ?_
        refine z_iload_n dX6_refusesCut_52 rfl ?_
        refine z_V2 (mi' := mX5_give) dX6_refusesCut_53 lX6_70 nX5_give kX5_give (by decide) (Nat.le_of_ble_eq_true rfl) (Nat.le_refl _) (Nat.le_refl _) hF rfl rfl ?_
        refine sX5_give hF ?_
        exact z_ireturn (mi := mX6_refusesCut) dX6_refusesCut_56 rfl rfl (Nat.le_refl _) (Nat.le_refl _) (hX _ _ (by rw [zrCu, if_neg (not_not_intro e8), if_neg (not_not_intro e27), if_pos e46]))
    · have e27 := zb_0.mp c2
      refine z_aload dX6_refusesCut_30 rfl ?_
      refine z_iconst (v := 3) dX6_refusesCut_32 (by decide) ?_
      refine z_iload_n dX6_refusesCut_33 rfl ?_
      refine z_V2 (mi' := mX5_give) dX6_refusesCut_34 lX6_70 nX5_give kX5_give (by decide) (Nat.le_of_ble_eq_true rfl) (Nat.le_refl _) (Nat.le_refl _) hF rfl rfl ?_
      refine sX5_give hF ?_
      exact z_ireturn (mi := mX6_refusesCut) dX6_refusesCut_37 rfl rfl (Nat.le_refl _) (Nat.le_refl _) (hX _ _ (by rw [zrCu, if_neg (not_not_intro e8), if_pos e27]))
  · have e8 := zb_0.mp c1
    refine z_aload dX6_refusesCut_11 rfl ?_
    refine z_iconst (v := 3) dX6_refusesCut_13 (by decide) ?_
    refine z_iload_n dX6_refusesCut_14 rfl ?_
    refine z_V2 (mi' := mX5_give) dX6_refusesCut_15 lX6_70 nX5_give kX5_give (by decide) (Nat.le_of_ble_eq_true rfl) (Nat.le_refl _) (Nat.le_refl _) hF rfl rfl ?_
    refine sX5_give hF ?_
    exact z_ireturn (mi := mX6_refusesCut) dX6_refusesCut_18 rfl rfl (Nat.le_refl _) (Nat.le_refl _) (hX _ _ (by rw [zrCu, if_pos e8]))
set_option maxHeartbeats 4000000 in
set_option maxRecDepth 10000 in
theorem sX6_refusesEfface {Γ : zG} {d : Nat} {G : zH} {Post : zV} {ad : Nat → Nat} {σ : zSt} (hR : zRiv G ad σ) {S F E K : Nat} (hN : zN σ S F E K) {rf : Nat} {ra rb rc : Value} (hF : G rf = some (.inr (5, [ra, rb, rc]))) {x y : Int32}  (hO : zrEf σ x y = none → Post (some (.int 0)) G) (hX : ∀ rn rd, zrEf σ x y = some (rn, rd) → Post (some (.int 1)) (zset G rf (.inr (5, [.int rn, .int rd, .int 0])))) : zM Γ (d + 2) mX6_refusesEfface 0 0 [.ref (ad 0), .int x, .int y, .ref rf] G Post := by
  refine zM_of pnX6 rfl (Nat.le_of_ble_eq_true rfl) rfl ?_
  obtain ⟨hS, hS6, hFc, hF12, hE, hE4, hK, hK3⟩ := id hN
  refine z_aload_n dX6_refusesEfface_0 rfl ?_
  refine z_get dX6_refusesEfface_1 fX6_16.r (hR.1 _ (by decide)) rfl ?_
  refine z_iload_n dX6_refusesEfface_4 rfl ?_
  refine z_V1 (mi' := mX8_has) dX6_refusesEfface_5 lX6_87 nX8_has kX8_has (by decide) (Nat.le_of_ble_eq_true rfl) (Nat.le_refl _) (Nat.le_refl _) (hR.1 _ (by decide)) rfl rfl ?_
  refine sX8_has hR ?_
  refine z_if_ne (tgt := 18) dX6_refusesEfface_8 (by decide) (fun c1 => ?_) (fun c1 => ?_)
  · have e8 := zb_n.mp c1
    obtain ⟨s, hs, rfl⟩ := zhas (n := S) (by omega) (by rw [← hS]; exact e8)
    refine z_aload_n dX6_refusesEfface_18 rfl ?_
    refine z_get dX6_refusesEfface_19 fX6_23.r (hR.1 _ (by decide)) rfl ?_
    refine z_iload_n dX6_refusesEfface_22 rfl ?_
    refine z_V1 (mi' := mX2_has) dX6_refusesEfface_23 lX6_91 nX2_has kX2_has (by decide) (Nat.le_of_ble_eq_true rfl) (Nat.le_refl _) (Nat.le_refl _) (hR.1 _ (by decide)) rfl rfl ?_
    refine sX2_has hR ?_
    refine z_if_ne (tgt := 36) dX6_refusesEfface_26 (by decide) (fun c2 => ?_) (fun c2 => ?_)
    · have e26 := zb_n.mp c2
      obtain ⟨f, hf, rfl⟩ := zhas (n := F) (by omega) (by rw [← hFc]; exact e26)
      refine z_aload_n dX6_refusesEfface_36 rfl ?_
      refine z_get dX6_refusesEfface_37 fX6_44.r (hR.1 _ (by decide)) rfl ?_
      refine z_iload_n dX6_refusesEfface_40 rfl ?_
      refine z_iload_n dX6_refusesEfface_41 rfl ?_
      refine z_V2 (mi' := mX4_has) dX6_refusesEfface_42 lX6_93 nX4_has kX4_has (by decide) (Nat.le_of_ble_eq_true rfl) (Nat.le_refl _) (Nat.le_refl _) (hR.1 _ (by decide)) rfl rfl ?_
      refine sX4_has hR (show s < 6 by omega) (show f < 12 by omega) ?_
      refine z_if_ne (tgt := 62) dX6_refusesEfface_45 (by decide) (fun c3 => ?_) (fun c3 => ?_)
      · have e45 := zb_n.mp c3
        refine z_iconst (v := 0) dX6_refusesEfface_62 (by decide) ?_
        exact z_ireturn (mi := mX6_refusesEfface) dX6_refusesEfface_63 rfl rfl (Nat.le_refl _) (Nat.le_refl _) (hO (by rw [zrEf, if_neg (not_not_intro e8), if_neg (not_not_intro e26), nI_clamp (show s < 2 ^ 31 by omega), nI_clamp (show f < 2 ^ 31 by omega), if_pos e45]))
      · have e45 := zb_0.mp c3
        refine z_aload_n dX6_refusesEfface_48 rfl ?_
        refine z_bipush (v := 10) dX6_refusesEfface_49 (by decide) ?_
        refine z_iload_n dX6_refusesEfface_51 rfl ?_
        refine z_V2 (mi' := mX5_give) dX6_refusesEfface_52 lX6_70 nX5_give kX5_give (by decide) (Nat.le_of_ble_eq_true rfl) (Nat.le_refl _) (Nat.le_refl _) hF rfl rfl ?_
        refine sX5_give hF ?_
        refine z_if_eq (tgt := 62) dX6_refusesEfface_55 (by decide) (fun c4 => ?_) (fun c4 => ?_)
        · exact absurd c4 (by decide)
        · refine z_iconst (v := 1) dX6_refusesEfface_58 (by decide) ?_
          refine z_goto (tgt := 63) dX6_refusesEfface_59 (by decide) ?_
          exact z_ireturn (mi := mX6_refusesEfface) dX6_refusesEfface_63 rfl rfl (Nat.le_refl _) (Nat.le_refl _) (hX _ _ (by rw [zrEf, if_neg (not_not_intro e8), if_neg (not_not_intro e26), nI_clamp (show s < 2 ^ 31 by omega), nI_clamp (show f < 2 ^ 31 by omega), if_neg e45]))
    · have e26 := zb_0.mp c2
      refine z_aload_n dX6_refusesEfface_29 rfl ?_
      refine z_iconst (v := 3) dX6_refusesEfface_30 (by decide) ?_
      refine z_iload_n dX6_refusesEfface_31 rfl ?_
      refine z_V2 (mi' := mX5_give) dX6_refusesEfface_32 lX6_70 nX5_give kX5_give (by decide) (Nat.le_of_ble_eq_true rfl) (Nat.le_refl _) (Nat.le_refl _) hF rfl rfl ?_
      refine sX5_give hF ?_
      exact z_ireturn (mi := mX6_refusesEfface) dX6_refusesEfface_35 rfl rfl (Nat.le_refl _) (Nat.le_refl _) (hX _ _ (by rw [zrEf, if_neg (not_not_intro e8), if_pos e26]))
  · have e8 := zb_0.mp c1
    refine z_aload_n dX6_refusesEfface_11 rfl ?_
    refine z_iconst (v := 3) dX6_refusesEfface_12 (by decide) ?_
    refine z_iload_n dX6_refusesEfface_13 rfl ?_
    refine z_V2 (mi' := mX5_give) dX6_refusesEfface_14 lX6_70 nX5_give kX5_give (by decide) (Nat.le_of_ble_eq_true rfl) (Nat.le_refl _) (Nat.le_refl _) hF rfl rfl ?_
    refine sX5_give hF ?_
    exact z_ireturn (mi := mX6_refusesEfface) dX6_refusesEfface_17 rfl rfl (Nat.le_refl _) (Nat.le_refl _) (hX _ _ (by rw [zrEf, if_pos e8]))
set_option maxHeartbeats 4000000 in
set_option maxRecDepth 10000 in
theorem sX6_refusesSharpen {Γ : zG} {d : Nat} {G : zH} {Post : zV} {ad : Nat → Nat} {σ : zSt} (hR : zRiv G ad σ) {rf : Nat} {ra rb rc : Value} (hF : G rf = some (.inr (5, [ra, rb, rc]))) {p : Int32}  (hO : zrSh σ p = none → Post (some (.int 0)) G) (hX : ∀ rn rd, zrSh σ p = some (rn, rd) → Post (some (.int 1)) (zset G rf (.inr (5, [.int rn, .int rd, .int 0])))) : zM Γ (d + 1) mX6_refusesSharpen 0 0 [.ref (ad 0), .int p, .ref rf] G Post := by
  refine zM_of pnX6 rfl (Nat.le_of_ble_eq_true rfl) rfl ?_
  refine z_aload_n dX6_refusesSharpen_0 rfl ?_
  refine z_get dX6_refusesSharpen_1 fX6_37.r (hR.1 _ (by decide)) rfl ?_
  refine z_iload_n dX6_refusesSharpen_4 rfl ?_
  refine z_V1 (mi' := mX0_has) dX6_refusesSharpen_5 lX6_92 nX0_has kX0_has (by decide) (Nat.le_of_ble_eq_true rfl) (Nat.le_refl _) (Nat.le_refl _) (hR.1 _ (by decide)) rfl rfl ?_
  refine sX0_has hR ?_
  refine z_if_ne (tgt := 24) dX6_refusesSharpen_8 (by decide) (fun c1 => ?_) (fun c1 => ?_)
  · have e8 := zb_n.mp c1
    refine z_iconst (v := 0) dX6_refusesSharpen_24 (by decide) ?_
    exact z_ireturn (mi := mX6_refusesSharpen) dX6_refusesSharpen_25 rfl rfl (Nat.le_refl _) (Nat.le_refl _) (hO (by rw [zrSh, if_neg (not_not_intro e8)]))
  · have e8 := zb_0.mp c1
    refine z_aload_n dX6_refusesSharpen_11 rfl ?_
    refine z_iconst (v := 3) dX6_refusesSharpen_12 (by decide) ?_
    refine z_iload_n dX6_refusesSharpen_13 rfl ?_
    refine z_V2 (mi' := mX5_give) dX6_refusesSharpen_14 lX6_70 nX5_give kX5_give (by decide) (Nat.le_of_ble_eq_true rfl) (Nat.le_refl _) (Nat.le_refl _) hF rfl rfl ?_
    refine sX5_give hF ?_
    refine z_if_eq (tgt := 24) dX6_refusesSharpen_17 (by decide) (fun c2 => ?_) (fun c2 => ?_)
    · exact absurd c2 (by decide)
    · refine z_iconst (v := 1) dX6_refusesSharpen_20 (by decide) ?_
      refine z_goto (tgt := 25) dX6_refusesSharpen_21 (by decide) ?_
      exact z_ireturn (mi := mX6_refusesSharpen) dX6_refusesSharpen_25 rfl rfl (Nat.le_refl _) (Nat.le_refl _) (hX _ _ (by rw [zrSh, if_pos e8]))
set_option maxHeartbeats 4000000 in
set_option maxRecDepth 10000 in
theorem sX6_refusesCheck {Γ : zG} {d : Nat} {G : zH} {Post : zV} {ad : Nat → Nat} {σ : zSt} (hR : zRiv G ad σ) {rf : Nat} {ra rb rc : Value} (hF : G rf = some (.inr (5, [ra, rb, rc]))) {p : Int32}  (hO : zrCk σ p = none → Post (some (.int 0)) G) (hX : ∀ rn rd, zrCk σ p = some (rn, rd) → Post (some (.int 1)) (zset G rf (.inr (5, [.int rn, .int rd, .int 0])))) : zM Γ (d + 1) mX6_refusesCheck 0 0 [.ref (ad 0), .int p, .ref rf] G Post := by
  refine zM_of pnX6 rfl (Nat.le_of_ble_eq_true rfl) rfl ?_
  refine z_aload_n dX6_refusesCheck_0 rfl ?_
  refine z_get dX6_refusesCheck_1 fX6_16.r (hR.1 _ (by decide)) rfl ?_
  refine z_iload_n dX6_refusesCheck_4 rfl ?_
  refine z_V1 (mi' := mX8_has) dX6_refusesCheck_5 lX6_87 nX8_has kX8_has (by decide) (Nat.le_of_ble_eq_true rfl) (Nat.le_refl _) (Nat.le_refl _) (hR.1 _ (by decide)) rfl rfl ?_
  refine sX8_has hR ?_
  refine z_if_ne (tgt := 24) dX6_refusesCheck_8 (by decide) (fun c1 => ?_) (fun c1 => ?_)
  · have e8 := zb_n.mp c1
    refine z_iconst (v := 0) dX6_refusesCheck_24 (by decide) ?_
    exact z_ireturn (mi := mX6_refusesCheck) dX6_refusesCheck_25 rfl rfl (Nat.le_refl _) (Nat.le_refl _) (hO (by rw [zrCk, if_neg (not_not_intro e8)]))
  · have e8 := zb_0.mp c1
    refine z_aload_n dX6_refusesCheck_11 rfl ?_
    refine z_iconst (v := 3) dX6_refusesCheck_12 (by decide) ?_
    refine z_iload_n dX6_refusesCheck_13 rfl ?_
    refine z_V2 (mi' := mX5_give) dX6_refusesCheck_14 lX6_70 nX5_give kX5_give (by decide) (Nat.le_of_ble_eq_true rfl) (Nat.le_refl _) (Nat.le_refl _) hF rfl rfl ?_
    refine sX5_give hF ?_
    refine z_if_eq (tgt := 24) dX6_refusesCheck_17 (by decide) (fun c2 => ?_) (fun c2 => ?_)
    · exact absurd c2 (by decide)
    · refine z_iconst (v := 1) dX6_refusesCheck_20 (by decide) ?_
      refine z_goto (tgt := 25) dX6_refusesCheck_21 (by decide) ?_
      exact z_ireturn (mi := mX6_refusesCheck) dX6_refusesCheck_25 rfl rfl (Nat.le_refl _) (Nat.le_refl _) (hX _ _ (by rw [zrCk, if_pos e8]))
set_option maxHeartbeats 4000000 in
set_option maxRecDepth 10000 in
theorem sX6_refusesWitness {Γ : zG} {d : Nat} {G : zH} {Post : zV} {ad : Nat → Nat} {σ : zSt} (hR : zRiv G ad σ) {S F E K : Nat} (hN : zN σ S F E K) {rf : Nat} {ra rb rc : Value} (hF : G rf = some (.inr (5, [ra, rb, rc]))) {y w : Int32}  (hO : zrWi σ y w = none → Post (some (.int 0)) G) (hX : ∀ rn rd, zrWi σ y w = some (rn, rd) → Post (some (.int 1)) (zset G rf (.inr (5, [.int rn, .int rd, .int 0])))) : zM Γ (d + 1) mX6_refusesWitness 0 0 [.ref (ad 0), .int y, .int w, .ref rf] G Post := by
  refine zM_of pnX6 rfl (Nat.le_of_ble_eq_true rfl) rfl ?_
  obtain ⟨hS, hS6, hFc, hF12, hE, hE4, hK, hK3⟩ := id hN
  refine z_aload_n dX6_refusesWitness_0 rfl ?_
  refine z_get dX6_refusesWitness_1 fX6_23.r (hR.1 _ (by decide)) rfl ?_
  refine z_iload_n dX6_refusesWitness_4 rfl ?_
  refine z_V1 (mi' := mX2_has) dX6_refusesWitness_5 lX6_91 nX2_has kX2_has (by decide) (Nat.le_of_ble_eq_true rfl) (Nat.le_refl _) (Nat.le_refl _) (hR.1 _ (by decide)) rfl rfl ?_
  refine sX2_has hR ?_
  refine z_if_ne (tgt := 18) dX6_refusesWitness_8 (by decide) (fun c1 => ?_) (fun c1 => ?_)
  · have e8 := zb_n.mp c1
    obtain ⟨f, hf, rfl⟩ := zhas (n := F) (by omega) (by rw [← hFc]; exact e8)
    refine z_iload_n dX6_refusesWitness_18 rfl ?_
    refine z_iconst (v := 1) dX6_refusesWitness_19 (by decide) ?_
    refine z_bipush (v := 9) dX6_refusesWitness_20 (by decide) ?_
    refine z_S3 (mi' := mX6_isOutside) dX6_refusesWitness_22 lX6_64 nX6_isOutside kX6_isOutside (by decide) (Nat.le_of_ble_eq_true rfl) (Nat.le_refl _) (Nat.le_refl _) ?_
    refine sX6_isOutside ?_
    refine z_if_eq (tgt := 35) dX6_refusesWitness_25 (by decide) (fun c2 => ?_) (fun c2 => ?_)
    · have e25 := zb_0.mp c2
      refine z_aload_n dX6_refusesWitness_35 rfl ?_
      refine z_get dX6_refusesWitness_36 fX6_23.r (hR.1 _ (by decide)) rfl ?_
      refine z_get dX6_refusesWitness_39 fX6_124 (hR.1 _ (by decide)) rfl ?_
      refine z_iload_n dX6_refusesWitness_42 rfl ?_
      refine z_S2 (mi' := mX7_at) dX6_refusesWitness_43 lX6_109 nX7_at kX7_at (by decide) (Nat.le_of_ble_eq_true rfl) (Nat.le_refl _) (Nat.le_refl _) ?_
      refine sX7_at (hR.1 _ (by decide)) (by decide) (show f < 12 by omega) ?_
      refine z_iload_n dX6_refusesWitness_46 rfl ?_
      refine z_iadd dX6_refusesWitness_47 ?_
      refine z_bipush (v := 99) dX6_refusesWitness_48 (by decide) ?_
      refine z_icmp_le (tgt := 67) dX6_refusesWitness_50 (by decide) (fun c3 => ?_) (fun c3 => ?_)
      · refine z_iconst (v := 0) dX6_refusesWitness_67 (by decide) ?_
        exact z_ireturn (mi := mX6_refusesWitness) dX6_refusesWitness_68 rfl rfl (Nat.le_refl _) (Nat.le_refl _) (hO (by rw [zrWi, if_neg (not_not_intro e8), if_neg e25, nI_clamp (show f < 2 ^ 31 by omega), if_neg (Int32.not_lt.mpr c3)]))
      · refine z_aload_n dX6_refusesWitness_53 rfl ?_
        refine z_iconst (v := 2) dX6_refusesWitness_54 (by decide) ?_
        refine z_bipush (v := 99) dX6_refusesWitness_55 (by decide) ?_
        refine z_V2 (mi' := mX5_give) dX6_refusesWitness_57 lX6_70 nX5_give kX5_give (by decide) (Nat.le_of_ble_eq_true rfl) (Nat.le_refl _) (Nat.le_refl _) hF rfl rfl ?_
        refine sX5_give hF ?_
        refine z_if_eq (tgt := 67) dX6_refusesWitness_60 (by decide) (fun c4 => ?_) (fun c4 => ?_)
        · exact absurd c4 (by decide)
        · refine z_iconst (v := 1) dX6_refusesWitness_63 (by decide) ?_
          refine z_goto (tgt := 68) dX6_refusesWitness_64 (by decide) ?_
          exact z_ireturn (mi := mX6_refusesWitness) dX6_refusesWitness_68 rfl rfl (Nat.le_refl _) (Nat.le_refl _) (hX _ _ (by rw [zrWi, if_neg (not_not_intro e8), if_neg e25, nI_clamp (show f < 2 ^ 31 by omega), if_pos (Int32.not_le.mp c3)]))
    · have e25 := zb_n.mp c2
      refine z_aload_n dX6_refusesWitness_28 rfl ?_
      refine z_iconst (v := 1) dX6_refusesWitness_29 (by decide) ?_
      refine z_iconst (v := 0) dX6_refusesWitness_30 (by decide) ?_
      refine z_V2 (mi' := mX5_give) dX6_refusesWitness_31 lX6_70 nX5_give kX5_give (by decide) (Nat.le_of_ble_eq_true rfl) (Nat.le_refl _) (Nat.le_refl _) hF rfl rfl ?_
      refine sX5_give hF ?_
      exact z_ireturn (mi := mX6_refusesWitness) dX6_refusesWitness_34 rfl rfl (Nat.le_refl _) (Nat.le_refl _) (hX _ _ (by rw [zrWi, if_neg (not_not_intro e8), if_pos e25]))
  · have e8 := zb_0.mp c1
    refine z_aload_n dX6_refusesWitness_11 rfl ?_
    refine z_iconst (v := 3) dX6_refusesWitness_12 (by decide) ?_
    refine z_iload_n dX6_refusesWitness_13 rfl ?_
    refine z_V2 (mi' := mX5_give) dX6_refusesWitness_14 lX6_70 nX5_give kX5_give (by decide) (Nat.le_of_ble_eq_true rfl) (Nat.le_refl _) (Nat.le_refl _) hF rfl rfl ?_
    refine sX5_give hF ?_
    exact z_ireturn (mi := mX6_refusesWitness) dX6_refusesWitness_17 rfl rfl (Nat.le_refl _) (Nat.le_refl _) (hX _ _ (by rw [zrWi, if_pos e8]))
