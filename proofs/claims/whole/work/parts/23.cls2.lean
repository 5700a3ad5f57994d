set_option maxHeartbeats 4000000 in
set_option maxRecDepth 10000 in
theorem sX10_stone {Γ : zG} {d : Nat} {G : zH} {ax : Nat → Nat} {bq m : Nat} {ρ : Nat → zSt} {γ : zSt} (hC : zCls G ax bq m ρ γ) {S F E K : Nat} (hN : zN (ρ 0) S F E K) {nx ct : Nat} (hX : zXN γ nx ct) {Post : zP} {p b h : Int32} (hO : zrSt (ρ 0) p b h = none → ∀ G1, zCls G1 ax bq m (zrv (zkeepR ρ nx) 0 (zu (zu (zu (zu (zu (ρ 0) 0 S p) 1 S b) 2 S h) 3 S 0) 13 1 (nI (S + 1)))) (zkeepG γ nx ct) → zFC G G1 ax bq → Post (zvi (nI S)) G1) (hE9 : ∀ rn rd, zrSt (ρ 0) p b h = some (rn, rd) → ∀ G1, zCls G1 ax bq m ρ (zref γ rn rd) → zFC G G1 ax bq → Post (.inr zUO) G1) : zMX Γ (d + 4) mX10_stone 1 6 [.ref (ax 0), .int p, .int b, .int h] G Post := by
  refine zMX_of pnX10 rfl (Nat.le_of_ble_eq_true rfl) rfl ?_
  refine z_aload_n dX10_stone_0 rfl ?_
  refine z_get dX10_stone_1 fX10_10.r (hC.1 _ (by decide)) rfl ?_
  refine z_iload_n dX10_stone_4 rfl ?_
  refine z_iload_n dX10_stone_5 rfl ?_
  refine z_iload_n dX10_stone_6 rfl ?_
  refine z_aload_n dX10_stone_7 rfl ?_
  refine z_get dX10_stone_8 fX10_38.r (hC.1 _ (by decide)) rfl ?_
  refine z_V4 (mi' := mX6_refusesStone) dX10_stone_11 lX10_66 nX6_refusesStone kX6_refusesStone (by decide) (Nat.le_of_ble_eq_true rfl) (Nat.zero_le _) (Nat.zero_le _) ((hC.2.1 0 (by decide)).1 _ (by decide)) rfl rfl ?_
  refine sX6_refusesStone (hC.2.1 0 (by decide)) hN (hC.1 3 (by decide)) (fun hz => ?_) (fun rn rd hz => ?_)
  · have hQ : zFC G G ax bq := zFC.rf
    refine z_if_eq (tgt := 27) dX10_stone_14 (by decide) (fun c1 => ?_) (fun c1 => ?_)
    · refine z_aload_n dX10_stone_27 rfl ?_
      refine z_get dX10_stone_28 fX10_31.r (hC.1 _ (by decide)) rfl ?_
      refine z_aload_n dX10_stone_31 rfl ?_
      refine z_get dX10_stone_32 fX10_10.r (hC.1 _ (by decide)) rfl ?_
      refine z_V1 (mi' := mX3_keep) dX10_stone_35 lX10_77 nX3_keep kX3_keep (by decide) (Nat.le_of_ble_eq_true rfl) (Nat.zero_le _) (Nat.zero_le _) (hC.1 _ (by decide)) rfl rfl ?_
      refine sX3_keep hC hX (fun _ hC hF => ?_)
      have hQ := hQ.tr hF
      have hR := hC.2.1 0 (by decide)
      rw [zkeepR_0] at hR
      refine z_aload_n dX10_stone_38 rfl ?_
      refine z_get dX10_stone_39 fX10_10.r (hC.1 _ (by decide)) rfl ?_
      refine z_get dX10_stone_42 fX10_81 ((hC.2.1 0 (by decide)).1 _ (by decide)) rfl ?_
      refine z_iload_n dX10_stone_45 rfl ?_
      refine z_iload_n dX10_stone_46 rfl ?_
      refine z_iload_n dX10_stone_47 rfl ?_
      refine z_V3 (mi' := mX8_add) dX10_stone_48 lX10_85 nX8_add kX8_add (by decide) (Nat.le_of_ble_eq_true rfl) (Nat.zero_le _) (Nat.zero_le _) ((hC.2.1 0 (by decide)).1 _ (by decide)) rfl rfl ?_
      refine sX8_add hR hN (zrSt_S hN hz) (fun _ hR hF => ?_)
      have hC := hC.riv (by decide) hR hF
      have hQ := hQ.tr (zFC.frm (by decide) hF)
      exact z_ireturn (mi := mX10_stone) dX10_stone_51 rfl rfl (Nat.zero_le _) (Nat.zero_le _) (hO hz _ hC hQ)
    · exact absurd rfl c1
  · have hC := hC.ref rn rd
    refine z_if_eq (tgt := 27) dX10_stone_14 (by decide) (fun c2 => ?_) (fun c2 => ?_)
    · exact absurd c2 (by decide)
    · exact z_throw (mi := mX10_stone) (cls := "java/lang/UnsupportedOperationException") (ic := 74) (i := 6) rfl (by decide) gX10_70 rfl rfl dX10_stone_17 dX10_stone_20 dX10_stone_21 dX10_stone_23 dX10_stone_26 (Nat.le_of_ble_eq_true rfl) (Nat.le_of_ble_eq_true rfl) (Nat.le_of_ble_eq_true rfl) (hE9 rn rd hz _ hC (zFC.set (by decide) _))
set_option maxHeartbeats 4000000 in
set_option maxRecDepth 10000 in
theorem sX10_flood {Γ : zG} {d : Nat} {G : zH} {ax : Nat → Nat} {bq m : Nat} {ρ : Nat → zSt} {γ : zSt} (hC : zCls G ax bq m ρ γ) {S F E K : Nat} (hN : zN (ρ 0) S F E K) {nx ct : Nat} (hX : zXN γ nx ct) {Post : zP} {p b h : Int32} (hO : zrFl (ρ 0) F p b h = none → ∀ G1, zCls G1 ax bq m (zrv (zkeepR ρ nx) 0 (zu (zu (zu (zu (ρ 0) 4 F p) 5 F b) 6 F h) 13 2 (nI (F + 1)))) (zkeepG γ nx ct) → zFC G G1 ax bq → Post (zvi (nI F)) G1) (hE9 : ∀ rn rd, zrFl (ρ 0) F p b h = some (rn, rd) → ∀ G1, zCls G1 ax bq m ρ (zref γ rn rd) → zFC G G1 ax bq → Post (.inr zUO) G1) : zMX Γ (d + 4) mX10_flood 1 6 [.ref (ax 0), .int p, .int b, .int h] G Post := by
  refine zMX_of pnX10 rfl (Nat.le_of_ble_eq_true rfl) rfl ?_
  refine z_aload_n dX10_flood_0 rfl ?_
  refine z_get dX10_flood_1 fX10_10.r (hC.1 _ (by decide)) rfl ?_
  refine z_iload_n dX10_flood_4 rfl ?_
  refine z_iload_n dX10_flood_5 rfl ?_
  refine z_iload_n dX10_flood_6 rfl ?_
  refine z_aload_n dX10_flood_7 rfl ?_
  refine z_get dX10_flood_8 fX10_38.r (hC.1 _ (by decide)) rfl ?_
  refine z_V4 (mi' := mX6_refusesFlood) dX10_flood_11 lX10_91 nX6_refusesFlood kX6_refusesFlood (by decide) (Nat.le_of_ble_eq_true rfl) (Nat.zero_le _) (Nat.zero_le _) ((hC.2.1 0 (by decide)).1 _ (by decide)) rfl rfl ?_
  refine sX6_refusesFlood (hC.2.1 0 (by decide)) hN (hC.1 3 (by decide)) (fun hz => ?_) (fun rn rd hz => ?_)
  · have hQ : zFC G G ax bq := zFC.rf
    refine z_if_eq (tgt := 27) dX10_flood_14 (by decide) (fun c1 => ?_) (fun c1 => ?_)
    · refine z_aload_n dX10_flood_27 rfl ?_
      refine z_get dX10_flood_28 fX10_31.r (hC.1 _ (by decide)) rfl ?_
      refine z_aload_n dX10_flood_31 rfl ?_
      refine z_get dX10_flood_32 fX10_10.r (hC.1 _ (by decide)) rfl ?_
      refine z_V1 (mi' := mX3_keep) dX10_flood_35 lX10_77 nX3_keep kX3_keep (by decide) (Nat.le_of_ble_eq_true rfl) (Nat.zero_le _) (Nat.zero_le _) (hC.1 _ (by decide)) rfl rfl ?_
      refine sX3_keep hC hX (fun _ hC hF => ?_)
      have hQ := hQ.tr hF
      have hR := hC.2.1 0 (by decide)
      rw [zkeepR_0] at hR
      refine z_aload_n dX10_flood_38 rfl ?_
      refine z_get dX10_flood_39 fX10_10.r (hC.1 _ (by decide)) rfl ?_
      refine z_get dX10_flood_42 fX10_96 ((hC.2.1 0 (by decide)).1 _ (by decide)) rfl ?_
      refine z_iload_n dX10_flood_45 rfl ?_
      refine z_iload_n dX10_flood_46 rfl ?_
      refine z_iload_n dX10_flood_47 rfl ?_
      refine z_V3 (mi' := mX2_add) dX10_flood_48 lX10_100 nX2_add kX2_add (by decide) (Nat.le_of_ble_eq_true rfl) (Nat.zero_le _) (Nat.zero_le _) ((hC.2.1 0 (by decide)).1 _ (by decide)) rfl rfl ?_
      refine sX2_add hR hN (zrFl_F hN hz) (fun _ hR hF => ?_)
      have hC := hC.riv (by decide) hR hF
      have hQ := hQ.tr (zFC.frm (by decide) hF)
      exact z_ireturn (mi := mX10_flood) dX10_flood_51 rfl rfl (Nat.zero_le _) (Nat.zero_le _) (hO hz _ hC hQ)
    · exact absurd rfl c1
  · have hC := hC.ref rn rd
    refine z_if_eq (tgt := 27) dX10_flood_14 (by decide) (fun c2 => ?_) (fun c2 => ?_)
    · exact absurd c2 (by decide)
    · exact z_throw (mi := mX10_flood) (cls := "java/lang/UnsupportedOperationException") (ic := 74) (i := 7) rfl (by decide) gX10_70 rfl rfl dX10_flood_17 dX10_flood_20 dX10_flood_21 dX10_flood_23 dX10_flood_26 (Nat.le_of_ble_eq_true rfl) (Nat.le_of_ble_eq_true rfl) (Nat.le_of_ble_eq_true rfl) (hE9 rn rd hz _ hC (zFC.set (by decide) _))
set_option maxHeartbeats 4000000 in
set_option maxRecDepth 10000 in
theorem sX10_epoch {Γ : zG} {d : Nat} {G : zH} {ax : Nat → Nat} {bq m : Nat} {ρ : Nat → zSt} {γ : zSt} (hC : zCls G ax bq m ρ γ) {S F E K : Nat} (hN : zN (ρ 0) S F E K) {nx ct : Nat} (hX : zXN γ nx ct) {Post : zP} {p b : Int32} (hO : zrEp (ρ 0) E p b = none → ∀ G1, zCls G1 ax bq m (zrv (zkeepR ρ nx) 0 (ztell (ρ 0) E p b)) (zkeepG γ nx ct) → zFC G G1 ax bq → Post (zvi (ztell (ρ 0) E p b 13 3)) G1) (hE9 : ∀ rn rd, zrEp (ρ 0) E p b = some (rn, rd) → ∀ G1, zCls G1 ax bq m ρ (zref γ rn rd) → zFC G G1 ax bq → Post (.inr zUO) G1) : zMX Γ (d + 4) mX10_epoch 1 6 [.ref (ax 0), .int p, .int b] G Post := by
  refine zMX_of pnX10 rfl (Nat.le_of_ble_eq_true rfl) rfl ?_
  refine z_aload_n dX10_epoch_0 rfl ?_
  refine z_get dX10_epoch_1 fX10_10.r (hC.1 _ (by decide)) rfl ?_
  refine z_iload_n dX10_epoch_4 rfl ?_
  refine z_iload_n dX10_epoch_5 rfl ?_
  refine z_aload_n dX10_epoch_6 rfl ?_
  refine z_get dX10_epoch_7 fX10_38.r (hC.1 _ (by decide)) rfl ?_
  refine z_V3 (mi' := mX6_refusesEpoch) dX10_epoch_10 lX10_101 nX6_refusesEpoch kX6_refusesEpoch (by decide) (Nat.le_of_ble_eq_true rfl) (Nat.zero_le _) (Nat.zero_le _) ((hC.2.1 0 (by decide)).1 _ (by decide)) rfl rfl ?_
  refine sX6_refusesEpoch (hC.2.1 0 (by decide)) hN (hC.1 3 (by decide)) (fun hz => ?_) (fun rn rd hz => ?_)
  · have hQ : zFC G G ax bq := zFC.rf
    refine z_if_eq (tgt := 26) dX10_epoch_13 (by decide) (fun c1 => ?_) (fun c1 => ?_)
    · refine z_aload_n dX10_epoch_26 rfl ?_
      refine z_get dX10_epoch_27 fX10_31.r (hC.1 _ (by decide)) rfl ?_
      refine z_aload_n dX10_epoch_30 rfl ?_
      refine z_get dX10_epoch_31 fX10_10.r (hC.1 _ (by decide)) rfl ?_
      refine z_V1 (mi' := mX3_keep) dX10_epoch_34 lX10_77 nX3_keep kX3_keep (by decide) (Nat.le_of_ble_eq_true rfl) (Nat.zero_le _) (Nat.zero_le _) (hC.1 _ (by decide)) rfl rfl ?_
      refine sX3_keep hC hX (fun _ hC hF => ?_)
      have hQ := hQ.tr hF
      have hR := hC.2.1 0 (by decide)
      rw [zkeepR_0] at hR
      refine z_aload_n dX10_epoch_37 rfl ?_
      refine z_get dX10_epoch_38 fX10_10.r (hC.1 _ (by decide)) rfl ?_
      refine z_get dX10_epoch_41 fX10_107 ((hC.2.1 0 (by decide)).1 _ (by decide)) rfl ?_
      refine z_iload_n dX10_epoch_44 rfl ?_
      refine z_iload_n dX10_epoch_45 rfl ?_
      refine z_V2 (mi' := mX1_tell) dX10_epoch_46 lX10_111 nX1_tell kX1_tell (by decide) (Nat.le_of_ble_eq_true rfl) (Nat.zero_le _) (Nat.zero_le _) ((hC.2.1 0 (by decide)).1 _ (by decide)) rfl rfl ?_
      refine sX1_tell hR hN (zrEp_E hN hz) (fun _ hR hF => ?_)
      have hC := hC.riv (by decide) hR hF
      have hQ := hQ.tr (zFC.frm (by decide) hF)
      exact z_ireturn (mi := mX10_epoch) dX10_epoch_49 rfl rfl (Nat.zero_le _) (Nat.zero_le _) (hO hz _ hC hQ)
    · exact absurd rfl c1
  · have hC := hC.ref rn rd
    refine z_if_eq (tgt := 26) dX10_epoch_13 (by decide) (fun c2 => ?_) (fun c2 => ?_)
    · exact absurd c2 (by decide)
    · exact z_throw (mi := mX10_epoch) (cls := "java/lang/UnsupportedOperationException") (ic := 74) (i := 8) rfl (by decide) gX10_70 rfl rfl dX10_epoch_16 dX10_epoch_19 dX10_epoch_20 dX10_epoch_22 dX10_epoch_25 (Nat.le_of_ble_eq_true rfl) (Nat.le_of_ble_eq_true rfl) (Nat.le_of_ble_eq_true rfl) (hE9 rn rd hz _ hC (zFC.set (by decide) _))
set_option maxHeartbeats 4000000 in
set_option maxRecDepth 10000 in
theorem sX10_chisel {Γ : zG} {d : Nat} {G : zH} {ax : Nat → Nat} {bq m : Nat} {ρ : Nat → zSt} {γ : zSt} (hC : zCls G ax bq m ρ γ) {S F E K : Nat} (hN : zN (ρ 0) S F E K) {nx ct : Nat} (hX : zXN γ nx ct) {Post : zP}  (hO : zrCh (ρ 0) = none → ∀ G1, zCls G1 ax bq m (zrv (zkeepR ρ nx) 0 (zu (zu (ρ 0) 9 K 20) 13 4 (nI (K + 1)))) (zkeepG γ nx ct) → zFC G G1 ax bq → Post (zvi (nI K)) G1) (hE9 : ∀ rn rd, zrCh (ρ 0) = some (rn, rd) → ∀ G1, zCls G1 ax bq m ρ (zref γ rn rd) → zFC G G1 ax bq → Post (.inr zUO) G1) : zMX Γ (d + 4) mX10_chisel 1 6 [.ref (ax 0)] G Post := by
  refine zMX_of pnX10 rfl (Nat.le_of_ble_eq_true rfl) rfl ?_
  refine z_aload_n dX10_chisel_0 rfl ?_
  refine z_get dX10_chisel_1 fX10_10.r (hC.1 _ (by decide)) rfl ?_
  refine z_aload_n dX10_chisel_4 rfl ?_
  refine z_get dX10_chisel_5 fX10_38.r (hC.1 _ (by decide)) rfl ?_
  refine z_V1 (mi' := mX6_refusesChisel) dX10_chisel_8 lX10_117 nX6_refusesChisel kX6_refusesChisel (by decide) (Nat.le_of_ble_eq_true rfl) (Nat.zero_le _) (Nat.zero_le _) ((hC.2.1 0 (by decide)).1 _ (by decide)) rfl rfl ?_
  refine sX6_refusesChisel (hC.2.1 0 (by decide)) (hC.1 3 (by decide)) (fun hz => ?_) (fun rn rd hz => ?_)
  · have hQ : zFC G G ax bq := zFC.rf
    refine z_if_eq (tgt := 24) dX10_chisel_11 (by decide) (fun c1 => ?_) (fun c1 => ?_)
    · refine z_aload_n dX10_chisel_24 rfl ?_
      refine z_get dX10_chisel_25 fX10_31.r (hC.1 _ (by decide)) rfl ?_
      refine z_aload_n dX10_chisel_28 rfl ?_
      refine z_get dX10_chisel_29 fX10_10.r (hC.1 _ (by decide)) rfl ?_
      refine z_V1 (mi' := mX3_keep) dX10_chisel_32 lX10_77 nX3_keep kX3_keep (by decide) (Nat.le_of_ble_eq_true rfl) (Nat.zero_le _) (Nat.zero_le _) (hC.1 _ (by decide)) rfl rfl ?_
      refine sX3_keep hC hX (fun _ hC hF => ?_)
      have hQ := hQ.tr hF
      have hR := hC.2.1 0 (by decide)
      rw [zkeepR_0] at hR
      refine z_aload_n dX10_chisel_35 rfl ?_
      refine z_get dX10_chisel_36 fX10_10.r (hC.1 _ (by decide)) rfl ?_
      refine z_get dX10_chisel_39 fX10_123 ((hC.2.1 0 (by decide)).1 _ (by decide)) rfl ?_
      refine z_V0 (mi' := mX0_add) dX10_chisel_42 lX10_127 nX0_add kX0_add (by decide) (Nat.le_of_ble_eq_true rfl) (Nat.zero_le _) (Nat.zero_le _) ((hC.2.1 0 (by decide)).1 _ (by decide)) rfl rfl ?_
      refine sX0_add hR hN (zrCh_K hN hz) (fun _ hR hF => ?_)
      have hC := hC.riv (by decide) hR hF
      have hQ := hQ.tr (zFC.frm (by decide) hF)
      exact z_ireturn (mi := mX10_chisel) dX10_chisel_45 rfl rfl (Nat.zero_le _) (Nat.zero_le _) (hO hz _ hC hQ)
    · exact absurd rfl c1
  · have hC := hC.ref rn rd
    refine z_if_eq (tgt := 24) dX10_chisel_11 (by decide) (fun c2 => ?_) (fun c2 => ?_)
    · exact absurd c2 (by decide)
    · exact z_throw (mi := mX10_chisel) (cls := "java/lang/UnsupportedOperationException") (ic := 74) (i := 9) rfl (by decide) gX10_70 rfl rfl dX10_chisel_14 dX10_chisel_17 dX10_chisel_18 dX10_chisel_20 dX10_chisel_23 (Nat.le_of_ble_eq_true rfl) (Nat.le_of_ble_eq_true rfl) (Nat.le_of_ble_eq_true rfl) (hE9 rn rd hz _ hC (zFC.set (by decide) _))
set_option maxHeartbeats 4000000 in
set_option maxRecDepth 10000 in
theorem sX10_cut {Γ : zG} {d : Nat} {G : zH} {ax : Nat → Nat} {bq m : Nat} {ρ : Nat → zSt} {γ : zSt} (hC : zCls G ax bq m ρ γ) {S F E K : Nat} (hN : zN (ρ 0) S F E K) {nx ct : Nat} (hX : zXN γ nx ct) {Post : zP} {x y z : Int32} (hO : zrCu (ρ 0) E x y z = none → ∀ s f c : Nat, s < S → f < F → c < K → x = nI s → y = nI f → z = nI c → ∀ G1, zCls G1 ax bq m (zrv (zkeepR ρ nx) 0 (zcut (ρ 0) E s f c)) (zkeepG γ nx ct) → zFC G G1 ax bq → Post (zvi (zread (ρ 0) E s f)) G1) (hE9 : ∀ rn rd, zrCu (ρ 0) E x y z = some (rn, rd) → ∀ G1, zCls G1 ax bq m ρ (zref γ rn rd) → zFC G G1 ax bq → Post (.inr zUO) G1) : zMX Γ (d + 5) mX10_cut 1 6 [.ref (ax 0), .int x, .int y, .int z] G Post := by
  refine zMX_of pnX10 rfl (Nat.le_of_ble_eq_true rfl) rfl ?_
  refine z_aload_n dX10_cut_0 rfl ?_
  refine z_get dX10_cut_1 fX10_10.r (hC.1 _ (by decide)) rfl ?_
  refine z_iload_n dX10_cut_4 rfl ?_
  refine z_iload_n dX10_cut_5 rfl ?_
  refine z_iload_n dX10_cut_6 rfl ?_
  refine z_aload_n dX10_cut_7 rfl ?_
  refine z_get dX10_cut_8 fX10_38.r (hC.1 _ (by decide)) rfl ?_
  refine z_V4 (mi' := mX6_refusesCut) dX10_cut_11 lX10_132 nX6_refusesCut kX6_refusesCut (by decide) (Nat.le_of_ble_eq_true rfl) (Nat.zero_le _) (Nat.zero_le _) ((hC.2.1 0 (by decide)).1 _ (by decide)) rfl rfl ?_
  refine sX6_refusesCut (hC.2.1 0 (by decide)) hN (hC.1 3 (by decide)) (fun hz => ?_) (fun rn rd hz => ?_)
  · have hQ : zFC G G ax bq := zFC.rf
    obtain ⟨hS, hS6, hF, hF12, hE, hE4, hK, hK3⟩ := id hN
    obtain ⟨s, f, c, ⟨hs, hf, hc9⟩, rfl, rfl, rfl⟩ := zrCu_n hN hz
    refine z_if_eq (tgt := 27) dX10_cut_14 (by decide) (fun c1 => ?_) (fun c1 => ?_)
    · refine z_aload_n dX10_cut_27 rfl ?_
      refine z_get dX10_cut_28 fX10_31.r (hC.1 _ (by decide)) rfl ?_
      refine z_aload_n dX10_cut_31 rfl ?_
      refine z_get dX10_cut_32 fX10_10.r (hC.1 _ (by decide)) rfl ?_
      refine z_V1 (mi' := mX3_keep) dX10_cut_35 lX10_77 nX3_keep kX3_keep (by decide) (Nat.le_of_ble_eq_true rfl) (Nat.zero_le _) (Nat.zero_le _) (hC.1 _ (by decide)) rfl rfl ?_
      refine sX3_keep hC hX (fun _ hC hF => ?_)
      have hQ := hQ.tr hF
      have hR := hC.2.1 0 (by decide)
      rw [zkeepR_0] at hR
      refine z_aload_n dX10_cut_38 rfl ?_
      refine z_get dX10_cut_39 fX10_10.r (hC.1 _ (by decide)) rfl ?_
      refine z_iload_n dX10_cut_42 rfl ?_
      refine z_iload_n dX10_cut_43 rfl ?_
      refine z_iload_n dX10_cut_44 rfl ?_
      refine z_V3 (mi' := mX6_cutMark) dX10_cut_45 lX10_137 nX6_cutMark kX6_cutMark (by decide) (Nat.le_of_ble_eq_true rfl) (Nat.zero_le _) (Nat.zero_le _) ((hC.2.1 0 (by decide)).1 _ (by decide)) rfl rfl ?_
      refine sX6_cutMark hR hN (show s < 6 by omega) (show f < 12 by omega) (show c < 3 by omega) (fun _ hR hF => ?_)
      have hC := hC.riv (by decide) hR hF
      have hQ := hQ.tr (zFC.frm (by decide) hF)
      exact z_ireturn (mi := mX10_cut) dX10_cut_48 rfl rfl (Nat.zero_le _) (Nat.zero_le _) (hO hz s f c hs hf hc9 rfl rfl rfl _ hC hQ)
    · exact absurd rfl c1
  · have hC := hC.ref rn rd
    refine z_if_eq (tgt := 27) dX10_cut_14 (by decide) (fun c2 => ?_) (fun c2 => ?_)
    · exact absurd c2 (by decide)
    · exact z_throw (mi := mX10_cut) (cls := "java/lang/UnsupportedOperationException") (ic := 74) (i := 10) rfl (by decide) gX10_70 rfl rfl dX10_cut_17 dX10_cut_20 dX10_cut_21 dX10_cut_23 dX10_cut_26 (Nat.le_of_ble_eq_true rfl) (Nat.le_of_ble_eq_true rfl) (Nat.le_of_ble_eq_true rfl) (hE9 rn rd hz _ hC (zFC.set (by decide) _))
set_option maxHeartbeats 4000000 in
set_option maxRecDepth 10000 in
theorem sX10_efface {Γ : zG} {d : Nat} {G : zH} {ax : Nat → Nat} {bq m : Nat} {ρ : Nat → zSt} {γ : zSt} (hC : zCls G ax bq m ρ γ) {S F E K : Nat} (hN : zN (ρ 0) S F E K) {nx ct : Nat} (hX : zXN γ nx ct) {Post : zP} {x y : Int32} (hO : zrEf (ρ 0) x y = none → ∀ s f : Nat, s < S → f < F → x = nI s → y = nI f → ∀ G1, zCls G1 ax bq m (zrv (zkeepR ρ nx) 0 (zu (zu (ρ 0) 11 (12 * s + f) 0) 13 6 (ρ 0 13 6 + 1))) (zkeepG γ nx ct) → zFC G G1 ax bq → Post (zvi (ρ 0 10 (12 * s + f))) G1) (hE9 : ∀ rn rd, zrEf (ρ 0) x y = some (rn, rd) → ∀ G1, zCls G1 ax bq m ρ (zref γ rn rd) → zFC G G1 ax bq → Post (.inr zUO) G1) : zMX Γ (d + 4) mX10_efface 1 6 [.ref (ax 0), .int x, .int y] G Post := by
  refine zMX_of pnX10 rfl (Nat.le_of_ble_eq_true rfl) rfl ?_
  refine z_aload_n dX10_efface_0 rfl ?_
  refine z_get dX10_efface_1 fX10_10.r (hC.1 _ (by decide)) rfl ?_
  refine z_iload_n dX10_efface_4 rfl ?_
  refine z_iload_n dX10_efface_5 rfl ?_
  refine z_aload_n dX10_efface_6 rfl ?_
  refine z_get dX10_efface_7 fX10_38.r (hC.1 _ (by decide)) rfl ?_
  refine z_V3 (mi' := mX6_refusesEfface) dX10_efface_10 lX10_140 nX6_refusesEfface kX6_refusesEfface (by decide) (Nat.le_of_ble_eq_true rfl) (Nat.zero_le _) (Nat.zero_le _) ((hC.2.1 0 (by decide)).1 _ (by decide)) rfl rfl ?_
  refine sX6_refusesEfface (hC.2.1 0 (by decide)) hN (hC.1 3 (by decide)) (fun hz => ?_) (fun rn rd hz => ?_)
  · have hQ : zFC G G ax bq := zFC.rf
    obtain ⟨hS, hS6, hF, hF12, hE, hE4, hK, hK3⟩ := id hN
    obtain ⟨s, f, ⟨hs, hf⟩, rfl, rfl⟩ := zrEf_n hN hz
    refine z_if_eq (tgt := 26) dX10_efface_13 (by decide) (fun c1 => ?_) (fun c1 => ?_)
    · refine z_aload_n dX10_efface_26 rfl ?_
      refine z_get dX10_efface_27 fX10_31.r (hC.1 _ (by decide)) rfl ?_
      refine z_aload_n dX10_efface_30 rfl ?_
      refine z_get dX10_efface_31 fX10_10.r (hC.1 _ (by decide)) rfl ?_
      refine z_V1 (mi' := mX3_keep) dX10_efface_34 lX10_77 nX3_keep kX3_keep (by decide) (Nat.le_of_ble_eq_true rfl) (Nat.zero_le _) (Nat.zero_le _) (hC.1 _ (by decide)) rfl rfl ?_
      refine sX3_keep hC hX (fun _ hC hF => ?_)
      have hQ := hQ.tr hF
      have hR := hC.2.1 0 (by decide)
      rw [zkeepR_0] at hR
      refine z_aload_n dX10_efface_37 rfl ?_
      refine z_get dX10_efface_38 fX10_10.r (hC.1 _ (by decide)) rfl ?_
      refine z_get dX10_efface_41 fX10_145 ((hC.2.1 0 (by decide)).1 _ (by decide)) rfl ?_
      refine z_iload_n dX10_efface_44 rfl ?_
      refine z_iload_n dX10_efface_45 rfl ?_
      refine z_V2 (mi' := mX4_takeOff) dX10_efface_46 lX10_149 nX4_takeOff kX4_takeOff (by decide) (Nat.le_of_ble_eq_true rfl) (Nat.zero_le _) (Nat.zero_le _) ((hC.2.1 0 (by decide)).1 _ (by decide)) rfl rfl ?_
      refine sX4_takeOff hR (show s < 6 by omega) (show f < 12 by omega) (fun _ hR hF => ?_)
      have hC := hC.riv (by decide) hR hF
      have hQ := hQ.tr (zFC.frm (by decide) hF)
      exact z_ireturn (mi := mX10_efface) dX10_efface_49 rfl rfl (Nat.zero_le _) (Nat.zero_le _) (hO hz s f hs hf rfl rfl _ hC hQ)
    · exact absurd rfl c1
  · have hC := hC.ref rn rd
    refine z_if_eq (tgt := 26) dX10_efface_13 (by decide) (fun c2 => ?_) (fun c2 => ?_)
    · exact absurd c2 (by decide)
    · exact z_throw (mi := mX10_efface) (cls := "java/lang/UnsupportedOperationException") (ic := 74) (i := 11) rfl (by decide) gX10_70 rfl rfl dX10_efface_16 dX10_efface_19 dX10_efface_20 dX10_efface_22 dX10_efface_25 (Nat.le_of_ble_eq_true rfl) (Nat.le_of_ble_eq_true rfl) (Nat.le_of_ble_eq_true rfl) (hE9 rn rd hz _ hC (zFC.set (by decide) _))
set_option maxHeartbeats 4000000 in
set_option maxRecDepth 10000 in
theorem sX10_sharpen {Γ : zG} {d : Nat} {G : zH} {ax : Nat → Nat} {bq m : Nat} {ρ : Nat → zSt} {γ : zSt} (hC : zCls G ax bq m ρ γ) {S F E K : Nat} (hN : zN (ρ 0) S F E K) {nx ct : Nat} (hX : zXN γ nx ct) {Post : zP} {z : Int32} (hO : zrSh (ρ 0) z = none → ∀ c : Nat, c < K → z = nI c → ∀ G1, zCls G1 ax bq m (zrv (zkeepR ρ nx) 0 (zu (ρ 0) 9 c 20)) (zkeepG γ nx ct) → zFC G G1 ax bq → Post (zvi (ρ 0 9 c)) G1) (hE9 : ∀ rn rd, zrSh (ρ 0) z = some (rn, rd) → ∀ G1, zCls G1 ax bq m ρ (zref γ rn rd) → zFC G G1 ax bq → Post (.inr zUO) G1) : zMX Γ (d + 4) mX10_sharpen 1 6 [.ref (ax 0), .int z] G Post := by
  refine zMX_of pnX10 rfl (Nat.le_of_ble_eq_true rfl) rfl ?_
  refine z_aload_n dX10_sharpen_0 rfl ?_
  refine z_get dX10_sharpen_1 fX10_10.r (hC.1 _ (by decide)) rfl ?_
  refine z_iload_n dX10_sharpen_4 rfl ?_
  refine z_aload_n dX10_sharpen_5 rfl ?_
  refine z_get dX10_sharpen_6 fX10_38.r (hC.1 _ (by decide)) rfl ?_
  refine z_V2 (mi' := mX6_refusesSharpen) dX10_sharpen_9 lX10_154 nX6_refusesSharpen kX6_refusesSharpen (by decide) (Nat.le_of_ble_eq_true rfl) (Nat.zero_le _) (Nat.zero_le _) ((hC.2.1 0 (by decide)).1 _ (by decide)) rfl rfl ?_
  refine sX6_refusesSharpen (hC.2.1 0 (by decide)) (hC.1 3 (by decide)) (fun hz => ?_) (fun rn rd hz => ?_)
  · have hQ : zFC G G ax bq := zFC.rf
    obtain ⟨hS, hS6, hF, hF12, hE, hE4, hK, hK3⟩ := id hN
    obtain ⟨c, hc9, rfl⟩ := zrSh_n hN hz
    refine z_if_eq (tgt := 25) dX10_sharpen_12 (by decide) (fun c1 => ?_) (fun c1 => ?_)
    · refine z_aload_n dX10_sharpen_25 rfl ?_
      refine z_get dX10_sharpen_26 fX10_31.r (hC.1 _ (by decide)) rfl ?_
      refine z_aload_n dX10_sharpen_29 rfl ?_
      refine z_get dX10_sharpen_30 fX10_10.r (hC.1 _ (by decide)) rfl ?_
      refine z_V1 (mi' := mX3_keep) dX10_sharpen_33 lX10_77 nX3_keep kX3_keep (by decide) (Nat.le_of_ble_eq_true rfl) (Nat.zero_le _) (Nat.zero_le _) (hC.1 _ (by decide)) rfl rfl ?_
      refine sX3_keep hC hX (fun _ hC hF => ?_)
      have hQ := hQ.tr hF
      have hR := hC.2.1 0 (by decide)
      rw [zkeepR_0] at hR
      refine z_aload_n dX10_sharpen_36 rfl ?_
      refine z_get dX10_sharpen_37 fX10_10.r (hC.1 _ (by decide)) rfl ?_
      refine z_get dX10_sharpen_40 fX10_123 ((hC.2.1 0 (by decide)).1 _ (by decide)) rfl ?_
      refine z_iload_n dX10_sharpen_43 rfl ?_
      refine z_V1 (mi' := mX0_renew) dX10_sharpen_44 lX10_160 nX0_renew kX0_renew (by decide) (Nat.le_of_ble_eq_true rfl) (Nat.zero_le _) (Nat.zero_le _) ((hC.2.1 0 (by decide)).1 _ (by decide)) rfl rfl ?_
      refine sX0_renew hR (show c < 3 by omega) (fun _ hR hF => ?_)
      have hC := hC.riv (by decide) hR hF
      have hQ := hQ.tr (zFC.frm (by decide) hF)
      exact z_ireturn (mi := mX10_sharpen) dX10_sharpen_47 rfl rfl (Nat.zero_le _) (Nat.zero_le _) (hO hz c hc9 rfl _ hC hQ)
    · exact absurd rfl c1
  · have hC := hC.ref rn rd
    refine z_if_eq (tgt := 25) dX10_sharpen_12 (by decide) (fun c2 => ?_) (fun c2 => ?_)
    · exact absurd c2 (by decide)
    · exact z_throw (mi := mX10_sharpen) (cls := "java/lang/UnsupportedOperationException") (ic := 74) (i := 12) rfl (by decide) gX10_70 rfl rfl dX10_sharpen_15 dX10_sharpen_18 dX10_sharpen_19 dX10_sharpen_21 dX10_sharpen_24 (Nat.le_of_ble_eq_true rfl) (Nat.le_of_ble_eq_true rfl) (Nat.le_of_ble_eq_true rfl) (hE9 rn rd hz _ hC (zFC.set (by decide) _))
set_option maxHeartbeats 4000000 in
set_option maxRecDepth 10000 in
theorem sX10_check {Γ : zG} {d : Nat} {G : zH} {ax : Nat → Nat} {bq m : Nat} {ρ : Nat → zSt} {γ : zSt} (hC : zCls G ax bq m ρ γ) {S F E K : Nat} (hN : zN (ρ 0) S F E K) {nx ct : Nat} (hX : zXN γ nx ct) {Post : zP} {x : Int32} (hO : zrCk (ρ 0) x = none → ∀ s : Nat, s < S → x = nI s → ∀ G1, zCls G1 ax bq m (zrv (zkeepR ρ nx) 0 (zu (ρ 0) 3 s 0)) (zkeepG γ nx ct) → zFC G G1 ax bq → Post (zvi (ρ 0 3 s)) G1) (hE9 : ∀ rn rd, zrCk (ρ 0) x = some (rn, rd) → ∀ G1, zCls G1 ax bq m ρ (zref γ rn rd) → zFC G G1 ax bq → Post (.inr zUO) G1) : zMX Γ (d + 4) mX10_check 1 6 [.ref (ax 0), .int x] G Post := by
  refine zMX_of pnX10 rfl (Nat.le_of_ble_eq_true rfl) rfl ?_
  refine z_aload_n dX10_check_0 rfl ?_
  refine z_get dX10_check_1 fX10_10.r (hC.1 _ (by decide)) rfl ?_
  refine z_iload_n dX10_check_4 rfl ?_
  refine z_aload_n dX10_check_5 rfl ?_
  refine z_get dX10_check_6 fX10_38.r (hC.1 _ (by decide)) rfl ?_
  refine z_V2 (mi' := mX6_refusesCheck) dX10_check_9 lX10_164 nX6_refusesCheck kX6_refusesCheck (by decide) (Nat.le_of_ble_eq_true rfl) (Nat.zero_le _) (Nat.zero_le _) ((hC.2.1 0 (by decide)).1 _ (by decide)) rfl rfl ?_
  refine sX6_refusesCheck (hC.2.1 0 (by decide)) (hC.1 3 (by decide)) (fun hz => ?_) (fun rn rd hz => ?_)
  · have hQ : zFC G G ax bq := zFC.rf
    obtain ⟨hS, hS6, hF, hF12, hE, hE4, hK, hK3⟩ := id hN
    obtain ⟨s, hs, rfl⟩ := zrCk_n hN hz
    refine z_if_eq (tgt := 25) dX10_check_12 (by decide) (fun c1 => ?_) (fun c1 => ?_)
    · refine z_aload_n dX10_check_25 rfl ?_
      refine z_get dX10_check_26 fX10_31.r (hC.1 _ (by decide)) rfl ?_
      refine z_aload_n dX10_check_29 rfl ?_
      refine z_get dX10_check_30 fX10_10.r (hC.1 _ (by decide)) rfl ?_
      refine z_V1 (mi' := mX3_keep) dX10_check_33 lX10_77 nX3_keep kX3_keep (by decide) (Nat.le_of_ble_eq_true rfl) (Nat.zero_le _) (Nat.zero_le _) (hC.1 _ (by decide)) rfl rfl ?_
      refine sX3_keep hC hX (fun _ hC hF => ?_)
      have hQ := hQ.tr hF
      have hR := hC.2.1 0 (by decide)
      rw [zkeepR_0] at hR
      refine z_aload_n dX10_check_36 rfl ?_
      refine z_get dX10_check_37 fX10_10.r (hC.1 _ (by decide)) rfl ?_
      refine z_get dX10_check_40 fX10_81 ((hC.2.1 0 (by decide)).1 _ (by decide)) rfl ?_
      refine z_iload_n dX10_check_43 rfl ?_
      refine z_V1 (mi' := mX8_setRight) dX10_check_44 lX10_169 nX8_setRight kX8_setRight (by decide) (Nat.le_of_ble_eq_true rfl) (Nat.zero_le _) (Nat.zero_le _) ((hC.2.1 0 (by decide)).1 _ (by decide)) rfl rfl ?_
      refine sX8_setRight hR (show s < 6 by omega) (fun _ hR hF => ?_)
      have hC := hC.riv (by decide) hR hF
      have hQ := hQ.tr (zFC.frm (by decide) hF)
      exact z_ireturn (mi := mX10_check) dX10_check_47 rfl rfl (Nat.zero_le _) (Nat.zero_le _) (hO hz s hs rfl _ hC hQ)
    · exact absurd rfl c1
  · have hC := hC.ref rn rd
    refine z_if_eq (tgt := 25) dX10_check_12 (by decide) (fun c2 => ?_) (fun c2 => ?_)
    · exact absurd c2 (by decide)
    · exact z_throw (mi := mX10_check) (cls := "java/lang/UnsupportedOperationException") (ic := 74) (i := 13) rfl (by decide) gX10_70 rfl rfl dX10_check_15 dX10_check_18 dX10_check_19 dX10_check_21 dX10_check_24 (Nat.le_of_ble_eq_true rfl) (Nat.le_of_ble_eq_true rfl) (Nat.le_of_ble_eq_true rfl) (hE9 rn rd hz _ hC (zFC.set (by decide) _))
set_option maxHeartbeats 4000000 in
set_option maxRecDepth 10000 in
theorem sX10_witness {Γ : zG} {d : Nat} {G : zH} {ax : Nat → Nat} {bq m : Nat} {ρ : Nat → zSt} {γ : zSt} (hC : zCls G ax bq m ρ γ) {S F E K : Nat} (hN : zN (ρ 0) S F E K) {nx ct : Nat} (hX : zXN γ nx ct) {Post : zP} {y w : Int32} (hO : zrWi (ρ 0) y w = none → ∀ f : Nat, f < F → y = nI f → ∀ G1, zCls G1 ax bq m (zrv (zkeepR ρ nx) 0 (zu (ρ 0) 6 f (ρ 0 6 f + w))) (zkeepG γ nx ct) → zFC G G1 ax bq → Post (zvi (ρ 0 6 f + w)) G1) (hE9 : ∀ rn rd, zrWi (ρ 0) y w = some (rn, rd) → ∀ G1, zCls G1 ax bq m ρ (zref γ rn rd) → zFC G G1 ax bq → Post (.inr zUO) G1) : zMX Γ (d + 4) mX10_witness 1 6 [.ref (ax 0), .int y, .int w] G Post := by
  refine zMX_of pnX10 rfl (Nat.le_of_ble_eq_true rfl) rfl ?_
  refine z_aload_n dX10_witness_0 rfl ?_
  refine z_get dX10_witness_1 fX10_10.r (hC.1 _ (by decide)) rfl ?_
  refine z_iload_n dX10_witness_4 rfl ?_
  refine z_iload_n dX10_witness_5 rfl ?_
  refine z_aload_n dX10_witness_6 rfl ?_
  refine z_get dX10_witness_7 fX10_38.r (hC.1 _ (by decide)) rfl ?_
  refine z_V3 (mi' := mX6_refusesWitness) dX10_witness_10 lX10_172 nX6_refusesWitness kX6_refusesWitness (by decide) (Nat.le_of_ble_eq_true rfl) (Nat.zero_le _) (Nat.zero_le _) ((hC.2.1 0 (by decide)).1 _ (by decide)) rfl rfl ?_
  refine sX6_refusesWitness (hC.2.1 0 (by decide)) hN (hC.1 3 (by decide)) (fun hz => ?_) (fun rn rd hz => ?_)
  · have hQ : zFC G G ax bq := zFC.rf
    obtain ⟨hS, hS6, hF, hF12, hE, hE4, hK, hK3⟩ := id hN
    obtain ⟨f, hf, rfl⟩ := zrWi_n hN hz
    refine z_if_eq (tgt := 26) dX10_witness_13 (by decide) (fun c1 => ?_) (fun c1 => ?_)
    · refine z_aload_n dX10_witness_26 rfl ?_
      refine z_get dX10_witness_27 fX10_31.r (hC.1 _ (by decide)) rfl ?_
      refine z_aload_n dX10_witness_30 rfl ?_
      refine z_get dX10_witness_31 fX10_10.r (hC.1 _ (by decide)) rfl ?_
      refine z_V1 (mi' := mX3_keep) dX10_witness_34 lX10_77 nX3_keep kX3_keep (by decide) (Nat.le_of_ble_eq_true rfl) (Nat.zero_le _) (Nat.zero_le _) (hC.1 _ (by decide)) rfl rfl ?_
      refine sX3_keep hC hX (fun _ hC hF => ?_)
      have hQ := hQ.tr hF
      have hR := hC.2.1 0 (by decide)
      rw [zkeepR_0] at hR
      refine z_aload_n dX10_witness_37 rfl ?_
      refine z_get dX10_witness_38 fX10_10.r (hC.1 _ (by decide)) rfl ?_
      refine z_get dX10_witness_41 fX10_96 ((hC.2.1 0 (by decide)).1 _ (by decide)) rfl ?_
      refine z_iload_n dX10_witness_44 rfl ?_
      refine z_iload_n dX10_witness_45 rfl ?_
      refine z_V2 (mi' := mX2_addWitnesses) dX10_witness_46 lX10_177 nX2_addWitnesses kX2_addWitnesses (by decide) (Nat.le_of_ble_eq_true rfl) (Nat.zero_le _) (Nat.zero_le _) ((hC.2.1 0 (by decide)).1 _ (by decide)) rfl rfl ?_
      refine sX2_addWitnesses hR (show f < 12 by omega) (fun _ hR hF => ?_)
      have hC := hC.riv (by decide) hR hF
      have hQ := hQ.tr (zFC.frm (by decide) hF)
      exact z_ireturn (mi := mX10_witness) dX10_witness_49 rfl rfl (Nat.zero_le _) (Nat.zero_le _) (hO hz f hf rfl _ hC hQ)
    · exact absurd rfl c1
  · have hC := hC.ref rn rd
    refine z_if_eq (tgt := 26) dX10_witness_13 (by decide) (fun c2 => ?_) (fun c2 => ?_)
    · exact absurd c2 (by decide)
    · exact z_throw (mi := mX10_witness) (cls := "java/lang/UnsupportedOperationException") (ic := 74) (i := 14) rfl (by decide) gX10_70 rfl rfl dX10_witness_16 dX10_witness_19 dX10_witness_20 dX10_witness_22 dX10_witness_25 (Nat.le_of_ble_eq_true rfl) (Nat.le_of_ble_eq_true rfl) (Nat.le_of_ble_eq_true rfl) (hE9 rn rd hz _ hC (zFC.set (by decide) _))
set_option maxHeartbeats 4000000 in
set_option maxRecDepth 10000 in
theorem sX10_years {Γ : zG} {d : Nat} {G : zH} {ax : Nat → Nat} {bq m : Nat} {ρ : Nat → zSt} {γ : zSt} (hC : zCls G ax bq m ρ γ) {S F E K : Nat} (hN : zN (ρ 0) S F E K) {nx ct : Nat} (hX : zXN γ nx ct) {Post : zP} {y : Int32} (hO : zrYe y = none → ∀ j : Nat, 1 ≤ j → j ≤ 60 → y = nI j → ∀ G1, zCls G1 ax bq m (zrv (zkeepR ρ nx) 0 ((zyrs (ρ 0) S j).1)) (zkeepG γ nx ct) → zFC G G1 ax bq → Post (zvi (nI (zyrs (ρ 0) S j).2)) G1) (hE9 : ∀ rn rd, zrYe y = some (rn, rd) → ∀ G1, zCls G1 ax bq m ρ (zref γ rn rd) → zFC G G1 ax bq → Post (.inr zUO) G1) : zMX Γ (d + 4) mX10_years 1 6 [.ref (ax 0), .int y] G Post := by
  refine zMX_of pnX10 rfl (Nat.le_of_ble_eq_true rfl) rfl ?_
  refine z_aload_n dX10_years_0 rfl ?_
  refine z_get dX10_years_1 fX10_10.r (hC.1 _ (by decide)) rfl ?_
  refine z_iload_n dX10_years_4 rfl ?_
  refine z_aload_n dX10_years_5 rfl ?_
  refine z_get dX10_years_6 fX10_38.r (hC.1 _ (by decide)) rfl ?_
  refine z_V2 (mi' := mX6_refusesYears) dX10_years_9 lX10_180 nX6_refusesYears kX6_refusesYears (by decide) (Nat.le_of_ble_eq_true rfl) (Nat.zero_le _) (Nat.zero_le _) ((hC.2.1 0 (by decide)).1 _ (by decide)) rfl rfl ?_
  refine sX6_refusesYears (hC.2.1 0 (by decide)) (hC.1 3 (by decide)) (fun hz => ?_) (fun rn rd hz => ?_)
  · have hQ : zFC G G ax bq := zFC.rf
    obtain ⟨hS, hS6, hF, hF12, hE, hE4, hK, hK3⟩ := id hN
    obtain ⟨j, ⟨hj1, hj2⟩, rfl⟩ := zrYe_n hz
    refine z_if_eq (tgt := 25) dX10_years_12 (by decide) (fun c1 => ?_) (fun c1 => ?_)
    · refine z_aload_n dX10_years_25 rfl ?_
      refine z_get dX10_years_26 fX10_31.r (hC.1 _ (by decide)) rfl ?_
      refine z_aload_n dX10_years_29 rfl ?_
      refine z_get dX10_years_30 fX10_10.r (hC.1 _ (by decide)) rfl ?_
      refine z_V1 (mi' := mX3_keep) dX10_years_33 lX10_77 nX3_keep kX3_keep (by decide) (Nat.le_of_ble_eq_true rfl) (Nat.zero_le _) (Nat.zero_le _) (hC.1 _ (by decide)) rfl rfl ?_
      refine sX3_keep hC hX (fun _ hC hF => ?_)
      have hQ := hQ.tr hF
      have hR := hC.2.1 0 (by decide)
      rw [zkeepR_0] at hR
      refine z_aload_n dX10_years_36 rfl ?_
      refine z_get dX10_years_37 fX10_10.r (hC.1 _ (by decide)) rfl ?_
      refine z_iload_n dX10_years_40 rfl ?_
      refine z_V1 (mi' := mX6_passYears) dX10_years_41 lX10_185 nX6_passYears kX6_passYears (by decide) (Nat.le_of_ble_eq_true rfl) (Nat.zero_le _) (Nat.zero_le _) ((hC.2.1 0 (by decide)).1 _ (by decide)) rfl rfl ?_
      refine sX6_passYears hR hN (show j < 2147483000 by omega) (fun _ hR hF => ?_)
      have hC := hC.riv (by decide) hR hF
      have hQ := hQ.tr (zFC.frm (by decide) hF)
      exact z_ireturn (mi := mX10_years) dX10_years_44 rfl rfl (Nat.zero_le _) (Nat.zero_le _) (hO hz j hj1 hj2 rfl _ hC hQ)
    · exact absurd rfl c1
  · have hC := hC.ref rn rd
    refine z_if_eq (tgt := 25) dX10_years_12 (by decide) (fun c2 => ?_) (fun c2 => ?_)
    · exact absurd c2 (by decide)
    · exact z_throw (mi := mX10_years) (cls := "java/lang/UnsupportedOperationException") (ic := 74) (i := 15) rfl (by decide) gX10_70 rfl rfl dX10_years_15 dX10_years_18 dX10_years_19 dX10_years_21 dX10_years_24 (Nat.le_of_ble_eq_true rfl) (Nat.le_of_ble_eq_true rfl) (Nat.le_of_ble_eq_true rfl) (hE9 rn rd hz _ hC (zFC.set (by decide) _))
