set_option maxHeartbeats 4000000 in
set_option maxRecDepth 10000 in
theorem sX8_copyFrom {Γ : zG} {d : Nat} {G : zH} {Post : zV} {ad : Nat → Nat} {σ : zSt} (hR : zRiv G ad σ) {ad' : Nat → Nat} {τ : zSt} (hR' : zRiv G ad' τ) (hd : ∀ i j, i < 19 → j < 19 → ad i ≠ ad' j) (hP : ∀ G1, zRiv G1 ad (zcp8 σ τ) → zFrm G G1 ad 19 → Post (none) G1) : zM Γ (d + 1) mX8_copyFrom 0 0 [.ref (ad 1), .ref (ad' 1)] G Post := by
  refine zM_of pnX8 rfl (Nat.le_of_ble_eq_true rfl) rfl ?_
  have hQ : zFrm G G ad 19 := zFrm.rf
  refine z_aload_n dX8_copyFrom_0 rfl ?_
  refine z_aload_n dX8_copyFrom_1 rfl ?_
  refine z_get dX8_copyFrom_2 fX8_7.r (hR'.1 _ (by decide)) rfl ?_
  refine z_put dX8_copyFrom_5 fX8_7 (hR.1 _ (by decide)) rfl rfl (Nat.le_of_ble_eq_true rfl) ?_
  refine z_num hR 1 (τ 13 1) (by decide) rfl (fun _ hR hF1 => ?_)
  have hR' := hR'.frm hF1 hd
  have hQ := hQ.tr hF1
  refine z_aload_n dX8_copyFrom_8 rfl ?_
  refine z_get dX8_copyFrom_9 fX8_13.r (hR'.1 _ (by decide)) rfl ?_
  refine z_aload_n dX8_copyFrom_12 rfl ?_
  refine z_get dX8_copyFrom_13 fX8_13.r (hR.1 _ (by decide)) rfl ?_
  refine z_S2 (mi' := mX7_copy) dX8_copyFrom_16 lX8_26 nX7_copy kX7_copy (by decide) (Nat.le_of_ble_eq_true rfl) (Nat.le_refl _) (Nat.le_refl _) ?_
  refine sX7_copy (hR'.1 _ (by decide)) (hR.1 _ (by decide)) (by decide) ?_
  refine z_row hR 0 (τ 0) (by decide) (fun _ hR hF1 => ?_)
  have hR' := hR'.frm hF1 hd
  have hQ := hQ.tr hF1
  refine z_aload_n dX8_copyFrom_19 rfl ?_
  refine z_get dX8_copyFrom_20 fX8_17.r (hR'.1 _ (by decide)) rfl ?_
  refine z_aload_n dX8_copyFrom_23 rfl ?_
  refine z_get dX8_copyFrom_24 fX8_17.r (hR.1 _ (by decide)) rfl ?_
  refine z_S2 (mi' := mX7_copy) dX8_copyFrom_27 lX8_26 nX7_copy kX7_copy (by decide) (Nat.le_of_ble_eq_true rfl) (Nat.le_refl _) (Nat.le_refl _) ?_
  refine sX7_copy (hR'.1 _ (by decide)) (hR.1 _ (by decide)) (by decide) ?_
  refine z_row hR 1 (τ 1) (by decide) (fun _ hR hF1 => ?_)
  have hR' := hR'.frm hF1 hd
  have hQ := hQ.tr hF1
  refine z_aload_n dX8_copyFrom_30 rfl ?_
  refine z_get dX8_copyFrom_31 fX8_20.r (hR'.1 _ (by decide)) rfl ?_
  refine z_aload_n dX8_copyFrom_34 rfl ?_
  refine z_get dX8_copyFrom_35 fX8_20.r (hR.1 _ (by decide)) rfl ?_
  refine z_S2 (mi' := mX7_copy) dX8_copyFrom_38 lX8_26 nX7_copy kX7_copy (by decide) (Nat.le_of_ble_eq_true rfl) (Nat.le_refl _) (Nat.le_refl _) ?_
  refine sX7_copy (hR'.1 _ (by decide)) (hR.1 _ (by decide)) (by decide) ?_
  refine z_row hR 2 (τ 2) (by decide) (fun _ hR hF1 => ?_)
  have hR' := hR'.frm hF1 hd
  have hQ := hQ.tr hF1
  refine z_aload_n dX8_copyFrom_41 rfl ?_
  refine z_get dX8_copyFrom_42 fX8_23.r (hR'.1 _ (by decide)) rfl ?_
  refine z_aload_n dX8_copyFrom_45 rfl ?_
  refine z_get dX8_copyFrom_46 fX8_23.r (hR.1 _ (by decide)) rfl ?_
  refine z_S2 (mi' := mX7_copy) dX8_copyFrom_49 lX8_26 nX7_copy kX7_copy (by decide) (Nat.le_of_ble_eq_true rfl) (Nat.le_refl _) (Nat.le_refl _) ?_
  refine sX7_copy (hR'.1 _ (by decide)) (hR.1 _ (by decide)) (by decide) ?_
  refine z_row hR 3 (τ 3) (by decide) (fun _ hR hF1 => ?_)
  have hR' := hR'.frm hF1 hd
  have hQ := hQ.tr hF1
  exact z_vreturn (mi := mX8_copyFrom) dX8_copyFrom_52 rfl (Nat.le_refl _) (Nat.le_refl _) (hP _ hR hQ)
set_option maxHeartbeats 4000000 in
set_option maxRecDepth 10000 in
theorem sX2_copyFrom {Γ : zG} {d : Nat} {G : zH} {Post : zV} {ad : Nat → Nat} {σ : zSt} (hR : zRiv G ad σ) {ad' : Nat → Nat} {τ : zSt} (hR' : zRiv G ad' τ) (hd : ∀ i j, i < 19 → j < 19 → ad i ≠ ad' j) (hP : ∀ G1, zRiv G1 ad (zcp2 σ τ) → zFrm G G1 ad 19 → Post (none) G1) : zM Γ (d + 1) mX2_copyFrom 0 0 [.ref (ad 2), .ref (ad' 2)] G Post := by
  refine zM_of pnX2 rfl (Nat.le_of_ble_eq_true rfl) rfl ?_
  have hQ : zFrm G G ad 19 := zFrm.rf
  refine z_aload_n dX2_copyFrom_0 rfl ?_
  refine z_aload_n dX2_copyFrom_1 rfl ?_
  refine z_get dX2_copyFrom_2 fX2_7.r (hR'.1 _ (by decide)) rfl ?_
  refine z_put dX2_copyFrom_5 fX2_7 (hR.1 _ (by decide)) rfl rfl (Nat.le_of_ble_eq_true rfl) ?_
  refine z_num hR 2 (τ 13 2) (by decide) rfl (fun _ hR hF1 => ?_)
  have hR' := hR'.frm hF1 hd
  have hQ := hQ.tr hF1
  refine z_aload_n dX2_copyFrom_8 rfl ?_
  refine z_get dX2_copyFrom_9 fX2_13.r (hR'.1 _ (by decide)) rfl ?_
  refine z_aload_n dX2_copyFrom_12 rfl ?_
  refine z_get dX2_copyFrom_13 fX2_13.r (hR.1 _ (by decide)) rfl ?_
  refine z_S2 (mi' := mX7_copy) dX2_copyFrom_16 lX2_23 nX7_copy kX7_copy (by decide) (Nat.le_of_ble_eq_true rfl) (Nat.le_refl _) (Nat.le_refl _) ?_
  refine sX7_copy (hR'.1 _ (by decide)) (hR.1 _ (by decide)) (by decide) ?_
  refine z_row hR 4 (τ 4) (by decide) (fun _ hR hF1 => ?_)
  have hR' := hR'.frm hF1 hd
  have hQ := hQ.tr hF1
  refine z_aload_n dX2_copyFrom_19 rfl ?_
  refine z_get dX2_copyFrom_20 fX2_17.r (hR'.1 _ (by decide)) rfl ?_
  refine z_aload_n dX2_copyFrom_23 rfl ?_
  refine z_get dX2_copyFrom_24 fX2_17.r (hR.1 _ (by decide)) rfl ?_
  refine z_S2 (mi' := mX7_copy) dX2_copyFrom_27 lX2_23 nX7_copy kX7_copy (by decide) (Nat.le_of_ble_eq_true rfl) (Nat.le_refl _) (Nat.le_refl _) ?_
  refine sX7_copy (hR'.1 _ (by decide)) (hR.1 _ (by decide)) (by decide) ?_
  refine z_row hR 5 (τ 5) (by decide) (fun _ hR hF1 => ?_)
  have hR' := hR'.frm hF1 hd
  have hQ := hQ.tr hF1
  refine z_aload_n dX2_copyFrom_30 rfl ?_
  refine z_get dX2_copyFrom_31 fX2_20.r (hR'.1 _ (by decide)) rfl ?_
  refine z_aload_n dX2_copyFrom_34 rfl ?_
  refine z_get dX2_copyFrom_35 fX2_20.r (hR.1 _ (by decide)) rfl ?_
  refine z_S2 (mi' := mX7_copy) dX2_copyFrom_38 lX2_23 nX7_copy kX7_copy (by decide) (Nat.le_of_ble_eq_true rfl) (Nat.le_refl _) (Nat.le_refl _) ?_
  refine sX7_copy (hR'.1 _ (by decide)) (hR.1 _ (by decide)) (by decide) ?_
  refine z_row hR 6 (τ 6) (by decide) (fun _ hR hF1 => ?_)
  have hR' := hR'.frm hF1 hd
  have hQ := hQ.tr hF1
  exact z_vreturn (mi := mX2_copyFrom) dX2_copyFrom_41 rfl (Nat.le_refl _) (Nat.le_refl _) (hP _ hR hQ)
set_option maxHeartbeats 4000000 in
set_option maxRecDepth 10000 in
theorem sX1_copyFrom {Γ : zG} {d : Nat} {G : zH} {Post : zV} {ad : Nat → Nat} {σ : zSt} (hR : zRiv G ad σ) {ad' : Nat → Nat} {τ : zSt} (hR' : zRiv G ad' τ) (hd : ∀ i j, i < 19 → j < 19 → ad i ≠ ad' j) (hP : ∀ G1, zRiv G1 ad (zcp1 σ τ) → zFrm G G1 ad 19 → Post (none) G1) : zM Γ (d + 1) mX1_copyFrom 0 0 [.ref (ad 3), .ref (ad' 3)] G Post := by
  refine zM_of pnX1 rfl (Nat.le_of_ble_eq_true rfl) rfl ?_
  have hQ : zFrm G G ad 19 := zFrm.rf
  refine z_aload_n dX1_copyFrom_0 rfl ?_
  refine z_aload_n dX1_copyFrom_1 rfl ?_
  refine z_get dX1_copyFrom_2 fX1_7.r (hR'.1 _ (by decide)) rfl ?_
  refine z_put dX1_copyFrom_5 fX1_7 (hR.1 _ (by decide)) rfl rfl (Nat.le_of_ble_eq_true rfl) ?_
  refine z_num hR 3 (τ 13 3) (by decide) rfl (fun _ hR hF1 => ?_)
  have hR' := hR'.frm hF1 hd
  have hQ := hQ.tr hF1
  refine z_aload_n dX1_copyFrom_8 rfl ?_
  refine z_get dX1_copyFrom_9 fX1_13.r (hR'.1 _ (by decide)) rfl ?_
  refine z_aload_n dX1_copyFrom_12 rfl ?_
  refine z_get dX1_copyFrom_13 fX1_13.r (hR.1 _ (by decide)) rfl ?_
  refine z_S2 (mi' := mX7_copy) dX1_copyFrom_16 lX1_20 nX7_copy kX7_copy (by decide) (Nat.le_of_ble_eq_true rfl) (Nat.le_refl _) (Nat.le_refl _) ?_
  refine sX7_copy (hR'.1 _ (by decide)) (hR.1 _ (by decide)) (by decide) ?_
  refine z_row hR 7 (τ 7) (by decide) (fun _ hR hF1 => ?_)
  have hR' := hR'.frm hF1 hd
  have hQ := hQ.tr hF1
  refine z_aload_n dX1_copyFrom_19 rfl ?_
  refine z_get dX1_copyFrom_20 fX1_17.r (hR'.1 _ (by decide)) rfl ?_
  refine z_aload_n dX1_copyFrom_23 rfl ?_
  refine z_get dX1_copyFrom_24 fX1_17.r (hR.1 _ (by decide)) rfl ?_
  refine z_S2 (mi' := mX7_copy) dX1_copyFrom_27 lX1_20 nX7_copy kX7_copy (by decide) (Nat.le_of_ble_eq_true rfl) (Nat.le_refl _) (Nat.le_refl _) ?_
  refine sX7_copy (hR'.1 _ (by decide)) (hR.1 _ (by decide)) (by decide) ?_
  refine z_row hR 8 (τ 8) (by decide) (fun _ hR hF1 => ?_)
  have hR' := hR'.frm hF1 hd
  have hQ := hQ.tr hF1
  exact z_vreturn (mi := mX1_copyFrom) dX1_copyFrom_30 rfl (Nat.le_refl _) (Nat.le_refl _) (hP _ hR hQ)
set_option maxHeartbeats 4000000 in
set_option maxRecDepth 10000 in
theorem sX0_copyFrom {Γ : zG} {d : Nat} {G : zH} {Post : zV} {ad : Nat → Nat} {σ : zSt} (hR : zRiv G ad σ) {ad' : Nat → Nat} {τ : zSt} (hR' : zRiv G ad' τ) (hd : ∀ i j, i < 19 → j < 19 → ad i ≠ ad' j) (hP : ∀ G1, zRiv G1 ad (zcp0 σ τ) → zFrm G G1 ad 19 → Post (none) G1) : zM Γ (d + 1) mX0_copyFrom 0 0 [.ref (ad 4), .ref (ad' 4)] G Post := by
  refine zM_of pnX0 rfl (Nat.le_of_ble_eq_true rfl) rfl ?_
  have hQ : zFrm G G ad 19 := zFrm.rf
  refine z_aload_n dX0_copyFrom_0 rfl ?_
  refine z_aload_n dX0_copyFrom_1 rfl ?_
  refine z_get dX0_copyFrom_2 fX0_7.r (hR'.1 _ (by decide)) rfl ?_
  refine z_put dX0_copyFrom_5 fX0_7 (hR.1 _ (by decide)) rfl rfl (Nat.le_of_ble_eq_true rfl) ?_
  refine z_num hR 4 (τ 13 4) (by decide) rfl (fun _ hR hF1 => ?_)
  have hR' := hR'.frm hF1 hd
  have hQ := hQ.tr hF1
  refine z_aload_n dX0_copyFrom_8 rfl ?_
  refine z_get dX0_copyFrom_9 fX0_13.r (hR'.1 _ (by decide)) rfl ?_
  refine z_aload_n dX0_copyFrom_12 rfl ?_
  refine z_get dX0_copyFrom_13 fX0_13.r (hR.1 _ (by decide)) rfl ?_
  refine z_S2 (mi' := mX7_copy) dX0_copyFrom_16 lX0_17 nX7_copy kX7_copy (by decide) (Nat.le_of_ble_eq_true rfl) (Nat.le_refl _) (Nat.le_refl _) ?_
  refine sX7_copy (hR'.1 _ (by decide)) (hR.1 _ (by decide)) (by decide) ?_
  refine z_row hR 9 (τ 9) (by decide) (fun _ hR hF1 => ?_)
  have hR' := hR'.frm hF1 hd
  have hQ := hQ.tr hF1
  exact z_vreturn (mi := mX0_copyFrom) dX0_copyFrom_19 rfl (Nat.le_refl _) (Nat.le_refl _) (hP _ hR hQ)
set_option maxHeartbeats 4000000 in
set_option maxRecDepth 10000 in
theorem sX4_copyFrom {Γ : zG} {d : Nat} {G : zH} {Post : zV} {ad : Nat → Nat} {σ : zSt} (hR : zRiv G ad σ) {ad' : Nat → Nat} {τ : zSt} (hR' : zRiv G ad' τ) (hd : ∀ i j, i < 19 → j < 19 → ad i ≠ ad' j) (hP : ∀ G1, zRiv G1 ad (zcp4 σ τ) → zFrm G G1 ad 19 → Post (none) G1) : zM Γ (d + 1) mX4_copyFrom 0 0 [.ref (ad 5), .ref (ad' 5)] G Post := by
  refine zM_of pnX4 rfl (Nat.le_of_ble_eq_true rfl) rfl ?_
  have hQ : zFrm G G ad 19 := zFrm.rf
  refine z_aload_n dX4_copyFrom_0 rfl ?_
  refine z_get dX4_copyFrom_1 fX4_13.r (hR'.1 _ (by decide)) rfl ?_
  refine z_aload_n dX4_copyFrom_4 rfl ?_
  refine z_get dX4_copyFrom_5 fX4_13.r (hR.1 _ (by decide)) rfl ?_
  refine z_S2 (mi' := mX7_copy) dX4_copyFrom_8 lX4_33 nX7_copy kX7_copy (by decide) (Nat.le_of_ble_eq_true rfl) (Nat.le_refl _) (Nat.le_refl _) ?_
  refine sX7_copy (hR'.1 _ (by decide)) (hR.1 _ (by decide)) (by decide) ?_
  refine z_row hR 10 (τ 10) (by decide) (fun _ hR hF1 => ?_)
  have hR' := hR'.frm hF1 hd
  have hQ := hQ.tr hF1
  refine z_aload_n dX4_copyFrom_11 rfl ?_
  refine z_get dX4_copyFrom_12 fX4_17.r (hR'.1 _ (by decide)) rfl ?_
  refine z_aload_n dX4_copyFrom_15 rfl ?_
  refine z_get dX4_copyFrom_16 fX4_17.r (hR.1 _ (by decide)) rfl ?_
  refine z_S2 (mi' := mX7_copy) dX4_copyFrom_19 lX4_33 nX7_copy kX7_copy (by decide) (Nat.le_of_ble_eq_true rfl) (Nat.le_refl _) (Nat.le_refl _) ?_
  refine sX7_copy (hR'.1 _ (by decide)) (hR.1 _ (by decide)) (by decide) ?_
  refine z_row hR 11 (τ 11) (by decide) (fun _ hR hF1 => ?_)
  have hR' := hR'.frm hF1 hd
  have hQ := hQ.tr hF1
  refine z_aload_n dX4_copyFrom_22 rfl ?_
  refine z_get dX4_copyFrom_23 fX4_20.r (hR'.1 _ (by decide)) rfl ?_
  refine z_aload_n dX4_copyFrom_26 rfl ?_
  refine z_get dX4_copyFrom_27 fX4_20.r (hR.1 _ (by decide)) rfl ?_
  refine z_S2 (mi' := mX7_copy) dX4_copyFrom_30 lX4_33 nX7_copy kX7_copy (by decide) (Nat.le_of_ble_eq_true rfl) (Nat.le_refl _) (Nat.le_refl _) ?_
  refine sX7_copy (hR'.1 _ (by decide)) (hR.1 _ (by decide)) (by decide) ?_
  refine z_row hR 12 (τ 12) (by decide) (fun _ hR hF1 => ?_)
  have hR' := hR'.frm hF1 hd
  have hQ := hQ.tr hF1
  refine z_aload_n dX4_copyFrom_33 rfl ?_
  refine z_aload_n dX4_copyFrom_34 rfl ?_
  refine z_get dX4_copyFrom_35 fX4_23.r (hR'.1 _ (by decide)) rfl ?_
  refine z_put dX4_copyFrom_38 fX4_23 (hR.1 _ (by decide)) rfl rfl (Nat.le_of_ble_eq_true rfl) ?_
  refine z_num hR 5 (τ 13 5) (by decide) rfl (fun _ hR hF1 => ?_)
  have hR' := hR'.frm hF1 hd
  have hQ := hQ.tr hF1
  refine z_aload_n dX4_copyFrom_41 rfl ?_
  refine z_aload_n dX4_copyFrom_42 rfl ?_
  refine z_get dX4_copyFrom_43 fX4_27.r (hR'.1 _ (by decide)) rfl ?_
  refine z_put dX4_copyFrom_46 fX4_27 (hR.1 _ (by decide)) rfl rfl (Nat.le_of_ble_eq_true rfl) ?_
  refine z_num hR 6 (τ 13 6) (by decide) rfl (fun _ hR hF1 => ?_)
  have hR' := hR'.frm hF1 hd
  have hQ := hQ.tr hF1
  refine z_aload_n dX4_copyFrom_49 rfl ?_
  refine z_aload_n dX4_copyFrom_50 rfl ?_
  refine z_get dX4_copyFrom_51 fX4_30.r (hR'.1 _ (by decide)) rfl ?_
  refine z_put dX4_copyFrom_54 fX4_30 (hR.1 _ (by decide)) rfl rfl (Nat.le_of_ble_eq_true rfl) ?_
  refine z_num hR 7 (τ 13 7) (by decide) rfl (fun _ hR hF1 => ?_)
  have hR' := hR'.frm hF1 hd
  have hQ := hQ.tr hF1
  exact z_vreturn (mi := mX4_copyFrom) dX4_copyFrom_57 rfl (Nat.le_refl _) (Nat.le_refl _) (hP _ hR hQ)
set_option maxHeartbeats 4000000 in
set_option maxRecDepth 10000 in
theorem sX6_copyFrom {Γ : zG} {d : Nat} {G : zH} {Post : zV} {ad : Nat → Nat} {σ : zSt} (hR : zRiv G ad σ) {ad' : Nat → Nat} {τ : zSt} (hR' : zRiv G ad' τ) (hd : ∀ i j, i < 19 → j < 19 → ad i ≠ ad' j) (hP : ∀ G1, zRiv G1 ad τ → zRiv G1 ad' τ → zFrm G G1 ad 19 → Post none G1) : zM Γ (d + 2) mX6_copyFrom 0 0 [.ref (ad 0), .ref (ad' 0)] G Post := by
  refine zM_of pnX6 rfl (Nat.le_of_ble_eq_true rfl) rfl ?_
  have hQ : zFrm G G ad 19 := zFrm.rf
  refine z_aload_n dX6_copyFrom_0 rfl ?_
  refine z_aload_n dX6_copyFrom_1 rfl ?_
  refine z_get dX6_copyFrom_2 fX6_9.r (hR'.1 _ (by decide)) rfl ?_
  refine z_put dX6_copyFrom_5 fX6_9 (hR.1 _ (by decide)) rfl rfl (Nat.le_of_ble_eq_true rfl) ?_
  refine z_num hR 0 (τ 13 0) (by decide) rfl (fun _ hR hF1 => ?_)
  have hR' := hR'.frm hF1 hd
  have hQ := hQ.tr hF1
  refine z_aload_n dX6_copyFrom_8 rfl ?_
  refine z_get dX6_copyFrom_9 fX6_16.r (hR.1 _ (by decide)) rfl ?_
  refine z_aload_n dX6_copyFrom_12 rfl ?_
  refine z_get dX6_copyFrom_13 fX6_16.r (hR'.1 _ (by decide)) rfl ?_
  refine z_V1 (mi' := mX8_copyFrom) dX6_copyFrom_16 lX6_48 nX8_copyFrom kX8_copyFrom (by decide) (Nat.le_of_ble_eq_true rfl) (Nat.le_refl _) (Nat.le_refl _) (hR.1 _ (by decide)) rfl rfl ?_
  refine sX8_copyFrom hR hR' hd (fun _ hR hF1 => ?_)
  have hR' := hR'.frm hF1 hd
  have hQ := hQ.tr hF1
  refine z_aload_n dX6_copyFrom_19 rfl ?_
  refine z_get dX6_copyFrom_20 fX6_23.r (hR.1 _ (by decide)) rfl ?_
  refine z_aload_n dX6_copyFrom_23 rfl ?_
  refine z_get dX6_copyFrom_24 fX6_23.r (hR'.1 _ (by decide)) rfl ?_
  refine z_V1 (mi' := mX2_copyFrom) dX6_copyFrom_27 lX6_52 nX2_copyFrom kX2_copyFrom (by decide) (Nat.le_of_ble_eq_true rfl) (Nat.le_refl _) (Nat.le_refl _) (hR.1 _ (by decide)) rfl rfl ?_
  refine sX2_copyFrom hR hR' hd (fun _ hR hF1 => ?_)
  have hR' := hR'.frm hF1 hd
  have hQ := hQ.tr hF1
  refine z_aload_n dX6_copyFrom_30 rfl ?_
  refine z_get dX6_copyFrom_31 fX6_30.r (hR.1 _ (by decide)) rfl ?_
  refine z_aload_n dX6_copyFrom_34 rfl ?_
  refine z_get dX6_copyFrom_35 fX6_30.r (hR'.1 _ (by decide)) rfl ?_
  refine z_V1 (mi' := mX1_copyFrom) dX6_copyFrom_38 lX6_55 nX1_copyFrom kX1_copyFrom (by decide) (Nat.le_of_ble_eq_true rfl) (Nat.le_refl _) (Nat.le_refl _) (hR.1 _ (by decide)) rfl rfl ?_
  refine sX1_copyFrom hR hR' hd (fun _ hR hF1 => ?_)
  have hR' := hR'.frm hF1 hd
  have hQ := hQ.tr hF1
  refine z_aload_n dX6_copyFrom_41 rfl ?_
  refine z_get dX6_copyFrom_42 fX6_37.r (hR.1 _ (by decide)) rfl ?_
  refine z_aload_n dX6_copyFrom_45 rfl ?_
  refine z_get dX6_copyFrom_46 fX6_37.r (hR'.1 _ (by decide)) rfl ?_
  refine z_V1 (mi' := mX0_copyFrom) dX6_copyFrom_49 lX6_58 nX0_copyFrom kX0_copyFrom (by decide) (Nat.le_of_ble_eq_true rfl) (Nat.le_refl _) (Nat.le_refl _) (hR.1 _ (by decide)) rfl rfl ?_
  refine sX0_copyFrom hR hR' hd (fun _ hR hF1 => ?_)
  have hR' := hR'.frm hF1 hd
  have hQ := hQ.tr hF1
  refine z_aload_n dX6_copyFrom_52 rfl ?_
  refine z_get dX6_copyFrom_53 fX6_44.r (hR.1 _ (by decide)) rfl ?_
  refine z_aload_n dX6_copyFrom_56 rfl ?_
  refine z_get dX6_copyFrom_57 fX6_44.r (hR'.1 _ (by decide)) rfl ?_
  refine z_V1 (mi' := mX4_copyFrom) dX6_copyFrom_60 lX6_61 nX4_copyFrom kX4_copyFrom (by decide) (Nat.le_of_ble_eq_true rfl) (Nat.le_refl _) (Nat.le_refl _) (hR.1 _ (by decide)) rfl rfl ?_
  refine sX4_copyFrom hR hR' hd (fun _ hR hF1 => ?_)
  have hR' := hR'.frm hF1 hd
  have hQ := hQ.tr hF1
  exact z_vreturn (mi := mX6_copyFrom) dX6_copyFrom_63 rfl (Nat.le_refl _) (Nat.le_refl _) (hP _ (hR.cong (zcA_r σ τ) (zcA_n σ τ)) hR' hQ)
def zcut (σ : zSt) (E s f c : Nat) : zSt := zu (zu (zu (zu (zu σ 10 (12 * s + f) (zread σ E s f)) 11 (12 * s + f) (σ 9 c / 2 + 1)) 12 (12 * s + f) (σ 13 0)) 13 5 (σ 13 5 + 1)) 9 c (σ 9 c - σ 2 s)
set_option maxHeartbeats 4000000 in
set_option maxRecDepth 10000 in
theorem sX6_cutMark {Γ : zG} {d : Nat} {G : zH} {Post : zV} {ad : Nat → Nat} {σ : zSt} (hR : zRiv G ad σ) {S F E K : Nat} (hN : zN σ S F E K) {s f c : Nat} (hs : s < 6) (hf : f < 12) (hc : c < 3) (hP : ∀ G1, zRiv G1 ad (zcut σ E s f c) → zFrm G G1 ad 19 → Post (some (.int (zread σ E s f))) G1) : zM Γ (d + 4) mX6_cutMark 0 0 [.ref (ad 0), .int (nI s), .int (nI f), .int (nI c)] G Post := by
  refine zM_of pnX6 rfl (Nat.le_of_ble_eq_true rfl) rfl ?_
  have hQ : zFrm G G ad 19 := zFrm.rf
  refine z_aload_n dX6_cutMark_0 rfl ?_
  refine z_iload_n dX6_cutMark_1 rfl ?_
  refine z_iload_n dX6_cutMark_2 rfl ?_
  refine z_V2 (mi' := mX6_readingAt) dX6_cutMark_3 lX6_102 nX6_readingAt kX6_readingAt (by decide) (Nat.le_of_ble_eq_true rfl) (Nat.le_refl _) (Nat.le_refl _) (hR.1 _ (by decide)) rfl rfl ?_
  refine sX6_readingAt hR hN hs hf ?_
  refine z_istore dX6_cutMark_6 (by decide) rfl ?_
  refine z_aload_n dX6_cutMark_8 rfl ?_
  refine z_get dX6_cutMark_9 fX6_37.r (hR.1 _ (by decide)) rfl ?_
  refine z_get dX6_cutMark_12 fX6_105 (hR.1 _ (by decide)) rfl ?_
  refine z_iload_n dX6_cutMark_15 rfl ?_
  refine z_S2 (mi' := mX7_at) dX6_cutMark_16 lX6_109 nX7_at kX7_at (by decide) (Nat.le_of_ble_eq_true rfl) (Nat.le_refl _) (Nat.le_refl _) ?_
  refine sX7_at (hR.1 _ (by decide)) (by decide) hc ?_
  refine z_iconst (v := 2) dX6_cutMark_19 (by decide) ?_
  refine z_idiv dX6_cutMark_20 (by decide) ?_
  refine z_iconst (v := 1) dX6_cutMark_21 (by decide) ?_
  refine z_iadd dX6_cutMark_22 ?_
  refine z_istore dX6_cutMark_23 (by decide) rfl ?_
  refine z_aload_n dX6_cutMark_25 rfl ?_
  refine z_get dX6_cutMark_26 fX6_44.r (hR.1 _ (by decide)) rfl ?_
  refine z_iload_n dX6_cutMark_29 rfl ?_
  refine z_iload_n dX6_cutMark_30 rfl ?_
  refine z_S2 (mi' := mX4_cell) dX6_cutMark_31 lX6_127 nX4_cell kX4_cell (by decide) (Nat.le_of_ble_eq_true rfl) (Nat.le_refl _) (Nat.le_refl _) ?_
  refine sX4_cell ?_
  refine z_iload dX6_cutMark_34 rfl ?_
  refine z_iload dX6_cutMark_36 rfl ?_
  refine z_aload_n dX6_cutMark_38 rfl ?_
  refine z_get dX6_cutMark_39 fX6_9.r (hR.1 _ (by decide)) rfl ?_
  refine z_V4 (mi' := mX4_add) dX6_cutMark_42 lX6_130 nX4_add kX4_add (by decide) (Nat.le_of_ble_eq_true rfl) (Nat.le_refl _) (Nat.le_refl _) (hR.1 _ (by decide)) rfl rfl ?_
  refine sX4_add hR (show 12 * s + f < 72 by omega) (fun _ hR hF1 => ?_)
  have hQ := hQ.tr hF1
  refine z_aload_n dX6_cutMark_45 rfl ?_
  refine z_get dX6_cutMark_46 fX6_37.r (hR.1 _ (by decide)) rfl ?_
  refine z_iload_n dX6_cutMark_49 rfl ?_
  refine z_aload_n dX6_cutMark_50 rfl ?_
  refine z_get dX6_cutMark_51 fX6_16.r (hR.1 _ (by decide)) rfl ?_
  refine z_get dX6_cutMark_54 fX6_115 (hR.1 _ (by decide)) rfl ?_
  refine z_iload_n dX6_cutMark_57 rfl ?_
  refine z_S2 (mi' := mX7_at) dX6_cutMark_58 lX6_109 nX7_at kX7_at (by decide) (Nat.le_of_ble_eq_true rfl) (Nat.le_refl _) (Nat.le_refl _) ?_
  refine sX7_at (hR.1 _ (by decide)) (by decide) hs ?_
  refine z_V2 (mi' := mX0_blunt) dX6_cutMark_61 lX6_134 nX0_blunt kX0_blunt (by decide) (Nat.le_of_ble_eq_true rfl) (Nat.le_refl _) (Nat.le_refl _) (hR.1 _ (by decide)) rfl rfl ?_
  refine sX0_blunt hR hc (fun _ hR hF1 => ?_)
  have hQ := hQ.tr hF1
  refine z_iload dX6_cutMark_64 rfl ?_
  exact z_ireturn (mi := mX6_cutMark) dX6_cutMark_66 rfl rfl (Nat.le_refl _) (Nat.le_refl _) (hP _ hR hQ)
theorem zy1_13 (σ : zSt) (S j : Nat) (h0 : j ≠ 0) (h7 : j ≠ 7) : zy1 σ S 13 j = σ 13 j := by
  have h1 : zy0 σ 13 j = σ 13 j := zu_j h0
  have h2 : zyA σ S 13 j = σ 13 j := by
    unfold zyA
    split
    · exact (congrFun (zrw_n (by decide)) j).trans h1
    · exact h1
  unfold zy1
  split
  · exact ((zu_j h7).trans (congrFun (zrw_n (by decide)) j)).trans h2
  · exact h2
theorem zyrs_13 (σ : zSt) (S j : Nat) (h0 : j ≠ 0) (h7 : j ≠ 7) : ∀ n, (zyrs σ S n).1 13 j = σ 13 j
  | 0 => rfl
  | n + 1 => (zy1_13 _ S j h0 h7).trans (zyrs_13 σ S j h0 h7 n)
theorem zyrs_N {σ : zSt} {S F E K : Nat} (h : zN σ S F E K) (n : Nat) : zN (zyrs σ S n).1 S F E K := by
  unfold zN at *
  rw [zyrs_13 σ S 1 (by decide) (by decide), zyrs_13 σ S 2 (by decide) (by decide), zyrs_13 σ S 3 (by decide) (by decide), zyrs_13 σ S 4 (by decide) (by decide)]
  exact h
theorem zN_zu {σ : zSt} {S F E K : Nat} (h : zN σ S F E K) (x : Int32) : zN (zu σ 13 0 x) S F E K := by
  unfold zN at *
  rw [zu_j (by decide), zu_j (by decide), zu_j (by decide), zu_j (by decide)]
  exact h
set_option maxHeartbeats 4000000 in
set_option maxRecDepth 10000 in
theorem sX6_passYears {Γ : zG} {d : Nat} {G : zH} {Post : zV} {ad : Nat → Nat} {σ : zSt} (hR : zRiv G ad σ) {S F E K : Nat} (hN : zN σ S F E K) {m : Nat} (hm : m < 2147483000) (hP : ∀ G1, zRiv G1 ad ((zyrs σ S m).1) → zFrm G G1 ad 19 → Post (some (.int (nI (zyrs σ S m).2))) G1) : zM Γ (d + 2) mX6_passYears 0 0 [.ref (ad 0), .int (nI m)] G Post := by
  refine zM_of pnX6 rfl (Nat.le_of_ble_eq_true rfl) rfl ?_
  have key : ∀ (r : Nat) (i : Nat) (G1 : zH), i ≤ m → m < i + r → zRiv G1 ad (zyrs σ S i).1 → zFrm G G1 ad 19 → zX Γ mX6_passYears (d + 2) 0 0 4 [some (.ref (ad 0)), some (.int (nI m)), some (.int (nI (zyrs σ S i).2)), some (.int (nI i))] [] G1 0 0 (zlift Post) := by
    intro r
    induction r with
    | zero =>
      intro i G1 hi1 hi2 hR hQ
      exact absurd hi2 (by omega)
    | succ r ih =>
      intro i G1 hi1 hi2 hR hQ
      have hN1 := zyrs_N hN i
      refine z_iload_n dX6_passYears_4 rfl ?_
      refine z_iload_n dX6_passYears_5 rfl ?_
      refine z_icmp_ge (tgt := 60) dX6_passYears_6 (by decide) (fun c1 => ?_) (fun c1 => ?_)
      · have hi9 := (nI_leI (by omega) (by omega)).mp c1
        refine z_iload_n dX6_passYears_60 rfl ?_
        exact z_ireturn (mi := mX6_passYears) dX6_passYears_61 rfl rfl (Nat.le_refl _) (Nat.le_refl _) (by obtain rfl : i = m := (by omega); exact hP _ hR hQ)
      · have hi9 := Nat.lt_of_not_le (fun q => c1 ((nI_leI (by omega) (by omega)).mpr q))
        refine z_aload_n dX6_passYears_9 rfl ?_
        refine z_dup dX6_passYears_10 rfl ?_
        refine z_get dX6_passYears_11 fX6_9.r (hR.1 _ (by decide)) rfl ?_
        refine z_iconst (v := 1) dX6_passYears_14 (by decide) ?_
        refine z_iadd dX6_passYears_15 ?_
        refine z_put dX6_passYears_16 fX6_9 (hR.1 _ (by decide)) rfl rfl (Nat.le_of_ble_eq_true rfl) ?_
        refine z_num hR 0 ((zyrs σ S i).1 13 0 + 1) (by decide) rfl (fun _ hR hF1 => ?_)
        have hQ := hQ.tr hF1
        refine z_aload_n dX6_passYears_19 rfl ?_
        refine z_get dX6_passYears_20 fX6_9.r (hR.1 _ (by decide)) rfl ?_
        refine z_iconst (v := 3) dX6_passYears_23 (by decide) ?_
        refine z_irem dX6_passYears_24 (by decide) ?_
        refine z_if_ne (tgt := 35) dX6_passYears_25 (by decide) (fun c2 => ?_) (fun c2 => ?_)
        · have h3 : zyA (zyrs σ S i).1 S = zy0 (zyrs σ S i).1 := if_neg c2
          change zRiv _ ad (zy0 (zyrs σ S i).1) at hR
          rw [← h3] at hR
          refine z_aload_n dX6_passYears_35 rfl ?_
          refine z_get dX6_passYears_36 fX6_9.r (hR.1 _ (by decide)) rfl ?_
          refine z_iconst (v := 5) dX6_passYears_39 (by decide) ?_
          refine z_irem dX6_passYears_40 (by decide) ?_
          refine z_if_ne (tgt := 54) dX6_passYears_41 (by decide) (fun c3 => ?_) (fun c3 => ?_)
          · have e8 : zyA (zyrs σ S i).1 S = (zyrs σ S (i + 1)).1 := (if_neg c3).symm
            have e9 : (zyrs σ S (i + 1)).2 = (zyrs σ S i).2 := (congrArg (fun x => (zyrs σ S i).2 + x) (if_neg c3))
            refine z_iinc dX6_passYears_54 rfl rfl (by decide) rfl ?_
            refine z_goto (tgt := 4) dX6_passYears_57 (by decide) ?_
            exact z_sub (lv' := [some (.ref (ad 0)), some (.int (nI m)), some (.int (nI (zyrs σ S (i + 1)).2)), some (.int (nI (i + 1)))]) ⟨rfl, rfl, zsl (by (rw [e9]) <;> first | exact nI_add _ _ | rfl), zsl (zinc i), trivial⟩ (ih (i + 1) _ (by omega) (by omega) (e8 ▸ hR) hQ)
          · have e8 : zwt (zyA (zyrs σ S i).1 S) = (zyrs σ S (i + 1)).1 := (if_pos c3).symm
            have e9 : (zyrs σ S (i + 1)).2 = (zyrs σ S i).2 + zgn (zyA (zyrs σ S i).1 S) := (congrArg (fun x => (zyrs σ S i).2 + x) (if_pos c3))
            refine z_iload_n dX6_passYears_44 rfl ?_
            refine z_aload_n dX6_passYears_45 rfl ?_
            refine z_get dX6_passYears_46 fX6_44.r (hR.1 _ (by decide)) rfl ?_
            refine z_V0 (mi' := mX4_weatherAll) dX6_passYears_49 lX6_141 nX4_weatherAll kX4_weatherAll (by decide) (Nat.le_of_ble_eq_true rfl) (Nat.le_refl _) (Nat.le_refl _) (hR.1 _ (by decide)) rfl rfl ?_
            refine sX4_weatherAll hR (fun _ hR hF1 => ?_)
            have hQ := hQ.tr hF1
            refine z_iadd dX6_passYears_52 ?_
            refine z_istore_n dX6_passYears_53 (by decide) rfl ?_
            refine z_iinc dX6_passYears_54 rfl rfl (by decide) rfl ?_
            refine z_goto (tgt := 4) dX6_passYears_57 (by decide) ?_
            exact z_sub (lv' := [some (.ref (ad 0)), some (.int (nI m)), some (.int (nI (zyrs σ S (i + 1)).2)), some (.int (nI (i + 1)))]) ⟨rfl, rfl, zsl (by (rw [e9]) <;> first | exact nI_add _ _ | rfl), zsl (zinc i), trivial⟩ (ih (i + 1) _ (by omega) (by omega) (e8 ▸ hR) hQ)
        · have h3 : zyA (zyrs σ S i).1 S = zdr (zy0 (zyrs σ S i).1) S := if_pos c2
          refine z_aload_n dX6_passYears_28 rfl ?_
          refine z_get dX6_passYears_29 fX6_16.r (hR.1 _ (by decide)) rfl ?_
          refine z_V0 (mi' := mX8_driftAll) dX6_passYears_32 lX6_138 nX8_driftAll kX8_driftAll (by decide) (Nat.le_of_ble_eq_true rfl) (Nat.le_refl _) (Nat.le_refl _) (hR.1 _ (by decide)) rfl rfl ?_
          refine sX8_driftAll hR (zN_zu hN1 _) (fun _ hR hF1 => ?_)
          have hQ := hQ.tr hF1
          change zRiv _ ad (zdr (zy0 (zyrs σ S i).1) S) at hR
          rw [← h3] at hR
          refine z_aload_n dX6_passYears_35 rfl ?_
          refine z_get dX6_passYears_36 fX6_9.r (hR.1 _ (by decide)) rfl ?_
          refine z_iconst (v := 5) dX6_passYears_39 (by decide) ?_
          refine z_irem dX6_passYears_40 (by decide) ?_
          refine z_if_ne (tgt := 54) dX6_passYears_41 (by decide) (fun c4 => ?_) (fun c4 => ?_)
          · have e8 : zyA (zyrs σ S i).1 S = (zyrs σ S (i + 1)).1 := (if_neg c4).symm
            have e9 : (zyrs σ S (i + 1)).2 = (zyrs σ S i).2 := (congrArg (fun x => (zyrs σ S i).2 + x) (if_neg c4))
            refine z_iinc dX6_passYears_54 rfl rfl (by decide) rfl ?_
            refine z_goto (tgt := 4) dX6_passYears_57 (by decide) ?_
            exact z_sub (lv' := [some (.ref (ad 0)), some (.int (nI m)), some (.int (nI (zyrs σ S (i + 1)).2)), some (.int (nI (i + 1)))]) ⟨rfl, rfl, zsl (by (rw [e9]) <;> first | exact nI_add _ _ | rfl), zsl (zinc i), trivial⟩ (ih (i + 1) _ (by omega) (by omega) (e8 ▸ hR) hQ)
          · have e8 : zwt (zyA (zyrs σ S i).1 S) = (zyrs σ S (i + 1)).1 := (if_pos c4).symm
            have e9 : (zyrs σ S (i + 1)).2 = (zyrs σ S i).2 + zgn (zyA (zyrs σ S i).1 S) := (congrArg (fun x => (zyrs σ S i).2 + x) (if_pos c4))
            refine z_iload_n dX6_passYears_44 rfl ?_
            refine z_aload_n dX6_passYears_45 rfl ?_
            refine z_get dX6_passYears_46 fX6_44.r (hR.1 _ (by decide)) rfl ?_
            refine z_V0 (mi' := mX4_weatherAll) dX6_passYears_49 lX6_141 nX4_weatherAll kX4_weatherAll (by decide) (Nat.le_of_ble_eq_true rfl) (Nat.le_refl _) (Nat.le_refl _) (hR.1 _ (by decide)) rfl rfl ?_
            refine sX4_weatherAll hR (fun _ hR hF1 => ?_)
            have hQ := hQ.tr hF1
            refine z_iadd dX6_passYears_52 ?_
            refine z_istore_n dX6_passYears_53 (by decide) rfl ?_
            refine z_iinc dX6_passYears_54 rfl rfl (by decide) rfl ?_
            refine z_goto (tgt := 4) dX6_passYears_57 (by decide) ?_
            exact z_sub (lv' := [some (.ref (ad 0)), some (.int (nI m)), some (.int (nI (zyrs σ S (i + 1)).2)), some (.int (nI (i + 1)))]) ⟨rfl, rfl, zsl (by (rw [e9]) <;> first | exact nI_add _ _ | rfl), zsl (zinc i), trivial⟩ (ih (i + 1) _ (by omega) (by omega) (e8 ▸ hR) hQ)
  refine z_iconst (v := 0) dX6_passYears_0 (by decide) ?_
  refine z_istore_n dX6_passYears_1 (by decide) rfl ?_
  refine z_iconst (v := 0) dX6_passYears_2 (by decide) ?_
  refine z_istore_n dX6_passYears_3 (by decide) rfl ?_
  exact z_sub (lv' := [some (.ref (ad 0)), some (.int (nI m)), some (.int (nI (zyrs σ S 0).2)), some (.int (nI 0))]) ⟨rfl, rfl, rfl, rfl, trivial⟩ (key (m + 1) 0 G (by omega) (by omega) hR zFrm.rf)
set_option maxHeartbeats 4000000 in
set_option maxRecDepth 10000 in
theorem sX5_give {Γ : zG} {d : Nat} {G : zH} {Post : zV} {rf : Nat} {ra rb rc : Value} (hF : G rf = some (.inr (5, [ra, rb, rc]))) {x y : Int32} (hP : Post (some (.int 1)) (zset G rf (.inr (5, [.int x, .int y, .int 0])))) : zM Γ d mX5_give 0 0 [.ref rf, .int x, .int y] G Post := by
  refine zM_of pnX5 rfl (Nat.le_of_ble_eq_true rfl) rfl ?_
  refine z_aload_n dX5_give_0 rfl ?_
  refine z_iload_n dX5_give_1 rfl ?_
  refine z_put dX5_give_2 fX5_7 hF rfl rfl (Nat.le_of_ble_eq_true rfl) ?_
  refine z_aload_n dX5_give_5 rfl ?_
  refine z_iload_n dX5_give_6 rfl ?_
  refine z_put dX5_give_7 fX5_13 (zset_s _ _ _) rfl rfl (Nat.le_of_ble_eq_true rfl) ?_
  rw [zset_ss]
  refine z_aload_n dX5_give_10 rfl ?_
  refine z_iconst (v := 0) dX5_give_11 (by decide) ?_
  refine z_put dX5_give_12 fX5_16 (zset_s _ _ _) rfl rfl (Nat.le_of_ble_eq_true rfl) ?_
  rw [zset_ss]
  refine z_iconst (v := 1) dX5_give_15 (by decide) ?_
  exact z_ireturn (mi := mX5_give) dX5_give_16 rfl rfl (Nat.le_refl _) (Nat.le_refl _) (hP)
