set_option maxHeartbeats 4000000 in
set_option maxRecDepth 10000 in
theorem sX7_copy {Γ : zG} {d : Nat} {G : zH} {Post : zV} {a b n : Nat} {f g : Nat → Int32} (hA : G a = some (.inl (.int, (n, .inl f)))) (hB : G b = some (.inl (.int, (n, .inl g)))) (hn : n < 2147483648) (hP : Post none (zset G b (.inl (.int, (n, .inl f))))) : zM Γ d mX7_copy 0 0 [.ref a, .ref b] G Post := by
  refine zM_of pnX7 rfl (Nat.le_of_ble_eq_true rfl) rfl ?_
  refine z_aload_n dX7_copy_0 rfl ?_
  refine z_iconst (v := 0) dX7_copy_1 (by decide) ?_
  refine z_aload_n dX7_copy_2 rfl ?_
  refine z_iconst (v := 0) dX7_copy_3 (by decide) ?_
  refine z_aload_n dX7_copy_4 rfl ?_
  refine z_alen (v := nI n) dX7_copy_5 hA rfl ?_
  refine z_aload_n dX7_copy_6 rfl ?_
  refine z_alen (v := nI n) dX7_copy_7 hB rfl ?_
  refine z_mmin dX7_copy_8 lkX7_7 (Nat.le_of_ble_eq_true rfl) (Nat.le_refl _) (Nat.le_refl _) ?_
  rw [ite_self]
  refine z_copyI dX7_copy_11 laX7_13 hA hB (nI_pos hn) (by rw [nI_clamp hn]; exact Nat.le_refl _) (by decide) ?_
  rw [nI_clamp hn]
  refine z_ext (g := f) (fun j hj => sb_cpy0 hj) ?_
  exact z_vreturn (mi := mX7_copy) dX7_copy_14 rfl (Nat.le_refl _) (Nat.le_refl _) (hP)
set_option maxHeartbeats 4000000 in
set_option maxRecDepth 10000 in
theorem sX8_setRight {Γ : zG} {d : Nat} {G : zH} {Post : zV} {ad : Nat → Nat} {σ : zSt} (hR : zRiv G ad σ) {s : Nat} (hs : s < 6) (hP : ∀ G1, zRiv G1 ad (zu σ 3 s 0) → zFrm G G1 ad 19 → Post (some (.int (σ 3 s))) G1) : zM Γ (d + 1) mX8_setRight 0 0 [.ref (ad 1), .int (nI s)] G Post := by
  refine zM_of pnX8 rfl (Nat.le_of_ble_eq_true rfl) rfl ?_
  have hQ : zFrm G G ad 19 := zFrm.rf
  refine z_aload_n dX8_setRight_0 rfl ?_
  refine z_get dX8_setRight_1 fX8_23.r (hR.1 _ (by decide)) rfl ?_
  refine z_iload_n dX8_setRight_4 rfl ?_
  refine z_S2 (mi' := mX7_at) dX8_setRight_5 lX8_36 nX7_at kX7_at (by decide) (Nat.le_of_ble_eq_true rfl) (Nat.le_refl _) (Nat.le_refl _) ?_
  refine sX7_at (hR.1 _ (by decide)) (by decide) hs ?_
  refine z_istore_n dX8_setRight_8 (by decide) rfl ?_
  refine z_aload_n dX8_setRight_9 rfl ?_
  refine z_get dX8_setRight_10 fX8_23.r (hR.1 _ (by decide)) rfl ?_
  refine z_iload_n dX8_setRight_13 rfl ?_
  refine z_iconst (v := 0) dX8_setRight_14 (by decide) ?_
  refine z_S3 (mi' := mX7_set) dX8_setRight_15 lX8_32 nX7_set kX7_set (by decide) (Nat.le_of_ble_eq_true rfl) (Nat.le_refl _) (Nat.le_refl _) ?_
  refine sRset hR 3 (s) (by decide) (show s < 6 by omega) (fun _ hR hF1 => ?_)
  have hQ := hQ.tr hF1
  refine z_iload_n dX8_setRight_18 rfl ?_
  exact z_ireturn (mi := mX8_setRight) dX8_setRight_19 rfl rfl (Nat.le_refl _) (Nat.le_refl _) (hP _ hR hQ)
set_option maxHeartbeats 4000000 in
set_option maxRecDepth 10000 in
theorem sX8_add {Γ : zG} {d : Nat} {G : zH} {Post : zV} {ad : Nat → Nat} {σ : zSt} (hR : zRiv G ad σ) {S F E K : Nat} (hN : zN σ S F E K) {p b h : Int32} (hS5 : S < 6) (hP : ∀ G1, zRiv G1 ad (zu (zu (zu (zu (zu σ 0 S p) 1 S b) 2 S h) 3 S 0) 13 1 (nI (S + 1))) → zFrm G G1 ad 19 → Post (some (.int (nI S))) G1) : zM Γ (d + 1) mX8_add 0 0 [.ref (ad 1), .int p, .int b, .int h] G Post := by
  refine zM_of pnX8 rfl (Nat.le_of_ble_eq_true rfl) rfl ?_
  have hQ : zFrm G G ad 19 := zFrm.rf
  obtain ⟨hS, hS6, hF, hF12, hE, hE4, hK, hK3⟩ := id hN
  refine z_aload_n dX8_add_0 rfl ?_
  refine z_get dX8_add_1 fX8_7.r (hR.1 _ (by decide)) rfl ?_
  rw [hS]
  refine z_istore dX8_add_4 (by decide) rfl ?_
  refine z_aload_n dX8_add_6 rfl ?_
  refine z_get dX8_add_7 fX8_13.r (hR.1 _ (by decide)) rfl ?_
  refine z_iload dX8_add_10 rfl ?_
  refine z_iload_n dX8_add_12 rfl ?_
  refine z_S3 (mi' := mX7_set) dX8_add_13 lX8_32 nX7_set kX7_set (by decide) (Nat.le_of_ble_eq_true rfl) (Nat.le_refl _) (Nat.le_refl _) ?_
  refine sRset hR 0 (S) (by decide) (show S < 6 by omega) (fun _ hR hF1 => ?_)
  have hQ := hQ.tr hF1
  refine z_aload_n dX8_add_16 rfl ?_
  refine z_get dX8_add_17 fX8_17.r (hR.1 _ (by decide)) rfl ?_
  refine z_iload dX8_add_20 rfl ?_
  refine z_iload_n dX8_add_22 rfl ?_
  refine z_S3 (mi' := mX7_set) dX8_add_23 lX8_32 nX7_set kX7_set (by decide) (Nat.le_of_ble_eq_true rfl) (Nat.le_refl _) (Nat.le_refl _) ?_
  refine sRset hR 1 (S) (by decide) (show S < 6 by omega) (fun _ hR hF1 => ?_)
  have hQ := hQ.tr hF1
  refine z_aload_n dX8_add_26 rfl ?_
  refine z_get dX8_add_27 fX8_20.r (hR.1 _ (by decide)) rfl ?_
  refine z_iload dX8_add_30 rfl ?_
  refine z_iload_n dX8_add_32 rfl ?_
  refine z_S3 (mi' := mX7_set) dX8_add_33 lX8_32 nX7_set kX7_set (by decide) (Nat.le_of_ble_eq_true rfl) (Nat.le_refl _) (Nat.le_refl _) ?_
  refine sRset hR 2 (S) (by decide) (show S < 6 by omega) (fun _ hR hF1 => ?_)
  have hQ := hQ.tr hF1
  refine z_aload_n dX8_add_36 rfl ?_
  refine z_get dX8_add_37 fX8_23.r (hR.1 _ (by decide)) rfl ?_
  refine z_iload dX8_add_40 rfl ?_
  refine z_iconst (v := 0) dX8_add_42 (by decide) ?_
  refine z_S3 (mi' := mX7_set) dX8_add_43 lX8_32 nX7_set kX7_set (by decide) (Nat.le_of_ble_eq_true rfl) (Nat.le_refl _) (Nat.le_refl _) ?_
  refine sRset hR 3 (S) (by decide) (show S < 6 by omega) (fun _ hR hF1 => ?_)
  have hQ := hQ.tr hF1
  refine z_aload_n dX8_add_46 rfl ?_
  refine z_iload dX8_add_47 rfl ?_
  refine z_iconst (v := 1) dX8_add_49 (by decide) ?_
  refine z_iadd dX8_add_50 ?_
  rw [nI_1 S]
  refine z_put dX8_add_51 fX8_7 (hR.1 _ (by decide)) rfl rfl (Nat.le_of_ble_eq_true rfl) ?_
  refine z_num hR 1 (nI (S + 1)) (by decide) rfl (fun _ hR hF1 => ?_)
  have hQ := hQ.tr hF1
  refine z_iload dX8_add_54 rfl ?_
  exact z_ireturn (mi := mX8_add) dX8_add_56 rfl rfl (Nat.le_refl _) (Nat.le_refl _) (hP _ hR hQ)
set_option maxHeartbeats 4000000 in
set_option maxRecDepth 10000 in
theorem sX2_add {Γ : zG} {d : Nat} {G : zH} {Post : zV} {ad : Nat → Nat} {σ : zSt} (hR : zRiv G ad σ) {S F E K : Nat} (hN : zN σ S F E K) {p b h : Int32} (hF5 : F < 12) (hP : ∀ G1, zRiv G1 ad (zu (zu (zu (zu σ 4 F p) 5 F b) 6 F h) 13 2 (nI (F + 1))) → zFrm G G1 ad 19 → Post (some (.int (nI F))) G1) : zM Γ (d + 1) mX2_add 0 0 [.ref (ad 2), .int p, .int b, .int h] G Post := by
  refine zM_of pnX2 rfl (Nat.le_of_ble_eq_true rfl) rfl ?_
  have hQ : zFrm G G ad 19 := zFrm.rf
  obtain ⟨hS, hS6, hFc, hF12, hE, hE4, hK, hK3⟩ := id hN
  refine z_aload_n dX2_add_0 rfl ?_
  refine z_get dX2_add_1 fX2_7.r (hR.1 _ (by decide)) rfl ?_
  rw [hFc]
  refine z_istore dX2_add_4 (by decide) rfl ?_
  refine z_aload_n dX2_add_6 rfl ?_
  refine z_get dX2_add_7 fX2_13.r (hR.1 _ (by decide)) rfl ?_
  refine z_iload dX2_add_10 rfl ?_
  refine z_iload_n dX2_add_12 rfl ?_
  refine z_S3 (mi' := mX7_set) dX2_add_13 lX2_29 nX7_set kX7_set (by decide) (Nat.le_of_ble_eq_true rfl) (Nat.le_refl _) (Nat.le_refl _) ?_
  refine sRset hR 4 (F) (by decide) (show F < 12 by omega) (fun _ hR hF1 => ?_)
  have hQ := hQ.tr hF1
  refine z_aload_n dX2_add_16 rfl ?_
  refine z_get dX2_add_17 fX2_17.r (hR.1 _ (by decide)) rfl ?_
  refine z_iload dX2_add_20 rfl ?_
  refine z_iload_n dX2_add_22 rfl ?_
  refine z_S3 (mi' := mX7_set) dX2_add_23 lX2_29 nX7_set kX7_set (by decide) (Nat.le_of_ble_eq_true rfl) (Nat.le_refl _) (Nat.le_refl _) ?_
  refine sRset hR 5 (F) (by decide) (show F < 12 by omega) (fun _ hR hF1 => ?_)
  have hQ := hQ.tr hF1
  refine z_aload_n dX2_add_26 rfl ?_
  refine z_get dX2_add_27 fX2_20.r (hR.1 _ (by decide)) rfl ?_
  refine z_iload dX2_add_30 rfl ?_
  refine z_iload_n dX2_add_32 rfl ?_
  refine z_S3 (mi' := mX7_set) dX2_add_33 lX2_29 nX7_set kX7_set (by decide) (Nat.le_of_ble_eq_true rfl) (Nat.le_refl _) (Nat.le_refl _) ?_
  refine sRset hR 6 (F) (by decide) (show F < 12 by omega) (fun _ hR hF1 => ?_)
  have hQ := hQ.tr hF1
  refine z_aload_n dX2_add_36 rfl ?_
  refine z_iload dX2_add_37 rfl ?_
  refine z_iconst (v := 1) dX2_add_39 (by decide) ?_
  refine z_iadd dX2_add_40 ?_
  rw [nI_1 F]
  refine z_put dX2_add_41 fX2_7 (hR.1 _ (by decide)) rfl rfl (Nat.le_of_ble_eq_true rfl) ?_
  refine z_num hR 2 (nI (F + 1)) (by decide) rfl (fun _ hR hF1 => ?_)
  have hQ := hQ.tr hF1
  refine z_iload dX2_add_44 rfl ?_
  exact z_ireturn (mi := mX2_add) dX2_add_46 rfl rfl (Nat.le_refl _) (Nat.le_refl _) (hP _ hR hQ)
set_option maxHeartbeats 4000000 in
set_option maxRecDepth 10000 in
theorem sX2_addWitnesses {Γ : zG} {d : Nat} {G : zH} {Post : zV} {ad : Nat → Nat} {σ : zSt} (hR : zRiv G ad σ) {f : Nat} {w : Int32} (hf : f < 12) (hP : ∀ G1, zRiv G1 ad (zu σ 6 f (σ 6 f + w)) → zFrm G G1 ad 19 → Post (some (.int (σ 6 f + w))) G1) : zM Γ (d + 1) mX2_addWitnesses 0 0 [.ref (ad 2), .int (nI f), .int w] G Post := by
  refine zM_of pnX2 rfl (Nat.le_of_ble_eq_true rfl) rfl ?_
  have hQ : zFrm G G ad 19 := zFrm.rf
  refine z_aload_n dX2_addWitnesses_0 rfl ?_
  refine z_get dX2_addWitnesses_1 fX2_20.r (hR.1 _ (by decide)) rfl ?_
  refine z_iload_n dX2_addWitnesses_4 rfl ?_
  refine z_S2 (mi' := mX7_at) dX2_addWitnesses_5 lX2_33 nX7_at kX7_at (by decide) (Nat.le_of_ble_eq_true rfl) (Nat.le_refl _) (Nat.le_refl _) ?_
  refine sX7_at (hR.1 _ (by decide)) (by decide) hf ?_
  refine z_iload_n dX2_addWitnesses_8 rfl ?_
  refine z_iadd dX2_addWitnesses_9 ?_
  refine z_istore_n dX2_addWitnesses_10 (by decide) rfl ?_
  refine z_aload_n dX2_addWitnesses_11 rfl ?_
  refine z_get dX2_addWitnesses_12 fX2_20.r (hR.1 _ (by decide)) rfl ?_
  refine z_iload_n dX2_addWitnesses_15 rfl ?_
  refine z_iload_n dX2_addWitnesses_16 rfl ?_
  refine z_S3 (mi' := mX7_set) dX2_addWitnesses_17 lX2_29 nX7_set kX7_set (by decide) (Nat.le_of_ble_eq_true rfl) (Nat.le_refl _) (Nat.le_refl _) ?_
  refine sRset hR 6 (f) (by decide) (show f < 12 by omega) (fun _ hR hF1 => ?_)
  have hQ := hQ.tr hF1
  refine z_iload_n dX2_addWitnesses_20 rfl ?_
  exact z_ireturn (mi := mX2_addWitnesses) dX2_addWitnesses_21 rfl rfl (Nat.le_refl _) (Nat.le_refl _) (hP _ hR hQ)
set_option maxHeartbeats 4000000 in
set_option maxRecDepth 10000 in
theorem sX0_add {Γ : zG} {d : Nat} {G : zH} {Post : zV} {ad : Nat → Nat} {σ : zSt} (hR : zRiv G ad σ) {S F E K : Nat} (hN : zN σ S F E K) (hK5 : K < 3) (hP : ∀ G1, zRiv G1 ad (zu (zu σ 9 K 20) 13 4 (nI (K + 1))) → zFrm G G1 ad 19 → Post (some (.int (nI K))) G1) : zM Γ (d + 1) mX0_add 0 0 [.ref (ad 4)] G Post := by
  refine zM_of pnX0 rfl (Nat.le_of_ble_eq_true rfl) rfl ?_
  have hQ : zFrm G G ad 19 := zFrm.rf
  obtain ⟨hS, hS6, hFc, hF12, hE, hE4, hKc, hK3⟩ := id hN
  refine z_aload_n dX0_add_0 rfl ?_
  refine z_get dX0_add_1 fX0_7.r (hR.1 _ (by decide)) rfl ?_
  rw [hKc]
  refine z_istore_n dX0_add_4 (by decide) rfl ?_
  refine z_aload_n dX0_add_5 rfl ?_
  refine z_get dX0_add_6 fX0_13.r (hR.1 _ (by decide)) rfl ?_
  refine z_iload_n dX0_add_9 rfl ?_
  refine z_bipush (v := 20) dX0_add_10 (by decide) ?_
  refine z_S3 (mi' := mX7_set) dX0_add_12 lX0_23 nX7_set kX7_set (by decide) (Nat.le_of_ble_eq_true rfl) (Nat.le_refl _) (Nat.le_refl _) ?_
  refine sRset hR 9 (K) (by decide) (show K < 3 by omega) (fun _ hR hF1 => ?_)
  have hQ := hQ.tr hF1
  refine z_aload_n dX0_add_15 rfl ?_
  refine z_iload_n dX0_add_16 rfl ?_
  refine z_iconst (v := 1) dX0_add_17 (by decide) ?_
  refine z_iadd dX0_add_18 ?_
  rw [nI_1 K]
  refine z_put dX0_add_19 fX0_7 (hR.1 _ (by decide)) rfl rfl (Nat.le_of_ble_eq_true rfl) ?_
  refine z_num hR 4 (nI (K + 1)) (by decide) rfl (fun _ hR hF1 => ?_)
  have hQ := hQ.tr hF1
  refine z_iload_n dX0_add_22 rfl ?_
  exact z_ireturn (mi := mX0_add) dX0_add_23 rfl rfl (Nat.le_refl _) (Nat.le_refl _) (hP _ hR hQ)
set_option maxHeartbeats 4000000 in
set_option maxRecDepth 10000 in
theorem sX0_renew {Γ : zG} {d : Nat} {G : zH} {Post : zV} {ad : Nat → Nat} {σ : zSt} (hR : zRiv G ad σ) {c : Nat} (hc : c < 3) (hP : ∀ G1, zRiv G1 ad (zu σ 9 c 20) → zFrm G G1 ad 19 → Post (some (.int (σ 9 c))) G1) : zM Γ (d + 1) mX0_renew 0 0 [.ref (ad 4), .int (nI c)] G Post := by
  refine zM_of pnX0 rfl (Nat.le_of_ble_eq_true rfl) rfl ?_
  have hQ : zFrm G G ad 19 := zFrm.rf
  refine z_aload_n dX0_renew_0 rfl ?_
  refine z_get dX0_renew_1 fX0_13.r (hR.1 _ (by decide)) rfl ?_
  refine z_iload_n dX0_renew_4 rfl ?_
  refine z_S2 (mi' := mX7_at) dX0_renew_5 lX0_27 nX7_at kX7_at (by decide) (Nat.le_of_ble_eq_true rfl) (Nat.le_refl _) (Nat.le_refl _) ?_
  refine sX7_at (hR.1 _ (by decide)) (by decide) hc ?_
  refine z_istore_n dX0_renew_8 (by decide) rfl ?_
  refine z_aload_n dX0_renew_9 rfl ?_
  refine z_get dX0_renew_10 fX0_13.r (hR.1 _ (by decide)) rfl ?_
  refine z_iload_n dX0_renew_13 rfl ?_
  refine z_bipush (v := 20) dX0_renew_14 (by decide) ?_
  refine z_S3 (mi' := mX7_set) dX0_renew_16 lX0_23 nX7_set kX7_set (by decide) (Nat.le_of_ble_eq_true rfl) (Nat.le_refl _) (Nat.le_refl _) ?_
  refine sRset hR 9 (c) (by decide) (show c < 3 by omega) (fun _ hR hF1 => ?_)
  have hQ := hQ.tr hF1
  refine z_iload_n dX0_renew_19 rfl ?_
  exact z_ireturn (mi := mX0_renew) dX0_renew_20 rfl rfl (Nat.le_refl _) (Nat.le_refl _) (hP _ hR hQ)
set_option maxHeartbeats 4000000 in
set_option maxRecDepth 10000 in
theorem sX0_blunt {Γ : zG} {d : Nat} {G : zH} {Post : zV} {ad : Nat → Nat} {σ : zSt} (hR : zRiv G ad σ) {c : Nat} {x : Int32} (hc : c < 3) (hP : ∀ G1, zRiv G1 ad (zu σ 9 c (σ 9 c - x)) → zFrm G G1 ad 19 → Post (none) G1) : zM Γ (d + 1) mX0_blunt 0 0 [.ref (ad 4), .int (nI c), .int x] G Post := by
  refine zM_of pnX0 rfl (Nat.le_of_ble_eq_true rfl) rfl ?_
  have hQ : zFrm G G ad 19 := zFrm.rf
  refine z_aload_n dX0_blunt_0 rfl ?_
  refine z_get dX0_blunt_1 fX0_13.r (hR.1 _ (by decide)) rfl ?_
  refine z_iload_n dX0_blunt_4 rfl ?_
  refine z_aload_n dX0_blunt_5 rfl ?_
  refine z_get dX0_blunt_6 fX0_13.r (hR.1 _ (by decide)) rfl ?_
  refine z_iload_n dX0_blunt_9 rfl ?_
  refine z_S2 (mi' := mX7_at) dX0_blunt_10 lX0_27 nX7_at kX7_at (by decide) (Nat.le_of_ble_eq_true rfl) (Nat.le_refl _) (Nat.le_refl _) ?_
  refine sX7_at (hR.1 _ (by decide)) (by decide) hc ?_
  refine z_iload_n dX0_blunt_13 rfl ?_
  refine z_isub dX0_blunt_14 ?_
  refine z_S3 (mi' := mX7_set) dX0_blunt_15 lX0_23 nX7_set kX7_set (by decide) (Nat.le_of_ble_eq_true rfl) (Nat.le_refl _) (Nat.le_refl _) ?_
  refine sRset hR 9 (c) (by decide) (show c < 3 by omega) (fun _ hR hF1 => ?_)
  have hQ := hQ.tr hF1
  exact z_vreturn (mi := mX0_blunt) dX0_blunt_18 rfl (Nat.le_refl _) (Nat.le_refl _) (hP _ hR hQ)
set_option maxHeartbeats 4000000 in
set_option maxRecDepth 10000 in
theorem sX4_add {Γ : zG} {d : Nat} {G : zH} {Post : zV} {ad : Nat → Nat} {σ : zSt} (hR : zRiv G ad σ) {j : Nat} {h dp y : Int32} (hj : j < 72) (hP : ∀ G1, zRiv G1 ad (zu (zu (zu (zu σ 10 j h) 11 j dp) 12 j y) 13 5 (σ 13 5 + 1)) → zFrm G G1 ad 19 → Post (none) G1) : zM Γ (d + 1) mX4_add 0 0 [.ref (ad 5), .int (nI j), .int h, .int dp, .int y] G Post := by
  refine zM_of pnX4 rfl (Nat.le_of_ble_eq_true rfl) rfl ?_
  have hQ : zFrm G G ad 19 := zFrm.rf
  refine z_aload_n dX4_add_0 rfl ?_
  refine z_get dX4_add_1 fX4_13.r (hR.1 _ (by decide)) rfl ?_
  refine z_iload_n dX4_add_4 rfl ?_
  refine z_iload_n dX4_add_5 rfl ?_
  refine z_S3 (mi' := mX7_set) dX4_add_6 lX4_47 nX7_set kX7_set (by decide) (Nat.le_of_ble_eq_true rfl) (Nat.le_refl _) (Nat.le_refl _) ?_
  refine sRset hR 10 (j) (by decide) (show j < 72 by omega) (fun _ hR hF1 => ?_)
  have hQ := hQ.tr hF1
  refine z_aload_n dX4_add_9 rfl ?_
  refine z_get dX4_add_10 fX4_17.r (hR.1 _ (by decide)) rfl ?_
  refine z_iload_n dX4_add_13 rfl ?_
  refine z_iload_n dX4_add_14 rfl ?_
  refine z_S3 (mi' := mX7_set) dX4_add_15 lX4_47 nX7_set kX7_set (by decide) (Nat.le_of_ble_eq_true rfl) (Nat.le_refl _) (Nat.le_refl _) ?_
  refine sRset hR 11 (j) (by decide) (show j < 72 by omega) (fun _ hR hF1 => ?_)
  have hQ := hQ.tr hF1
  refine z_aload_n dX4_add_18 rfl ?_
  refine z_get dX4_add_19 fX4_20.r (hR.1 _ (by decide)) rfl ?_
  refine z_iload_n dX4_add_22 rfl ?_
  refine z_iload dX4_add_23 rfl ?_
  refine z_S3 (mi' := mX7_set) dX4_add_25 lX4_47 nX7_set kX7_set (by decide) (Nat.le_of_ble_eq_true rfl) (Nat.le_refl _) (Nat.le_refl _) ?_
  refine sRset hR 12 (j) (by decide) (show j < 72 by omega) (fun _ hR hF1 => ?_)
  have hQ := hQ.tr hF1
  refine z_aload_n dX4_add_28 rfl ?_
  refine z_dup dX4_add_29 rfl ?_
  refine z_get dX4_add_30 fX4_23.r (hR.1 _ (by decide)) rfl ?_
  refine z_iconst (v := 1) dX4_add_33 (by decide) ?_
  refine z_iadd dX4_add_34 ?_
  refine z_put dX4_add_35 fX4_23 (hR.1 _ (by decide)) rfl rfl (Nat.le_of_ble_eq_true rfl) ?_
  refine z_num hR 5 (σ 13 5 + 1) (by decide) rfl (fun _ hR hF1 => ?_)
  have hQ := hQ.tr hF1
  exact z_vreturn (mi := mX4_add) dX4_add_38 rfl (Nat.le_refl _) (Nat.le_refl _) (hP _ hR hQ)
set_option maxHeartbeats 4000000 in
set_option maxRecDepth 10000 in
theorem sX4_takeOff {Γ : zG} {d : Nat} {G : zH} {Post : zV} {ad : Nat → Nat} {σ : zSt} (hR : zRiv G ad σ) {s f : Nat} (hs : s < 6) (hf : f < 12) (hP : ∀ G1, zRiv G1 ad (zu (zu σ 11 (12 * s + f) 0) 13 6 (σ 13 6 + 1)) → zFrm G G1 ad 19 → Post (some (.int (σ 10 (12 * s + f)))) G1) : zM Γ (d + 2) mX4_takeOff 0 0 [.ref (ad 5), .int (nI s), .int (nI f)] G Post := by
  refine zM_of pnX4 rfl (Nat.le_of_ble_eq_true rfl) rfl ?_
  have hQ : zFrm G G ad 19 := zFrm.rf
  refine z_aload_n dX4_takeOff_0 rfl ?_
  refine z_get dX4_takeOff_1 fX4_17.r (hR.1 _ (by decide)) rfl ?_
  refine z_iload_n dX4_takeOff_4 rfl ?_
  refine z_iload_n dX4_takeOff_5 rfl ?_
  refine z_S2 (mi' := mX4_cell) dX4_takeOff_6 lX4_39 nX4_cell kX4_cell (by decide) (Nat.le_of_ble_eq_true rfl) (Nat.le_refl _) (Nat.le_refl _) ?_
  refine sX4_cell ?_
  refine z_iconst (v := 0) dX4_takeOff_9 (by decide) ?_
  refine z_S3 (mi' := mX7_set) dX4_takeOff_10 lX4_47 nX7_set kX7_set (by decide) (Nat.le_of_ble_eq_true rfl) (Nat.le_refl _) (Nat.le_refl _) ?_
  refine sRset hR 11 (12 * s + f) (by decide) (show 12 * s + f < 72 by omega) (fun _ hR hF1 => ?_)
  have hQ := hQ.tr hF1
  refine z_aload_n dX4_takeOff_13 rfl ?_
  refine z_dup dX4_takeOff_14 rfl ?_
  refine z_get dX4_takeOff_15 fX4_27.r (hR.1 _ (by decide)) rfl ?_
  refine z_iconst (v := 1) dX4_takeOff_18 (by decide) ?_
  refine z_iadd dX4_takeOff_19 ?_
  refine z_put dX4_takeOff_20 fX4_27 (hR.1 _ (by decide)) rfl rfl (Nat.le_of_ble_eq_true rfl) ?_
  refine z_num hR 6 (σ 13 6 + 1) (by decide) rfl (fun _ hR hF1 => ?_)
  have hQ := hQ.tr hF1
  refine z_aload_n dX4_takeOff_23 rfl ?_
  refine z_iload_n dX4_takeOff_24 rfl ?_
  refine z_iload_n dX4_takeOff_25 rfl ?_
  refine z_V2 (mi' := mX4_heightAt) dX4_takeOff_26 lX4_51 nX4_heightAt kX4_heightAt (by decide) (Nat.le_of_ble_eq_true rfl) (Nat.le_refl _) (Nat.le_refl _) (hR.1 _ (by decide)) rfl rfl ?_
  refine sX4_heightAt hR hs hf ?_
  exact z_ireturn (mi := mX4_takeOff) dX4_takeOff_29 rfl rfl (Nat.le_refl _) (Nat.le_refl _) (hP _ hR hQ)
set_option maxHeartbeats 4000000 in
set_option maxRecDepth 10000 in
theorem sX1_tell {Γ : zG} {d : Nat} {G : zH} {Post : zV} {ad : Nat → Nat} {σ : zSt} (hR : zRiv G ad σ) {S F E K : Nat} (hN : zN σ S F E K) {y a : Int32} (hE5 : ztix σ E y < E ∨ E < 4) (hP : ∀ G1, zRiv G1 ad (ztell σ E y a) → zFrm G G1 ad 19 → Post (some (.int (ztell σ E y a 13 3))) G1) : zM Γ (d + 2) mX1_tell 0 0 [.ref (ad 3), .int y, .int a] G Post := by
  refine zM_of pnX1 rfl (Nat.le_of_ble_eq_true rfl) rfl ?_
  have hQ : zFrm G G ad 19 := zFrm.rf
  obtain ⟨hS, hS6, hFc, hF12, hE, hE4, hK, hK3⟩ := id hN
  have hz := zff_le (fun k => decide (σ 7 k = y)) E
  change ztix σ E y ≤ E at hz
  refine z_aload_n dX1_tell_0 rfl ?_
  refine z_iload_n dX1_tell_1 rfl ?_
  refine z_V1 (mi' := mX1_find) dX1_tell_2 lX1_30 nX1_find kX1_find (by decide) (Nat.le_of_ble_eq_true rfl) (Nat.le_refl _) (Nat.le_refl _) (hR.1 _ (by decide)) rfl rfl ?_
  refine sX1_find hR hN ?_
  refine z_istore_n dX1_tell_5 (by decide) rfl ?_
  refine z_iload_n dX1_tell_6 rfl ?_
  refine z_if_ge (tgt := 25) dX1_tell_7 (by decide) (fun c1 => ?_) (fun c1 => ?_)
  · have hz2 : ztix σ E y < E := by
      apply Nat.lt_of_not_le
      intro q
      have h9 : zfi (fun k => decide (σ 7 k = y)) E = -1 := if_neg (by change ¬ ztix σ E y < E; omega)
      rw [h9] at c1
      exact absurd c1 (by decide)
    have h8 : zfi (fun k => decide (σ 7 k = y)) E = nI (ztix σ E y) := if_pos hz2
    rw [h8]
    have h7 : ztell σ E y a = zu (zu σ 7 (ztix σ E y) y) 8 (ztix σ E y) a := by rw [ztell, if_pos hz2]
    rw [h7] at hP
    refine z_aload_n dX1_tell_25 rfl ?_
    refine z_get dX1_tell_26 fX1_13.r (hR.1 _ (by decide)) rfl ?_
    refine z_iload_n dX1_tell_29 rfl ?_
    refine z_iload_n dX1_tell_30 rfl ?_
    refine z_S3 (mi' := mX7_set) dX1_tell_31 lX1_34 nX7_set kX7_set (by decide) (Nat.le_of_ble_eq_true rfl) (Nat.le_refl _) (Nat.le_refl _) ?_
    refine sRset hR 7 (ztix σ E y) (by decide) (show ztix σ E y < 4 by omega) (fun _ hR hF1 => ?_)
    have hQ := hQ.tr hF1
    refine z_aload_n dX1_tell_34 rfl ?_
    refine z_get dX1_tell_35 fX1_17.r (hR.1 _ (by decide)) rfl ?_
    refine z_iload_n dX1_tell_38 rfl ?_
    refine z_iload_n dX1_tell_39 rfl ?_
    refine z_S3 (mi' := mX7_set) dX1_tell_40 lX1_34 nX7_set kX7_set (by decide) (Nat.le_of_ble_eq_true rfl) (Nat.le_refl _) (Nat.le_refl _) ?_
    refine sRset hR 8 (ztix σ E y) (by decide) (show ztix σ E y < 4 by omega) (fun _ hR hF1 => ?_)
    have hQ := hQ.tr hF1
    refine z_aload_n dX1_tell_43 rfl ?_
    refine z_get dX1_tell_44 fX1_7.r (hR.1 _ (by decide)) rfl ?_
    exact z_ireturn (mi := mX1_tell) dX1_tell_47 rfl rfl (Nat.le_refl _) (Nat.le_refl _) (hP _ hR hQ)
  · have hz2 : ¬ ztix σ E y < E := by
      intro q
      have h9 : zfi (fun k => decide (σ 7 k = y)) E = nI (ztix σ E y) := if_pos q
      rw [h9] at c1
      exact c1 (nI_pos' (by omega))
    have hz3 : ztix σ E y = E := by omega
    have h7 : ztell σ E y a = zu (zu (zu σ 13 3 (σ 13 3 + 1)) 7 (ztix σ E y) y) 8 (ztix σ E y) a := by rw [ztell, if_neg hz2]
    rw [h7] at hP
    refine z_aload_n dX1_tell_10 rfl ?_
    refine z_get dX1_tell_11 fX1_7.r (hR.1 _ (by decide)) rfl ?_
    rw [hE, ← hz3]
    refine z_istore_n dX1_tell_14 (by decide) rfl ?_
    refine z_aload_n dX1_tell_15 rfl ?_
    refine z_dup dX1_tell_16 rfl ?_
    refine z_get dX1_tell_17 fX1_7.r (hR.1 _ (by decide)) rfl ?_
    refine z_iconst (v := 1) dX1_tell_20 (by decide) ?_
    refine z_iadd dX1_tell_21 ?_
    refine z_put dX1_tell_22 fX1_7 (hR.1 _ (by decide)) rfl rfl (Nat.le_of_ble_eq_true rfl) ?_
    refine z_num hR 3 (σ 13 3 + 1) (by decide) rfl (fun _ hR hF1 => ?_)
    have hQ := hQ.tr hF1
    refine z_aload_n dX1_tell_25 rfl ?_
    refine z_get dX1_tell_26 fX1_13.r (hR.1 _ (by decide)) rfl ?_
    refine z_iload_n dX1_tell_29 rfl ?_
    refine z_iload_n dX1_tell_30 rfl ?_
    refine z_S3 (mi' := mX7_set) dX1_tell_31 lX1_34 nX7_set kX7_set (by decide) (Nat.le_of_ble_eq_true rfl) (Nat.le_refl _) (Nat.le_refl _) ?_
    refine sRset hR 7 (ztix σ E y) (by decide) (show ztix σ E y < 4 by omega) (fun _ hR hF1 => ?_)
    have hQ := hQ.tr hF1
    refine z_aload_n dX1_tell_34 rfl ?_
    refine z_get dX1_tell_35 fX1_17.r (hR.1 _ (by decide)) rfl ?_
    refine z_iload_n dX1_tell_38 rfl ?_
    refine z_iload_n dX1_tell_39 rfl ?_
    refine z_S3 (mi' := mX7_set) dX1_tell_40 lX1_34 nX7_set kX7_set (by decide) (Nat.le_of_ble_eq_true rfl) (Nat.le_refl _) (Nat.le_refl _) ?_
    refine sRset hR 8 (ztix σ E y) (by decide) (show ztix σ E y < 4 by omega) (fun _ hR hF1 => ?_)
    have hQ := hQ.tr hF1
    refine z_aload_n dX1_tell_43 rfl ?_
    refine z_get dX1_tell_44 fX1_7.r (hR.1 _ (by decide)) rfl ?_
    exact z_ireturn (mi := mX1_tell) dX1_tell_47 rfl rfl (Nat.le_refl _) (Nat.le_refl _) (hP _ hR hQ)
set_option maxHeartbeats 4000000 in
set_option maxRecDepth 10000 in
theorem sX8_driftAll {Γ : zG} {d : Nat} {G : zH} {Post : zV} {ad : Nat → Nat} {σ : zSt} (hR : zRiv G ad σ) {S F E K : Nat} (hN : zN σ S F E K) (hP : ∀ G1, zRiv G1 ad (zdr σ S) → zFrm G G1 ad 19 → Post (none) G1) : zM Γ (d + 1) mX8_driftAll 0 0 [.ref (ad 1)] G Post := by
  refine zM_of pnX8 rfl (Nat.le_of_ble_eq_true rfl) rfl ?_
  obtain ⟨hS, hS6, hFc, hF12, hE, hE4, hK, hK3⟩ := id hN
  have key : ∀ (r : Nat) (i : Nat) (G1 : zH), i ≤ S → S < i + r → zRiv G1 ad (zrw σ 3 (zdrow (σ 3) i)) → zFrm G G1 ad 19 → zX Γ mX8_driftAll (d + 1) 0 0 2 [some (.ref (ad 1)), some (.int (nI i))] [] G1 0 0 (zlift Post) := by
    intro r
    induction r with
    | zero =>
      intro i G1 hi1 hi2 hR hQ
      exact absurd hi2 (by omega)
    | succ r ih =>
      intro i G1 hi1 hi2 hR hQ
      refine z_iload_n dX8_driftAll_2 rfl ?_
      refine z_aload_n dX8_driftAll_3 rfl ?_
      refine z_get dX8_driftAll_4 fX8_7.r (hR.1 _ (by decide)) rfl ?_
      refine z_icmp_ge (tgt := 35) dX8_driftAll_7 (by decide) (fun c1 => ?_) (fun c1 => ?_)
      · have hi9 := zgeN hS (by omega) (by omega) c1
        exact z_vreturn (mi := mX8_driftAll) dX8_driftAll_35 rfl (Nat.le_refl _) (Nat.le_refl _) (by obtain rfl : i = S := (by omega); exact hP _ hR hQ)
      · have hi9 := zltN hS (by omega) (by omega) c1
        refine z_aload_n dX8_driftAll_10 rfl ?_
        refine z_get dX8_driftAll_11 fX8_23.r (hR.1 _ (by decide)) rfl ?_
        refine z_iload_n dX8_driftAll_14 rfl ?_
        refine z_aload_n dX8_driftAll_15 rfl ?_
        refine z_get dX8_driftAll_16 fX8_23.r (hR.1 _ (by decide)) rfl ?_
        refine z_iload_n dX8_driftAll_19 rfl ?_
        refine z_S2 (mi' := mX7_at) dX8_driftAll_20 lX8_36 nX7_at kX7_at (by decide) (Nat.le_of_ble_eq_true rfl) (Nat.le_refl _) (Nat.le_refl _) ?_
        refine sX7_at (hR.1 _ (by decide)) (by decide) (show i < 6 by omega) ?_
        refine z_S1 (mi' := mX8_drift) dX8_driftAll_23 lX8_40 nX8_drift kX8_drift (by decide) (Nat.le_of_ble_eq_true rfl) (Nat.le_refl _) (Nat.le_refl _) ?_
        refine sX8_drift ?_
        refine z_S3 (mi' := mX7_set) dX8_driftAll_26 lX8_32 nX7_set kX7_set (by decide) (Nat.le_of_ble_eq_true rfl) (Nat.le_refl _) (Nat.le_refl _) ?_
        refine sRset hR 3 (i) (by decide) (show i < 6 by omega) (fun _ hR hF1 => ?_)
        have hQ := hQ.tr hF1
        refine z_iinc dX8_driftAll_29 rfl rfl (by decide) rfl ?_
        refine z_goto (tgt := 2) dX8_driftAll_32 (by decide) ?_
        exact z_sub (lv' := [some (.ref (ad 1)), some (.int (nI (i + 1)))]) ⟨rfl, zsl (zinc i), trivial⟩ (ih (i + 1) _ (by omega) (by omega) (by rw [zu_zrw (zdrow_s σ i)] at hR; exact hR) hQ)
  refine z_iconst (v := 0) dX8_driftAll_0 (by decide) ?_
  refine z_istore_n dX8_driftAll_1 (by decide) rfl ?_
  exact z_sub (lv' := [some (.ref (ad 1)), some (.int (nI 0))]) ⟨rfl, rfl, trivial⟩ (key (S + 1) 0 G (by omega) (by omega) (by rw [zrw_0 (zdrow_0 (σ 3))]; exact hR) zFrm.rf)
set_option maxHeartbeats 4000000 in
set_option maxRecDepth 10000 in
theorem sX4_weatherAll {Γ : zG} {d : Nat} {G : zH} {Post : zV} {ad : Nat → Nat} {σ : zSt} (hR : zRiv G ad σ) (hP : ∀ G1, zRiv G1 ad (zwt σ) → zFrm G G1 ad 19 → Post (some (.int (nI (zgn σ)))) G1) : zM Γ (d + 1) mX4_weatherAll 0 0 [.ref (ad 5)] G Post := by
  refine zM_of pnX4 rfl (Nat.le_of_ble_eq_true rfl) rfl ?_
  have key : ∀ (r : Nat) (i : Nat) (G1 : zH), i ≤ 72 → 72 < i + r → zRiv G1 ad (zrw σ 11 (zwrow (σ 11) i)) → zFrm G G1 ad 19 → zX Γ mX4_weatherAll (d + 1) 0 0 4 [some (.ref (ad 5)), some (.int (nI (zct (fun j => decide (σ 11 j = 1)) i))), some (.int (nI i)), none] [] G1 0 0 (zlift Post) := by
    intro r
    induction r with
    | zero =>
      intro i G1 hi1 hi2 hR hQ
      exact absurd hi2 (by omega)
    | succ r ih =>
      intro i G1 hi1 hi2 hR hQ
      refine z_iload_n dX4_weatherAll_4 rfl ?_
      refine z_bipush (v := 72) dX4_weatherAll_5 (by decide) ?_
      refine z_icmp_ge (tgt := 53) dX4_weatherAll_7 (by decide) (fun c1 => ?_) (fun c1 => ?_)
      · have hi9 := zgeN (N := 72) rfl (by omega) (by omega) c1
        refine z_aload_n dX4_weatherAll_53 rfl ?_
        refine z_dup dX4_weatherAll_54 rfl ?_
        refine z_get dX4_weatherAll_55 fX4_30.r (hR.1 _ (by decide)) rfl ?_
        refine z_iload_n dX4_weatherAll_58 rfl ?_
        refine z_iadd dX4_weatherAll_59 ?_
        refine z_put dX4_weatherAll_60 fX4_30 (hR.1 _ (by decide)) rfl rfl (Nat.le_of_ble_eq_true rfl) ?_
        obtain rfl : i = 72 := (by omega)
        refine z_num hR 7 (σ 13 7 + nI (zgn σ)) (by decide) rfl (fun _ hR hF1 => ?_)
        have hQ := hQ.tr hF1
        refine z_iload_n dX4_weatherAll_63 rfl ?_
        exact z_ireturn (mi := mX4_weatherAll) dX4_weatherAll_64 rfl rfl (Nat.le_refl _) (Nat.le_refl _) (hP _ hR hQ)
      · have hi9 := zltN (N := 72) rfl (by omega) (by omega) c1
        refine z_aload_n dX4_weatherAll_10 rfl ?_
        refine z_get dX4_weatherAll_11 fX4_17.r (hR.1 _ (by decide)) rfl ?_
        refine z_iload_n dX4_weatherAll_14 rfl ?_
        refine z_S2 (mi' := mX7_at) dX4_weatherAll_15 lX4_43 nX7_at kX7_at (by decide) (Nat.le_of_ble_eq_true rfl) (Nat.le_refl _) (Nat.le_refl _) ?_
        refine sX7_at (hR.1 _ (by decide)) (by decide) (show i < 72 by omega) ?_
        have hz : zrw σ 11 (zwrow (σ 11) i) 11 i = σ 11 i := if_neg (fun q => absurd q.1 (by omega))
        rw [hz]
        refine z_istore_n dX4_weatherAll_18 (by decide) rfl ?_
        refine z_iload_n dX4_weatherAll_19 rfl ?_
        refine z_if_le (tgt := 47) dX4_weatherAll_20 (by decide) (fun c2 => ?_) (fun c2 => ?_)
        · have hlp : ¬ 0 < σ 11 i := Int32.not_lt.mpr c2
          have e8 : zrw σ 11 (zwrow (σ 11) i) = zrw σ 11 (zwrow (σ 11) (i + 1)) := zrw_g (zwrow_n hlp)
          have e9 := zct_f (p := (fun j => decide (σ 11 j = 1))) (n := i) (decide_eq_false (fun q => hlp (by rw [q]; decide)))
          refine z_iinc dX4_weatherAll_47 rfl rfl (by decide) rfl ?_
          refine z_goto (tgt := 4) dX4_weatherAll_50 (by decide) ?_
          exact z_sub (lv' := [some (.ref (ad 5)), some (.int (nI (zct (fun j => decide (σ 11 j = 1)) (i + 1)))), some (.int (nI (i + 1))), none]) ⟨rfl, zsl (by (rw [e9]) <;> first | exact nI_1 _ | exact zadd0 _ | rfl), zsl (zinc i), trivial⟩ (ih (i + 1) _ (by omega) (by omega) (e8 ▸ hR) hQ)
        · have hlp : 0 < σ 11 i := Int32.not_le.mp c2
          have e8 : zu (zrw σ 11 (zwrow (σ 11) i)) 11 i (σ 11 i - 1) = zrw σ 11 (zwrow (σ 11) (i + 1)) := zu_zrw (zwrow_y hlp)
          refine z_aload_n dX4_weatherAll_23 rfl ?_
          refine z_get dX4_weatherAll_24 fX4_17.r (hR.1 _ (by decide)) rfl ?_
          refine z_iload_n dX4_weatherAll_27 rfl ?_
          refine z_iload_n dX4_weatherAll_28 rfl ?_
          refine z_iconst (v := 1) dX4_weatherAll_29 (by decide) ?_
          refine z_isub dX4_weatherAll_30 ?_
          refine z_S3 (mi' := mX7_set) dX4_weatherAll_31 lX4_47 nX7_set kX7_set (by decide) (Nat.le_of_ble_eq_true rfl) (Nat.le_refl _) (Nat.le_refl _) ?_
          refine sRset hR 11 (i) (by decide) (show i < 72 by omega) (fun _ hR hF1 => ?_)
          have hQ := hQ.tr hF1
          refine z_iload_n dX4_weatherAll_34 rfl ?_
          refine z_iload_n dX4_weatherAll_35 rfl ?_
          refine z_iconst (v := 1) dX4_weatherAll_36 (by decide) ?_
          refine z_icmp_ne (tgt := 44) dX4_weatherAll_37 (by decide) (fun c3 => ?_) (fun c3 => ?_)
          · have e9 := zct_f (p := (fun j => decide (σ 11 j = 1))) (n := i) (decide_eq_false c3)
            refine z_iconst (v := 0) dX4_weatherAll_44 (by decide) ?_
            refine z_iadd dX4_weatherAll_45 ?_
            refine z_istore_n dX4_weatherAll_46 (by decide) rfl ?_
            refine z_iinc dX4_weatherAll_47 rfl rfl (by decide) rfl ?_
            refine z_goto (tgt := 4) dX4_weatherAll_50 (by decide) ?_
            exact z_sub (lv' := [some (.ref (ad 5)), some (.int (nI (zct (fun j => decide (σ 11 j = 1)) (i + 1)))), some (.int (nI (i + 1))), none]) ⟨rfl, zsl (by (rw [e9]) <;> first | exact nI_1 _ | exact zadd0 _ | rfl), zsl (zinc i), trivial⟩ (ih (i + 1) _ (by omega) (by omega) (e8 ▸ hR) hQ)
          · have e9 := zct_t (p := (fun j => decide (σ 11 j = 1))) (n := i) (decide_eq_true c3)
            refine z_iconst (v := 1) dX4_weatherAll_40 (by decide) ?_
            refine z_goto (tgt := 45) dX4_weatherAll_41 (by decide) ?_
            refine z_iadd dX4_weatherAll_45 ?_
            refine z_istore_n dX4_weatherAll_46 (by decide) rfl ?_
            refine z_iinc dX4_weatherAll_47 rfl rfl (by decide) rfl ?_
            refine z_goto (tgt := 4) dX4_weatherAll_50 (by decide) ?_
            exact z_sub (lv' := [some (.ref (ad 5)), some (.int (nI (zct (fun j => decide (σ 11 j = 1)) (i + 1)))), some (.int (nI (i + 1))), none]) ⟨rfl, zsl (by (rw [e9]) <;> first | exact nI_1 _ | exact zadd0 _ | rfl), zsl (zinc i), trivial⟩ (ih (i + 1) _ (by omega) (by omega) (e8 ▸ hR) hQ)
  refine z_iconst (v := 0) dX4_weatherAll_0 (by decide) ?_
  refine z_istore_n dX4_weatherAll_1 (by decide) rfl ?_
  refine z_iconst (v := 0) dX4_weatherAll_2 (by decide) ?_
  refine z_istore_n dX4_weatherAll_3 (by decide) rfl ?_
  exact z_sub (lv' := [some (.ref (ad 5)), some (.int (nI (zct (fun j => decide (σ 11 j = 1)) 0))), some (.int (nI 0)), none]) ⟨rfl, rfl, rfl, trivial⟩ (key 73 0 G (by omega) (by omega) (by rw [zrw_0 (zwrow_0 (σ 11))]; exact hR) zFrm.rf)
