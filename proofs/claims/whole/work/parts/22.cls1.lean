theorem zmin8 {ct : Nat} (h : ct ≤ 8) : (if nI 8 < nI ct + 1 then nI 8 else nI ct + 1) = nI (if ct < 8 then ct + 1 else 8) := by
  rw [nI_1]
  by_cases e : ct < 8
  · rw [if_pos e, if_neg (fun q => by have := (nI_ltI (by decide) (by omega)).mp q; omega)]
  · rw [if_neg e, if_pos ((nI_ltI (by decide) (by omega)).mpr (by omega))]
set_option maxHeartbeats 4000000 in
set_option maxRecDepth 10000 in
theorem sX3_slotAt {Γ : zG} {d : Nat} {G : zH} {ax : Nat → Nat} {bq m : Nat} {ρ : Nat → zSt} {γ : zSt} (hC : zCls G ax bq m ρ γ) {s : Nat} {Post : zV} (hs : s < 8) (hP : Post (some (.ref (zar ax (3 + s) 0))) G) : zM Γ d mX3_slotAt 0 0 [.ref (ax 1), .int (nI s)] G Post := by
  refine zM_of pnX3 rfl (Nat.le_of_ble_eq_true rfl) rfl ?_
  refine z_iload_n dX3_slotAt_0 rfl ?_
  refine z_if_lt (tgt := 22) dX3_slotAt_1 (by decide) (fun c1 => ?_) (fun c1 => ?_)
  · exact absurd c1 (nI_pos (by omega))
  · refine z_iload_n dX3_slotAt_4 rfl ?_
    refine z_aload_n dX3_slotAt_5 rfl ?_
    refine z_get dX3_slotAt_6 fX3_18.r (hC.1 _ (by decide)) rfl ?_
    refine z_alen (v := nI 8) dX3_slotAt_9 (hC.1 2 (by decide)) rfl ?_
    refine z_icmp_ge (tgt := 22) dX3_slotAt_10 (by decide) (fun c2 => ?_) (fun c2 => ?_)
    · exact absurd c2 (nI_ge hs (by decide))
    · refine z_aload_n dX3_slotAt_13 rfl ?_
      refine z_get dX3_slotAt_14 fX3_18.r (hC.1 _ (by decide)) rfl ?_
      refine z_iload_n dX3_slotAt_17 rfl ?_
      refine z_qald (Cn := RX6) dX3_slotAt_18 (hC.1 2 (by decide)) (vp_in_nI hs (by decide)) ?_
      rw [nI_clamp (by omega), show zring ax s = some (zar ax (3 + s) 0) from if_pos hs]
      refine z_goto (tgt := 23) dX3_slotAt_19 (by decide) ?_
      exact z_areturn (mi := mX3_slotAt) dX3_slotAt_23 rfl (Or.inl ⟨_, rfl⟩) (Or.inr ⟨_, rfl⟩) (Nat.le_refl _) (Nat.le_refl _) hP
set_option maxHeartbeats 4000000 in
set_option maxRecDepth 10000 in
theorem sX3_keep {Γ : zG} {d : Nat} {G : zH} {ax : Nat → Nat} {bq m : Nat} {ρ : Nat → zSt} {γ : zSt} (hC : zCls G ax bq m ρ γ) {nx ct : Nat} (hX : zXN γ nx ct) {Post : zV} (hP : ∀ G1, zCls G1 ax bq m (zkeepR ρ nx) (zkeepG γ nx ct) → zFC G G1 ax bq → Post none G1) : zM Γ (d + 3) mX3_keep 0 0 [.ref (ax 1), .ref (zar ax 0 0)] G Post := by
  refine zM_of pnX3 rfl (Nat.le_of_ble_eq_true rfl) rfl ?_
  have hQ : zFC G G ax bq := zFC.rf
  obtain ⟨hn, hn8, hc, hc8⟩ := hX
  refine z_aload_n dX3_keep_0 rfl ?_
  refine z_aload_n dX3_keep_1 rfl ?_
  refine z_get dX3_keep_2 fX3_7.r (hC.1 _ (by decide)) rfl ?_
  rw [hn]
  refine z_V1 (mi' := mX3_slotAt) dX3_keep_5 lX3_23 nX3_slotAt kX3_slotAt (by decide) (Nat.le_of_ble_eq_true rfl) (Nat.le_refl _) (Nat.le_refl _) (hC.1 _ (by decide)) rfl rfl ?_
  refine sX3_slotAt hC hn8 ?_
  refine z_astore_n dX3_keep_8 (by decide) rfl ?_
  refine z_aload_n dX3_keep_9 rfl ?_
  refine z_ifnonnull_r (tgt := 14) dX3_keep_10 (by decide) ?_
  refine z_aload_n dX3_keep_14 rfl ?_
  refine z_aload_n dX3_keep_15 rfl ?_
  refine z_V1 (mi' := mX6_copyFrom) dX3_keep_16 lX3_27 nX6_copyFrom kX6_copyFrom (by decide) (Nat.le_of_ble_eq_true rfl) (Nat.le_refl _) (Nat.le_refl _) ((hC.2.1 (3 + nx) (by omega)).1 0 (by decide)) rfl rfl ?_
  refine sX6_copyFrom (hC.2.1 (3 + nx) (by omega)) (hC.2.1 0 (by decide)) (zar_dis hC.2.2.1 (by omega) (by decide) (by omega)) (fun _ h1 _ hF => ?_)
  have hC := hC.riv (by omega) h1 hF
  have hQ := hQ.tr (zFC.frm (by omega) hF)
  refine z_aload_n dX3_keep_19 rfl ?_
  refine z_aload_n dX3_keep_20 rfl ?_
  refine z_get dX3_keep_21 fX3_7.r (hC.1 _ (by decide)) rfl ?_
  refine z_iconst (v := 1) dX3_keep_24 (by decide) ?_
  rw [hn]
  refine z_iadd dX3_keep_25 ?_
  refine z_aload_n dX3_keep_26 rfl ?_
  refine z_get dX3_keep_27 fX3_18.r (hC.1 _ (by decide)) rfl ?_
  refine z_alen (v := nI 8) dX3_keep_30 (hC.1 2 (by decide)) rfl ?_
  refine z_icmp_ge (tgt := 43) dX3_keep_31 (by decide) (fun c1 => ?_) (fun c1 => ?_)
  · have h9 : 8 ≤ nx + 1 := (nI_leI (by decide) (by omega)).mp (show nI 8 ≤ nI (nx + 1) by rw [← nI_1 nx]; exact c1)
    have e9 : (0 : Int32) = nI (if nx + 1 < 8 then nx + 1 else 0) := by rw [if_neg (by omega)]; rfl
    have e8 : (if nI 8 < nI ct + 1 then nI 8 else nI ct + 1) = nI (if ct < 8 then ct + 1 else 8) := zmin8 hc8
    refine z_iconst (v := 0) dX3_keep_43 (by decide) ?_
    refine z_put dX3_keep_44 fX3_7 (hC.1 _ (by decide)) rfl rfl (Nat.le_of_ble_eq_true rfl) ?_
    refine z_cnum hC 2 (nI (if nx + 1 < 8 then nx + 1 else 0)) (by decide) (by rw [e9]; rfl) (fun _ hC hF => ?_)
    have hQ := hQ.tr hF
    refine z_aload_n dX3_keep_47 rfl ?_
    refine z_aload_n dX3_keep_48 rfl ?_
    refine z_get dX3_keep_49 fX3_13.r (hC.1 _ (by decide)) rfl ?_
    refine z_iconst (v := 1) dX3_keep_52 (by decide) ?_
    refine z_iadd dX3_keep_53 ?_
    refine z_aload_n dX3_keep_54 rfl ?_
    refine z_get dX3_keep_55 fX3_18.r (hC.1 _ (by decide)) rfl ?_
    refine z_alen (v := nI 8) dX3_keep_58 (hC.1 2 (by decide)) rfl ?_
    have hc7 : zu γ 0 2 (nI (if nx + 1 < 8 then nx + 1 else 0)) 0 3 = nI ct := (zu_j (by decide)).trans hc
    rw [hc7]
    refine z_mmin dX3_keep_59 lkX3_31 (Nat.le_of_ble_eq_true rfl) (Nat.le_refl _) (Nat.le_refl _) ?_
    rw [e8]
    refine z_put dX3_keep_62 fX3_13 (hC.1 _ (by decide)) rfl rfl (Nat.le_of_ble_eq_true rfl) ?_
    refine z_cnum hC 3 (nI (if ct < 8 then ct + 1 else 8)) (by decide) rfl (fun _ hC hF => ?_)
    have hQ := hQ.tr hF
    exact z_vreturn (mi := mX3_keep) dX3_keep_65 rfl (Nat.le_refl _) (Nat.le_refl _) (hP _ hC hQ)
  · have h9 : ¬ 8 ≤ nx + 1 := fun q => c1 (show nI 8 ≤ nI nx + 1 by rw [nI_1 nx]; exact (nI_leI (by decide) (by omega)).mpr q)
    have e9 : γ 0 2 + 1 = nI (if nx + 1 < 8 then nx + 1 else 0) := by rw [if_pos (by omega), hn, nI_1]
    have e8 : (if nI 8 < nI ct + 1 then nI 8 else nI ct + 1) = nI (if ct < 8 then ct + 1 else 8) := zmin8 hc8
    refine z_aload_n dX3_keep_34 rfl ?_
    refine z_get dX3_keep_35 fX3_7.r (hC.1 _ (by decide)) rfl ?_
    refine z_iconst (v := 1) dX3_keep_38 (by decide) ?_
    refine z_iadd dX3_keep_39 ?_
    refine z_goto (tgt := 44) dX3_keep_40 (by decide) ?_
    refine z_put dX3_keep_44 fX3_7 (hC.1 _ (by decide)) rfl rfl (Nat.le_of_ble_eq_true rfl) ?_
    refine z_cnum hC 2 (nI (if nx + 1 < 8 then nx + 1 else 0)) (by decide) (by rw [e9]; rfl) (fun _ hC hF => ?_)
    have hQ := hQ.tr hF
    refine z_aload_n dX3_keep_47 rfl ?_
    refine z_aload_n dX3_keep_48 rfl ?_
    refine z_get dX3_keep_49 fX3_13.r (hC.1 _ (by decide)) rfl ?_
    refine z_iconst (v := 1) dX3_keep_52 (by decide) ?_
    refine z_iadd dX3_keep_53 ?_
    refine z_aload_n dX3_keep_54 rfl ?_
    refine z_get dX3_keep_55 fX3_18.r (hC.1 _ (by decide)) rfl ?_
    refine z_alen (v := nI 8) dX3_keep_58 (hC.1 2 (by decide)) rfl ?_
    have hc7 : zu γ 0 2 (nI (if nx + 1 < 8 then nx + 1 else 0)) 0 3 = nI ct := (zu_j (by decide)).trans hc
    rw [hc7]
    refine z_mmin dX3_keep_59 lkX3_31 (Nat.le_of_ble_eq_true rfl) (Nat.le_refl _) (Nat.le_refl _) ?_
    rw [e8]
    refine z_put dX3_keep_62 fX3_13 (hC.1 _ (by decide)) rfl rfl (Nat.le_of_ble_eq_true rfl) ?_
    refine z_cnum hC 3 (nI (if ct < 8 then ct + 1 else 8)) (by decide) rfl (fun _ hC hF => ?_)
    have hQ := hQ.tr hF
    exact z_vreturn (mi := mX3_keep) dX3_keep_65 rfl (Nat.le_refl _) (Nat.le_refl _) (hP _ hC hQ)
set_option maxHeartbeats 4000000 in
set_option maxRecDepth 10000 in
theorem sX3_takeBack {Γ : zG} {d : Nat} {G : zH} {ax : Nat → Nat} {bq m : Nat} {ρ : Nat → zSt} {γ : zSt} (hC : zCls G ax bq m ρ γ) {nx ct : Nat} (hX : zXN γ nx ct) {Post : zV} (hc0 : 0 < ct) (hP : ∀ G1, zCls G1 ax bq m (zrv ρ 0 (ρ (3 + zlast nx))) (zu (zu γ 0 2 (nI (zlast nx))) 0 3 (nI (ct - 1))) → zFC G G1 ax bq → Post none G1) : zM Γ (d + 3) mX3_takeBack 0 0 [.ref (ax 1), .ref (zar ax 0 0)] G Post := by
  refine zM_of pnX3 rfl (Nat.le_of_ble_eq_true rfl) rfl ?_
  have hQ : zFC G G ax bq := zFC.rf
  obtain ⟨hn, hn8, hc, hc8⟩ := hX
  have hl8 := zlast_lt hn8
  refine z_aload_n dX3_takeBack_0 rfl ?_
  refine z_get dX3_takeBack_1 fX3_7.r (hC.1 _ (by decide)) rfl ?_
  rw [hn]
  refine z_if_le (tgt := 16) dX3_takeBack_4 (by decide) (fun c1 => ?_) (fun c1 => ?_)
  · have h9 : nx ≤ 0 := (nI_leI (b := 0) (by omega) (by decide)).mp c1
    have e9 : nI 8 - 1 = nI (zlast nx) := by rw [zlast, if_neg (by omega)]; rfl
    refine z_aload_n dX3_takeBack_16 rfl ?_
    refine z_get dX3_takeBack_17 fX3_18.r (hC.1 _ (by decide)) rfl ?_
    refine z_alen (v := nI 8) dX3_takeBack_20 (hC.1 2 (by decide)) rfl ?_
    refine z_iconst (v := 1) dX3_takeBack_21 (by decide) ?_
    refine z_isub dX3_takeBack_22 ?_
    rw [e9]
    refine z_istore_n dX3_takeBack_23 (by decide) rfl ?_
    refine z_aload_n dX3_takeBack_24 rfl ?_
    refine z_iload_n dX3_takeBack_25 rfl ?_
    refine z_V1 (mi' := mX3_slotAt) dX3_takeBack_26 lX3_23 nX3_slotAt kX3_slotAt (by decide) (Nat.le_of_ble_eq_true rfl) (Nat.le_refl _) (Nat.le_refl _) (hC.1 _ (by decide)) rfl rfl ?_
    refine sX3_slotAt hC hl8 ?_
    refine z_astore_n dX3_takeBack_29 (by decide) rfl ?_
    refine z_aload_n dX3_takeBack_30 rfl ?_
    refine z_ifnull_r dX3_takeBack_31 ?_
    refine z_aload_n dX3_takeBack_34 rfl ?_
    refine z_get dX3_takeBack_35 fX3_13.r (hC.1 _ (by decide)) rfl ?_
    rw [hc]
    refine z_if_ne (tgt := 42) dX3_takeBack_38 (by decide) (fun c2 => ?_) (fun c2 => ?_)
    · refine z_aload_n dX3_takeBack_42 rfl ?_
      refine z_aload_n dX3_takeBack_43 rfl ?_
      refine z_V1 (mi' := mX6_copyFrom) dX3_takeBack_44 lX3_27 nX6_copyFrom kX6_copyFrom (by decide) (Nat.le_of_ble_eq_true rfl) (Nat.le_refl _) (Nat.le_refl _) ((hC.2.1 0 (by decide)).1 _ (by decide)) rfl rfl ?_
      refine sX6_copyFrom (hC.2.1 0 (by decide)) (hC.2.1 (3 + zlast nx) (by omega)) (zar_dis hC.2.2.1 (by decide) (by omega) (by omega)) (fun _ h1 _ hF => ?_)
      have hC := hC.riv (by decide) h1 hF
      have hQ := hQ.tr (zFC.frm (by decide) hF)
      refine z_aload_n dX3_takeBack_47 rfl ?_
      refine z_iload_n dX3_takeBack_48 rfl ?_
      refine z_put dX3_takeBack_49 fX3_7 (hC.1 _ (by decide)) rfl rfl (Nat.le_of_ble_eq_true rfl) ?_
      refine z_cnum hC 2 (nI (zlast nx)) (by decide) rfl (fun _ hC hF => ?_)
      have hQ := hQ.tr hF
      refine z_aload_n dX3_takeBack_52 rfl ?_
      refine z_dup dX3_takeBack_53 rfl ?_
      refine z_get dX3_takeBack_54 fX3_13.r (hC.1 _ (by decide)) rfl ?_
      refine z_iconst (v := 1) dX3_takeBack_57 (by decide) ?_
      refine z_isub dX3_takeBack_58 ?_
      rw [show zu γ 0 2 (nI (zlast nx)) 0 3 - 1 = nI (ct - 1) by rw [zu_j (by decide), hc]; exact pk_sub (b := 1) hc0]
      refine z_put dX3_takeBack_59 fX3_13 (hC.1 _ (by decide)) rfl rfl (Nat.le_of_ble_eq_true rfl) ?_
      refine z_cnum hC 3 (nI (ct - 1)) (by decide) rfl (fun _ hC hF => ?_)
      have hQ := hQ.tr hF
      exact z_vreturn (mi := mX3_takeBack) dX3_takeBack_62 rfl (Nat.le_refl _) (Nat.le_refl _) (hP _ hC hQ)
    · exact absurd c2 (nI_ne0 hc0 (by omega))
  · have h9 : 0 < nx := Nat.lt_of_not_le fun q => c1 ((nI_leI (b := 0) (by omega) (by decide)).mpr q)
    have e9 : nI nx - 1 = nI (zlast nx) := by rw [zlast, if_pos h9]; exact pk_sub (b := 1) h9
    refine z_aload_n dX3_takeBack_7 rfl ?_
    refine z_get dX3_takeBack_8 fX3_7.r (hC.1 _ (by decide)) rfl ?_
    rw [hn]
    refine z_iconst (v := 1) dX3_takeBack_11 (by decide) ?_
    refine z_isub dX3_takeBack_12 ?_
    refine z_goto (tgt := 23) dX3_takeBack_13 (by decide) ?_
    rw [e9]
    refine z_istore_n dX3_takeBack_23 (by decide) rfl ?_
    refine z_aload_n dX3_takeBack_24 rfl ?_
    refine z_iload_n dX3_takeBack_25 rfl ?_
    refine z_V1 (mi' := mX3_slotAt) dX3_takeBack_26 lX3_23 nX3_slotAt kX3_slotAt (by decide) (Nat.le_of_ble_eq_true rfl) (Nat.le_refl _) (Nat.le_refl _) (hC.1 _ (by decide)) rfl rfl ?_
    refine sX3_slotAt hC hl8 ?_
    refine z_astore_n dX3_takeBack_29 (by decide) rfl ?_
    refine z_aload_n dX3_takeBack_30 rfl ?_
    refine z_ifnull_r dX3_takeBack_31 ?_
    refine z_aload_n dX3_takeBack_34 rfl ?_
    refine z_get dX3_takeBack_35 fX3_13.r (hC.1 _ (by decide)) rfl ?_
    rw [hc]
    refine z_if_ne (tgt := 42) dX3_takeBack_38 (by decide) (fun c3 => ?_) (fun c3 => ?_)
    · refine z_aload_n dX3_takeBack_42 rfl ?_
      refine z_aload_n dX3_takeBack_43 rfl ?_
      refine z_V1 (mi' := mX6_copyFrom) dX3_takeBack_44 lX3_27 nX6_copyFrom kX6_copyFrom (by decide) (Nat.le_of_ble_eq_true rfl) (Nat.le_refl _) (Nat.le_refl _) ((hC.2.1 0 (by decide)).1 _ (by decide)) rfl rfl ?_
      refine sX6_copyFrom (hC.2.1 0 (by decide)) (hC.2.1 (3 + zlast nx) (by omega)) (zar_dis hC.2.2.1 (by decide) (by omega) (by omega)) (fun _ h1 _ hF => ?_)
      have hC := hC.riv (by decide) h1 hF
      have hQ := hQ.tr (zFC.frm (by decide) hF)
      refine z_aload_n dX3_takeBack_47 rfl ?_
      refine z_iload_n dX3_takeBack_48 rfl ?_
      refine z_put dX3_takeBack_49 fX3_7 (hC.1 _ (by decide)) rfl rfl (Nat.le_of_ble_eq_true rfl) ?_
      refine z_cnum hC 2 (nI (zlast nx)) (by decide) rfl (fun _ hC hF => ?_)
      have hQ := hQ.tr hF
      refine z_aload_n dX3_takeBack_52 rfl ?_
      refine z_dup dX3_takeBack_53 rfl ?_
      refine z_get dX3_takeBack_54 fX3_13.r (hC.1 _ (by decide)) rfl ?_
      refine z_iconst (v := 1) dX3_takeBack_57 (by decide) ?_
      refine z_isub dX3_takeBack_58 ?_
      rw [show zu γ 0 2 (nI (zlast nx)) 0 3 - 1 = nI (ct - 1) by rw [zu_j (by decide), hc]; exact pk_sub (b := 1) hc0]
      refine z_put dX3_takeBack_59 fX3_13 (hC.1 _ (by decide)) rfl rfl (Nat.le_of_ble_eq_true rfl) ?_
      refine z_cnum hC 3 (nI (ct - 1)) (by decide) rfl (fun _ hC hF => ?_)
      have hQ := hQ.tr hF
      exact z_vreturn (mi := mX3_takeBack) dX3_takeBack_62 rfl (Nat.le_refl _) (Nat.le_refl _) (hP _ hC hQ)
    · exact absurd c3 (nI_ne0 hc0 (by omega))
set_option maxHeartbeats 4000000 in
set_option maxRecDepth 10000 in
theorem sX3_forget {Γ : zG} {d : Nat} {G : zH} {ax : Nat → Nat} {bq m : Nat} {ρ : Nat → zSt} {γ : zSt} (hC : zCls G ax bq m ρ γ) {Post : zV} (hP : ∀ G1, zCls G1 ax bq m ρ (zu γ 0 3 0) → zFC G G1 ax bq → Post none G1) : zM Γ d mX3_forget 0 0 [.ref (ax 1)] G Post := by
  refine zM_of pnX3 rfl (Nat.le_of_ble_eq_true rfl) rfl ?_
  refine z_aload_n dX3_forget_0 rfl ?_
  refine z_iconst (v := 0) dX3_forget_1 (by decide) ?_
  refine z_put dX3_forget_2 fX3_13 (hC.1 _ (by decide)) rfl rfl (Nat.le_of_ble_eq_true rfl) ?_
  refine z_cnum hC 3 0 (by decide) rfl (fun _ hC hF => ?_)
  exact z_vreturn (mi := mX3_forget) dX3_forget_5 rfl (Nat.le_refl _) (Nat.le_refl _) (hP _ hC hF)
