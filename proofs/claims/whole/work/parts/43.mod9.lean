theorem zoutr {x a b : Int32} (h : ¬ (a ≤ x ∧ x ≤ b)) : x < a ∨ b < x := by
  by_cases q : x < a
  · exact Or.inl q
  · exact Or.inr (Int32.not_le.mp (fun q2 => h ⟨Int32.not_lt.mp q, q2⟩))
theorem zinr {x a b : Int32} (h : a ≤ x ∧ x ≤ b) : ¬ (x < a ∨ b < x) := fun q => q.elim (fun q => Int32.not_lt.mpr h.1 q) (fun q => Int32.not_lt.mpr h.2 q)
theorem znle {n m : Nat} {x c : Int32} (hx : x = nI n) (hc : c = nI m) (hn : n < 2147483648) (hm : m < 2147483648) (h : n < m) : ¬ c ≤ x := fun q => by
  rw [hx, hc] at q
  have := (nI_leI hm hn).mp q
  omega
theorem zyle {n m : Nat} {x c : Int32} (hx : x = nI n) (hc : c = nI m) (hn : n < 2147483648) (hm : m < 2147483648) (h : m ≤ n) : c ≤ x := by
  rw [hx, hc]
  exact (nI_leI hm hn).mpr h
set_option maxHeartbeats 4000000 in
set_option maxRecDepth 10000 in
theorem sX11_append {Γ : zG} {d : Nat} {G : zH} {Post : zV} {am : Nat → Nat} {μ : zSt} (hM : zMod G am μ) {n : Nat} (hn : μ 0 13 = nI n) (hn60 : n ≤ 60) {x : Int32} (hO : n < 60 → ∀ G1, zMod G1 am (zu (zu (zu μ 0 7 0) 5 n x) 0 13 (nI (n + 1))) → zFrm G G1 am 8 → Post (some (.int (nI (n + 1)))) G1) (hE : n = 60 → ∀ G1, zMod G1 am (zu μ 0 7 1) → zFrm G G1 am 8 → Post (some (.int 0)) G1) : zM Γ (d + 1) mX11_append 0 0 [.ref (am 0), .int x] G Post := by
  refine zM_of pnX11 rfl (Nat.le_of_ble_eq_true rfl) rfl ?_
  refine z_aload_n dX11_append_0 rfl ?_
  refine z_aload_n dX11_append_1 rfl ?_
  refine z_get dX11_append_2 fX11_177.r (hM.1 _ (by decide)) rfl ?_
  refine z_bipush (v := 60) dX11_append_5 (by decide) ?_
  refine z_icmp_ne (tgt := 14) dX11_append_7 (by decide) (fun c1 => ?_) (fun c1 => ?_)
  · have h1 : n < 60 := by
      have h2 : n ≠ 60 := fun q => c1 (by rw [hn, q]; rfl)
      omega
    refine z_iconst (v := 0) dX11_append_14 (by decide) ?_
    refine z_V1 (mi' := mX11_fails) dX11_append_15 lX11_149 nX11_fails kX11_fails (by decide) (Nat.le_of_ble_eq_true rfl) (Nat.le_refl _) (Nat.le_refl _) (hM.1 _ (by decide)) rfl rfl ?_
    refine sX11_fails hM (fun G1 hM hQ => ?_)
    rw [zfb0]
    refine z_if_eq (tgt := 23) dX11_append_18 (by decide) (fun c2 => ?_) (fun c2 => ?_)
    · refine z_aload_n dX11_append_23 rfl ?_
      refine z_get dX11_append_24 fX11_22.r (hM.1 _ (by decide)) rfl ?_
      refine z_aload_n dX11_append_27 rfl ?_
      refine z_get dX11_append_28 fX11_177.r (hM.1 _ (by decide)) rfl ?_
      refine z_iload_n dX11_append_31 rfl ?_
      rw [show zu μ 0 7 0 0 13 = nI n from hn]
      refine z_iast dX11_append_32 (hM.1 5 (by decide)) (vp_in_nI (show n < 60 by omega) (by decide)) ?_
      rw [nI_clamp (show n < 2147483648 by omega)]
      refine z_mset hM 5 n x (by decide) (by simp only [zmE, zu_row]) (fun _ hM hF => ?_)
      have hQ := hQ.tr hF
      refine z_aload_n dX11_append_33 rfl ?_
      refine z_dup dX11_append_34 rfl ?_
      refine z_get dX11_append_35 fX11_177.r (hM.1 _ (by decide)) rfl ?_
      refine z_iconst (v := 1) dX11_append_38 (by decide) ?_
      rw [show zu (zu μ 0 7 0) 5 n x 0 13 = nI n from hn]
      refine z_iadd dX11_append_39 ?_
      rw [nI_1]
      refine z_put dX11_append_40 fX11_177 (hM.1 _ (by decide)) rfl rfl (Nat.le_of_ble_eq_true rfl) ?_
      refine z_mset hM 0 13 (nI (n + 1)) (by decide) rfl (fun _ hM hF => ?_)
      have hQ := hQ.tr hF
      refine z_aload_n dX11_append_43 rfl ?_
      refine z_get dX11_append_44 fX11_177.r (hM.1 _ (by decide)) rfl ?_
      exact z_ireturn (mi := mX11_append) dX11_append_47 rfl rfl (Nat.le_refl _) (Nat.le_refl _) (hO h1 _ hM hQ)
    · exact absurd rfl c2
  · have h1 : n = 60 := znI_inj (by omega) (by decide) (hn.symm.trans (show μ 0 13 = nI 60 from c1))
    refine z_iconst (v := 1) dX11_append_10 (by decide) ?_
    refine z_goto (tgt := 15) dX11_append_11 (by decide) ?_
    refine z_V1 (mi' := mX11_fails) dX11_append_15 lX11_149 nX11_fails kX11_fails (by decide) (Nat.le_of_ble_eq_true rfl) (Nat.le_refl _) (Nat.le_refl _) (hM.1 _ (by decide)) rfl rfl ?_
    refine sX11_fails hM (fun G1 hM hQ => ?_)
    rw [zfb1]
    refine z_if_eq (tgt := 23) dX11_append_18 (by decide) (fun c3 => ?_) (fun c3 => ?_)
    · exact absurd c3 zi10
    · refine z_iconst (v := 0) dX11_append_21 (by decide) ?_
      exact z_ireturn (mi := mX11_append) dX11_append_22 rfl rfl (Nat.le_refl _) (Nat.le_refl _) (hE h1 _ hM hQ)
set_option maxHeartbeats 4000000 in
set_option maxRecDepth 10000 in
theorem sX11_chisel {Γ : zG} {d : Nat} {G : zH} {Post : zV} {am : Nat → Nat} {μ : zSt} (hM : zMod G am μ) {σ : zSt} {S F E K : Nat} {mm : Nat → Nat} {fl : Nat → Nat → Nat} (hL : zRel σ S F E K (μ 1) mm fl) {ct : Nat} (hct : μ 0 5 = nI ct) (hc8 : ct ≤ 8) (hO : zrCh σ = none → ∀ ν, ν = zmkeep μ 1 ct → ∀ G1, zMod G1 am (zu (zu ν 1 (226 + K) 20) 1 225 (nI (K + 1))) → zFrm G G1 am 8 → Post (some (.int (nI K))) G1) (hR : ∀ rn rd, zrCh σ = some (rn, rd) → ∀ G1, zMod G1 am (zmref μ rn rd) → zFrm G G1 am 8 → Post (some (.int 0)) G1) : zM Γ (d + 2) mX11_chisel 0 0 [.ref (am 0)] G Post := by
  refine zM_of pnX11 rfl (Nat.le_of_ble_eq_true rfl) rfl ?_
  have hS6 := hL.S6
  have hF12 := hL.F12
  have hE4 := hL.E4
  have hK3 := hL.K3
  have hQ : zFrm G G am 8 := zFrm.rf
  refine z_aload_n dX11_chisel_0 rfl ?_
  refine z_get dX11_chisel_1 fX11_7.r (hM.1 _ (by decide)) rfl ?_
  refine z_sipush (v := 225) dX11_chisel_4 (by decide) ?_
  refine z_iald dX11_chisel_7 (hM.1 1 (by decide)) (show vp_in (nI 225) 229 from vp_in_nI (by decide) (by decide)) ?_
  rw [show μ 1 (Int32.toNatClampNeg 225) = nI K from hL.sc.2.2.2.2.2.2.2]
  refine z_iconst (v := 3) dX11_chisel_8 (by decide) ?_
  refine z_icmp_ne (tgt := 19) dX11_chisel_9 (by decide) (fun c1 => ?_) (fun c1 => ?_)
  · have h1 : K < 3 := by
      have h2 : K ≠ 3 := fun q => c1 (by rw [q]; rfl)
      omega
    refine z_aload_n dX11_chisel_19 rfl ?_
    refine z_aload_n dX11_chisel_20 rfl ?_
    refine z_get dX11_chisel_21 fX11_7.r (hM.1 _ (by decide)) rfl ?_
    refine z_V1 (mi' := mX11_keeps) dX11_chisel_24 lX11_87 nX11_keeps kX11_keeps (by decide) (Nat.le_of_ble_eq_true rfl) (Nat.le_refl _) (Nat.le_refl _) (hM.1 _ (by decide)) rfl rfl ?_
    refine sX11_keeps hM (r := 1) (by decide) (by decide) (by decide) hct hc8 (fun G1 hM hF => ?_)
    obtain ⟨ν, hν⟩ : ∃ ν, ν = zmkeep μ 1 ct := ⟨_, rfl⟩
    rw [← hν] at hM
    have hQ := hQ.tr hF
    have hr1 : ν 1 = μ 1 := by rw [hν]; exact zmkeep_r (by decide) (by decide)
    replace hL : zRel σ S F E K (ν 1) mm fl := by rw [hr1]; exact hL
    refine z_aload_n dX11_chisel_27 rfl ?_
    refine z_get dX11_chisel_28 fX11_7.r (hM.1 _ (by decide)) rfl ?_
    refine z_sipush (v := 226) dX11_chisel_31 (by decide) ?_
    refine z_aload_n dX11_chisel_34 rfl ?_
    refine z_get dX11_chisel_35 fX11_7.r (hM.1 _ (by decide)) rfl ?_
    refine z_sipush (v := 225) dX11_chisel_38 (by decide) ?_
    refine z_iald dX11_chisel_41 (hM.1 1 (by decide)) (show vp_in (nI 225) 229 from vp_in_nI (by decide) (by decide)) ?_
    rw [show ν 1 (Int32.toNatClampNeg 225) = nI K from hL.sc.2.2.2.2.2.2.2]
    refine z_iadd dX11_chisel_42 ?_
    refine z_bipush (v := 20) dX11_chisel_43 (by decide) ?_
    rw [zixC]
    refine z_iast dX11_chisel_45 (hM.1 1 (by decide)) (vp_in_nI (show 226 + K < 229 by omega) (by decide)) ?_
    rw [nI_clamp (show 226 + K < 2147483648 by omega)]
    refine z_mset hM 1 (226 + K) (20) (by decide) (by simp only [zmE, zu_row]) (fun _ hM hF => ?_)
    have hQ := hQ.tr hF
    refine z_aload_n dX11_chisel_46 rfl ?_
    refine z_get dX11_chisel_47 fX11_7.r (hM.1 _ (by decide)) rfl ?_
    refine z_sipush (v := 225) dX11_chisel_50 (by decide) ?_
    refine z_dup2_11 dX11_chisel_53 rfl rfl ?_
    refine z_iald dX11_chisel_54 (hM.1 1 (by decide)) (show vp_in (nI 225) 229 from vp_in_nI (by decide) (by decide)) ?_
    rw [show zu ν 1 (226 + K) 20 1 (Int32.toNatClampNeg 225) = nI K from (zu_j (show 225 ≠ 226 + K by omega)).trans hL.sc.2.2.2.2.2.2.2]
    refine z_iconst (v := 1) dX11_chisel_55 (by decide) ?_
    refine z_iadd dX11_chisel_56 ?_
    rw [nI_1]
    refine z_iast dX11_chisel_57 (hM.1 1 (by decide)) (show vp_in (nI 225) 229 from vp_in_nI (by decide) (by decide)) ?_
    rw [show Int32.toNatClampNeg 225 = 225 from rfl]
    refine z_mset hM 1 225 (nI (K + 1)) (by decide) (by simp only [zmE, zu_row]) (fun _ hM hF => ?_)
    have hQ := hQ.tr hF
    refine z_aload_n dX11_chisel_58 rfl ?_
    refine z_get dX11_chisel_59 fX11_7.r (hM.1 _ (by decide)) rfl ?_
    refine z_sipush (v := 225) dX11_chisel_62 (by decide) ?_
    refine z_iald dX11_chisel_65 (hM.1 1 (by decide)) (show vp_in (nI 225) 229 from vp_in_nI (by decide) (by decide)) ?_
    rw [show Int32.toNatClampNeg 225 = 225 from rfl, zu_7]
    refine z_iconst (v := 1) dX11_chisel_66 (by decide) ?_
    refine z_isub dX11_chisel_67 ?_
    rw [nI_pred]
    exact z_ireturn (mi := mX11_chisel) dX11_chisel_68 rfl rfl (Nat.le_refl _) (Nat.le_refl _) (hO (by rw [zrCh, if_neg (znle (c := 3) (m := 3) hL.n.2.2.2.2.2.2.1 rfl (by omega) (by decide) h1)]) ν hν _ hM hQ)
  · have h1 : K = 3 := znI_inj (by omega) (by decide) (show nI K = nI 3 from c1)
    refine z_aload_n dX11_chisel_12 rfl ?_
    refine z_iconst (v := 2) dX11_chisel_13 (by decide) ?_
    refine z_iconst (v := 3) dX11_chisel_14 (by decide) ?_
    refine z_V2 (mi' := mX11_refuses) dX11_chisel_15 lX11_84 nX11_refuses kX11_refuses (by decide) (Nat.le_of_ble_eq_true rfl) (Nat.le_refl _) (Nat.le_refl _) (hM.1 _ (by decide)) rfl rfl ?_
    refine sX11_refuses hM (fun G1 hM hF => ?_)
    have hQ := hQ.tr hF
    exact z_ireturn (mi := mX11_chisel) dX11_chisel_18 rfl rfl (Nat.le_refl _) (Nat.le_refl _) (hR 2 3 (by rw [zrCh, if_pos (zyle (c := 3) (m := 3) hL.n.2.2.2.2.2.2.1 rfl (by omega) (by decide) (by omega))]) _ hM hQ)
set_option maxHeartbeats 4000000 in
set_option maxRecDepth 10000 in
theorem sX11_sharpen {Γ : zG} {d : Nat} {G : zH} {Post : zV} {am : Nat → Nat} {μ : zSt} (hM : zMod G am μ) {σ : zSt} {S F E K : Nat} {mm : Nat → Nat} {fl : Nat → Nat → Nat} (hL : zRel σ S F E K (μ 1) mm fl) {ct : Nat} (hct : μ 0 5 = nI ct) (hc8 : ct ≤ 8) {z : Int32} (hO : zrSh σ z = none → ∀ c : Nat, c < K → z = nI c → ∀ ν, ν = zmkeep μ 1 ct → ∀ G1, zMod G1 am (zu ν 1 (226 + c) 20) → zFrm G G1 am 8 → Post (some (.int (σ 9 c))) G1) (hR : ∀ rn rd, zrSh σ z = some (rn, rd) → ∀ G1, zMod G1 am (zmref μ rn rd) → zFrm G G1 am 8 → Post (some (.int 0)) G1) : zM Γ (d + 2) mX11_sharpen 0 0 [.ref (am 0), .int z] G Post := by
  refine zM_of pnX11 rfl (Nat.le_of_ble_eq_true rfl) rfl ?_
  have hS6 := hL.S6
  have hF12 := hL.F12
  have hE4 := hL.E4
  have hK3 := hL.K3
  have hQ : zFrm G G am 8 := zFrm.rf
  refine z_aload_n dX11_sharpen_0 rfl ?_
  refine z_iload_n dX11_sharpen_1 rfl ?_
  refine z_V1 (mi' := mX11_isChisel) dX11_sharpen_2 lX11_108 nX11_isChisel kX11_isChisel (by decide) (Nat.le_of_ble_eq_true rfl) (Nat.le_refl _) (Nat.le_refl _) (hM.1 _ (by decide)) rfl rfl ?_
  refine sX11_isChisel hM hL ?_
  refine z_if_ne (tgt := 15) dX11_sharpen_5 (by decide) (fun c1 => ?_) (fun c1 => ?_)
  · obtain ⟨c, hc, rfl⟩ := zhas (by omega) (zb_n.mp c1)
    have h1 : zrSh σ (nI c) = none := by
      rw [zrSh, if_neg]
      rw [hL.n.2.2.2.2.2.2.1]
      exact not_not_intro (zb_n.mp c1)
    refine z_aload_n dX11_sharpen_15 rfl ?_
    refine z_aload_n dX11_sharpen_16 rfl ?_
    refine z_get dX11_sharpen_17 fX11_7.r (hM.1 _ (by decide)) rfl ?_
    refine z_V1 (mi' := mX11_keeps) dX11_sharpen_20 lX11_87 nX11_keeps kX11_keeps (by decide) (Nat.le_of_ble_eq_true rfl) (Nat.le_refl _) (Nat.le_refl _) (hM.1 _ (by decide)) rfl rfl ?_
    refine sX11_keeps hM (r := 1) (by decide) (by decide) (by decide) hct hc8 (fun G1 hM hF => ?_)
    obtain ⟨ν, hν⟩ : ∃ ν, ν = zmkeep μ 1 ct := ⟨_, rfl⟩
    rw [← hν] at hM
    have hQ := hQ.tr hF
    have hr1 : ν 1 = μ 1 := by rw [hν]; exact zmkeep_r (by decide) (by decide)
    replace hL : zRel σ S F E K (ν 1) mm fl := by rw [hr1]; exact hL
    refine z_aload_n dX11_sharpen_23 rfl ?_
    refine z_get dX11_sharpen_24 fX11_7.r (hM.1 _ (by decide)) rfl ?_
    refine z_sipush (v := 226) dX11_sharpen_27 (by decide) ?_
    refine z_iload_n dX11_sharpen_30 rfl ?_
    refine z_iadd dX11_sharpen_31 ?_
    rw [zixC]
    refine z_iald dX11_sharpen_32 (hM.1 1 (by decide)) (vp_in_nI (show 226 + c < 229 by omega) (by decide)) ?_
    rw [nI_clamp (show 226 + c < 2147483648 by omega), hL.ch hc]
    refine z_istore_n dX11_sharpen_33 (by decide) rfl ?_
    refine z_aload_n dX11_sharpen_34 rfl ?_
    refine z_get dX11_sharpen_35 fX11_7.r (hM.1 _ (by decide)) rfl ?_
    refine z_sipush (v := 226) dX11_sharpen_38 (by decide) ?_
    refine z_iload_n dX11_sharpen_41 rfl ?_
    refine z_iadd dX11_sharpen_42 ?_
    refine z_bipush (v := 20) dX11_sharpen_43 (by decide) ?_
    rw [zixC]
    refine z_iast dX11_sharpen_45 (hM.1 1 (by decide)) (vp_in_nI (show 226 + c < 229 by omega) (by decide)) ?_
    rw [nI_clamp (show 226 + c < 2147483648 by omega)]
    refine z_mset hM 1 (226 + c) (20) (by decide) (by simp only [zmE, zu_row]) (fun _ hM hF => ?_)
    have hQ := hQ.tr hF
    refine z_iload_n dX11_sharpen_46 rfl ?_
    exact z_ireturn (mi := mX11_sharpen) dX11_sharpen_47 rfl rfl (Nat.le_refl _) (Nat.le_refl _) (hO h1 c hc rfl ν hν _ hM hQ)
  · have h1 : ¬ (0 ≤ z ∧ z < nI K) := zb_0.mp c1
    refine z_aload_n dX11_sharpen_8 rfl ?_
    refine z_iconst (v := 3) dX11_sharpen_9 (by decide) ?_
    refine z_iload_n dX11_sharpen_10 rfl ?_
    refine z_V2 (mi' := mX11_refuses) dX11_sharpen_11 lX11_84 nX11_refuses kX11_refuses (by decide) (Nat.le_of_ble_eq_true rfl) (Nat.le_refl _) (Nat.le_refl _) (hM.1 _ (by decide)) rfl rfl ?_
    refine sX11_refuses hM (fun G1 hM hF => ?_)
    have hQ := hQ.tr hF
    exact z_ireturn (mi := mX11_sharpen) dX11_sharpen_14 rfl rfl (Nat.le_refl _) (Nat.le_refl _) (hR 3 z (by rw [zrSh, hL.n.2.2.2.2.2.2.1, if_pos h1]) _ hM hQ)
set_option maxHeartbeats 4000000 in
set_option maxRecDepth 10000 in
theorem sX11_check {Γ : zG} {d : Nat} {G : zH} {Post : zV} {am : Nat → Nat} {μ : zSt} (hM : zMod G am μ) {σ : zSt} {S F E K : Nat} {mm : Nat → Nat} {fl : Nat → Nat → Nat} (hL : zRel σ S F E K (μ 1) mm fl) {ct : Nat} (hct : μ 0 5 = nI ct) (hc8 : ct ≤ 8) {x : Int32} (hO : zrCk σ x = none → ∀ s : Nat, s < S → x = nI s → ∀ ν, ν = zmkeep μ 1 ct → ∀ G1, zMod G1 am (zu ν 1 (5 + 29 * s + 3) 0) → zFrm G G1 am 8 → Post (some (.int (σ 3 s))) G1) (hR : ∀ rn rd, zrCk σ x = some (rn, rd) → ∀ G1, zMod G1 am (zmref μ rn rd) → zFrm G G1 am 8 → Post (some (.int 0)) G1) : zM Γ (d + 2) mX11_check 0 0 [.ref (am 0), .int x] G Post := by
  refine zM_of pnX11 rfl (Nat.le_of_ble_eq_true rfl) rfl ?_
  have hS6 := hL.S6
  have hF12 := hL.F12
  have hE4 := hL.E4
  have hK3 := hL.K3
  have hQ : zFrm G G am 8 := zFrm.rf
  refine z_aload_n dX11_check_0 rfl ?_
  refine z_iload_n dX11_check_1 rfl ?_
  refine z_V1 (mi' := mX11_isStone) dX11_check_2 lX11_101 nX11_isStone kX11_isStone (by decide) (Nat.le_of_ble_eq_true rfl) (Nat.le_refl _) (Nat.le_refl _) (hM.1 _ (by decide)) rfl rfl ?_
  refine sX11_isStone hM hL ?_
  refine z_if_ne (tgt := 15) dX11_check_5 (by decide) (fun c1 => ?_) (fun c1 => ?_)
  · obtain ⟨s, hs, rfl⟩ := zhas (by omega) (zb_n.mp c1)
    have h1 : zrCk σ (nI s) = none := by
      rw [zrCk, if_neg]
      rw [hL.n.1]
      exact not_not_intro (zb_n.mp c1)
    refine z_aload_n dX11_check_15 rfl ?_
    refine z_aload_n dX11_check_16 rfl ?_
    refine z_get dX11_check_17 fX11_7.r (hM.1 _ (by decide)) rfl ?_
    refine z_V1 (mi' := mX11_keeps) dX11_check_20 lX11_87 nX11_keeps kX11_keeps (by decide) (Nat.le_of_ble_eq_true rfl) (Nat.le_refl _) (Nat.le_refl _) (hM.1 _ (by decide)) rfl rfl ?_
    refine sX11_keeps hM (r := 1) (by decide) (by decide) (by decide) hct hc8 (fun G1 hM hF => ?_)
    obtain ⟨ν, hν⟩ : ∃ ν, ν = zmkeep μ 1 ct := ⟨_, rfl⟩
    rw [← hν] at hM
    have hQ := hQ.tr hF
    have hr1 : ν 1 = μ 1 := by rw [hν]; exact zmkeep_r (by decide) (by decide)
    replace hL : zRel σ S F E K (ν 1) mm fl := by rw [hr1]; exact hL
    refine z_aload_n dX11_check_23 rfl ?_
    refine z_iload_n dX11_check_24 rfl ?_
    refine z_iconst (v := 3) dX11_check_25 (by decide) ?_
    refine z_V2 (mi' := mX11_of) dX11_check_26 lX11_70 nX11_of kX11_of (by decide) (Nat.le_of_ble_eq_true rfl) (Nat.le_refl _) (Nat.le_refl _) (hM.1 _ (by decide)) rfl rfl ?_
    refine sX11_of hM (s := s) (w := 3) (by omega) ?_
    rw [show ν 1 (5 + 29 * s + 3) = _ from (hL.st hs).2.2.2.1]
    refine z_istore_n dX11_check_29 (by decide) rfl ?_
    refine z_aload_n dX11_check_30 rfl ?_
    refine z_iload_n dX11_check_31 rfl ?_
    refine z_iconst (v := 3) dX11_check_32 (by decide) ?_
    refine z_iconst (v := 0) dX11_check_33 (by decide) ?_
    refine z_V3 (mi' := mX11_lays) dX11_check_34 lX11_91 nX11_lays kX11_lays (by decide) (Nat.le_of_ble_eq_true rfl) (Nat.le_refl _) (Nat.le_refl _) (hM.1 _ (by decide)) rfl rfl ?_
    refine sX11_lays hM (s := s) (w := 3) (by omega) (fun _ hM hF => ?_)
    have hQ := hQ.tr hF
    refine z_iload_n dX11_check_37 rfl ?_
    exact z_ireturn (mi := mX11_check) dX11_check_38 rfl rfl (Nat.le_refl _) (Nat.le_refl _) (hO h1 s hs rfl ν hν _ hM hQ)
  · have h1 : ¬ (0 ≤ x ∧ x < nI S) := zb_0.mp c1
    refine z_aload_n dX11_check_8 rfl ?_
    refine z_iconst (v := 3) dX11_check_9 (by decide) ?_
    refine z_iload_n dX11_check_10 rfl ?_
    refine z_V2 (mi' := mX11_refuses) dX11_check_11 lX11_84 nX11_refuses kX11_refuses (by decide) (Nat.le_of_ble_eq_true rfl) (Nat.le_refl _) (Nat.le_refl _) (hM.1 _ (by decide)) rfl rfl ?_
    refine sX11_refuses hM (fun G1 hM hF => ?_)
    have hQ := hQ.tr hF
    exact z_ireturn (mi := mX11_check) dX11_check_14 rfl rfl (Nat.le_refl _) (Nat.le_refl _) (hR 3 x (by rw [zrCk, hL.n.1, if_pos h1]) _ hM hQ)
set_option maxHeartbeats 4000000 in
set_option maxRecDepth 10000 in
theorem sX11_witness {Γ : zG} {d : Nat} {G : zH} {Post : zV} {am : Nat → Nat} {μ : zSt} (hM : zMod G am μ) {σ : zSt} {S F E K : Nat} {mm : Nat → Nat} {fl : Nat → Nat → Nat} (hL : zRel σ S F E K (μ 1) mm fl) {ct : Nat} (hct : μ 0 5 = nI ct) (hc8 : ct ≤ 8) {y w : Int32} (hO : zrWi σ y w = none → ∀ f : Nat, f < F → y = nI f → ∀ ν, ν = zmkeep μ 1 ct → ∀ G1, zMod G1 am (zu ν 1 (180 + 3 * f + 2) (σ 6 f + w)) → zFrm G G1 am 8 → Post (some (.int (σ 6 f + w))) G1) (hR : ∀ rn rd, zrWi σ y w = some (rn, rd) → ∀ G1, zMod G1 am (zmref μ rn rd) → zFrm G G1 am 8 → Post (some (.int 0)) G1) : zM Γ (d + 2) mX11_witness 0 0 [.ref (am 0), .int y, .int w] G Post := by
  refine zM_of pnX11 rfl (Nat.le_of_ble_eq_true rfl) rfl ?_
  have hS6 := hL.S6
  have hF12 := hL.F12
  have hE4 := hL.E4
  have hK3 := hL.K3
  have hQ : zFrm G G am 8 := zFrm.rf
  refine z_aload_n dX11_witness_0 rfl ?_
  refine z_iload_n dX11_witness_1 rfl ?_
  refine z_V1 (mi' := mX11_isFlood) dX11_witness_2 lX11_105 nX11_isFlood kX11_isFlood (by decide) (Nat.le_of_ble_eq_true rfl) (Nat.le_refl _) (Nat.le_refl _) (hM.1 _ (by decide)) rfl rfl ?_
  refine sX11_isFlood hM hL ?_
  refine z_if_ne (tgt := 15) dX11_witness_5 (by decide) (fun c1 => ?_) (fun c1 => ?_)
  · obtain ⟨f, hf, rfl⟩ := zhas (by omega) (zb_n.mp c1)
    have h1 : ¬ ¬ (0 ≤ nI f ∧ nI f < σ 13 2) := by
      rw [hL.n.2.2.1]
      exact not_not_intro (zb_n.mp c1)
    have h4 : (nI f).toNatClampNeg = f := nI_clamp (by omega)
    refine z_iload_n dX11_witness_15 rfl ?_
    refine z_iconst (v := 1) dX11_witness_16 (by decide) ?_
    refine z_bipush (v := 9) dX11_witness_17 (by decide) ?_
    refine z_S3 (mi' := mX11_in) dX11_witness_19 lX11_62 nX11_in kX11_in (by decide) (Nat.le_of_ble_eq_true rfl) (Nat.le_refl _) (Nat.le_refl _) ?_
    refine sX11_in ?_
    refine z_if_ne (tgt := 32) dX11_witness_22 (by decide) (fun c2 => ?_) (fun c2 => ?_)
    · refine z_aload_n dX11_witness_32 rfl ?_
      refine z_iload_n dX11_witness_33 rfl ?_
      refine z_iconst (v := 2) dX11_witness_34 (by decide) ?_
      refine z_V2 (mi' := mX11_ofFlood) dX11_witness_35 lX11_66 nX11_ofFlood kX11_ofFlood (by decide) (Nat.le_of_ble_eq_true rfl) (Nat.le_refl _) (Nat.le_refl _) (hM.1 _ (by decide)) rfl rfl ?_
      refine sX11_ofFlood hM (f := f) (w := 2) (by omega) ?_
      rw [show μ 1 (180 + 3 * f + 2) = _ from (hL.fd hf).2.2]
      refine z_iload_n dX11_witness_38 rfl ?_
      refine z_iadd dX11_witness_39 ?_
      refine z_bipush (v := 99) dX11_witness_40 (by decide) ?_
      refine z_icmp_le (tgt := 53) dX11_witness_42 (by decide) (fun c3 => ?_) (fun c3 => ?_)
      · refine z_aload_n dX11_witness_53 rfl ?_
        refine z_aload_n dX11_witness_54 rfl ?_
        refine z_get dX11_witness_55 fX11_7.r (hM.1 _ (by decide)) rfl ?_
        refine z_V1 (mi' := mX11_keeps) dX11_witness_58 lX11_87 nX11_keeps kX11_keeps (by decide) (Nat.le_of_ble_eq_true rfl) (Nat.le_refl _) (Nat.le_refl _) (hM.1 _ (by decide)) rfl rfl ?_
        refine sX11_keeps hM (r := 1) (by decide) (by decide) (by decide) hct hc8 (fun G1 hM hF => ?_)
        obtain ⟨ν, hν⟩ : ∃ ν, ν = zmkeep μ 1 ct := ⟨_, rfl⟩
        rw [← hν] at hM
        have hQ := hQ.tr hF
        have hr1 : ν 1 = μ 1 := by rw [hν]; exact zmkeep_r (by decide) (by decide)
        replace hL : zRel σ S F E K (ν 1) mm fl := by rw [hr1]; exact hL
        refine z_aload_n dX11_witness_61 rfl ?_
        refine z_get dX11_witness_62 fX11_7.r (hM.1 _ (by decide)) rfl ?_
        refine z_sipush (v := 180) dX11_witness_65 (by decide) ?_
        refine z_iconst (v := 3) dX11_witness_68 (by decide) ?_
        refine z_iload_n dX11_witness_69 rfl ?_
        refine z_imul dX11_witness_70 ?_
        refine z_iadd dX11_witness_71 ?_
        refine z_iconst (v := 2) dX11_witness_72 (by decide) ?_
        refine z_iadd dX11_witness_73 ?_
        refine z_dup2_11 dX11_witness_74 rfl rfl ?_
        rw [show (2 : Int32) = nI 2 from rfl, zixF]
        refine z_iald dX11_witness_75 (hM.1 1 (by decide)) (vp_in_nI (show 180 + 3 * f + 2 < 229 by omega) (by decide)) ?_
        rw [nI_clamp (show 180 + 3 * f + 2 < 2147483648 by omega), (hL.fd hf).2.2]
        refine z_iload_n dX11_witness_76 rfl ?_
        refine z_iadd dX11_witness_77 ?_
        refine z_iast dX11_witness_78 (hM.1 1 (by decide)) (vp_in_nI (show 180 + 3 * f + 2 < 229 by omega) (by decide)) ?_
        rw [nI_clamp (show 180 + 3 * f + 2 < 2147483648 by omega)]
        refine z_mset hM 1 (180 + 3 * f + 2) (σ 6 f + w) (by decide) (by simp only [zmE, zu_row]) (fun _ hM hF => ?_)
        have hQ := hQ.tr hF
        refine z_aload_n dX11_witness_79 rfl ?_
        refine z_iload_n dX11_witness_80 rfl ?_
        refine z_iconst (v := 2) dX11_witness_81 (by decide) ?_
        refine z_V2 (mi' := mX11_ofFlood) dX11_witness_82 lX11_66 nX11_ofFlood kX11_ofFlood (by decide) (Nat.le_of_ble_eq_true rfl) (Nat.le_refl _) (Nat.le_refl _) (hM.1 _ (by decide)) rfl rfl ?_
        refine sX11_ofFlood hM (f := f) (w := 2) (by omega) ?_
        rw [zu_7]
        exact z_ireturn (mi := mX11_witness) dX11_witness_85 rfl rfl (Nat.le_refl _) (Nat.le_refl _) (hO (by rw [zrWi, if_neg h1, if_neg (zinr (zb_n.mp c2)), h4, if_neg (Int32.not_lt.mpr c3)]) f hf rfl ν hν _ hM hQ)
      · refine z_aload_n dX11_witness_45 rfl ?_
        refine z_iconst (v := 2) dX11_witness_46 (by decide) ?_
        refine z_bipush (v := 99) dX11_witness_47 (by decide) ?_
        refine z_V2 (mi' := mX11_refuses) dX11_witness_49 lX11_84 nX11_refuses kX11_refuses (by decide) (Nat.le_of_ble_eq_true rfl) (Nat.le_refl _) (Nat.le_refl _) (hM.1 _ (by decide)) rfl rfl ?_
        refine sX11_refuses hM (fun G1 hM hF => ?_)
        have hQ := hQ.tr hF
        exact z_ireturn (mi := mX11_witness) dX11_witness_52 rfl rfl (Nat.le_refl _) (Nat.le_refl _) (hR 2 99 (by rw [zrWi, if_neg h1, if_neg (zinr (zb_n.mp c2)), h4, if_pos (Int32.not_le.mp c3)]) _ hM hQ)
    · refine z_aload_n dX11_witness_25 rfl ?_
      refine z_iconst (v := 1) dX11_witness_26 (by decide) ?_
      refine z_iconst (v := 0) dX11_witness_27 (by decide) ?_
      refine z_V2 (mi' := mX11_refuses) dX11_witness_28 lX11_84 nX11_refuses kX11_refuses (by decide) (Nat.le_of_ble_eq_true rfl) (Nat.le_refl _) (Nat.le_refl _) (hM.1 _ (by decide)) rfl rfl ?_
      refine sX11_refuses hM (fun G1 hM hF => ?_)
      have hQ := hQ.tr hF
      exact z_ireturn (mi := mX11_witness) dX11_witness_31 rfl rfl (Nat.le_refl _) (Nat.le_refl _) (hR 1 0 (by rw [zrWi, if_neg h1, if_pos (zoutr (zb_0.mp c2))]) _ hM hQ)
  · have h1 : ¬ (0 ≤ y ∧ y < nI F) := zb_0.mp c1
    refine z_aload_n dX11_witness_8 rfl ?_
    refine z_iconst (v := 3) dX11_witness_9 (by decide) ?_
    refine z_iload_n dX11_witness_10 rfl ?_
    refine z_V2 (mi' := mX11_refuses) dX11_witness_11 lX11_84 nX11_refuses kX11_refuses (by decide) (Nat.le_of_ble_eq_true rfl) (Nat.le_refl _) (Nat.le_refl _) (hM.1 _ (by decide)) rfl rfl ?_
    refine sX11_refuses hM (fun G1 hM hF => ?_)
    have hQ := hQ.tr hF
    exact z_ireturn (mi := mX11_witness) dX11_witness_14 rfl rfl (Nat.le_refl _) (Nat.le_refl _) (hR 3 y (by rw [zrWi, hL.n.2.2.1, if_pos h1]) _ hM hQ)
set_option maxHeartbeats 4000000 in
set_option maxRecDepth 10000 in
theorem sX11_stone {Γ : zG} {d : Nat} {G : zH} {Post : zV} {am : Nat → Nat} {μ : zSt} (hM : zMod G am μ) {σ : zSt} {S F E K : Nat} {mm : Nat → Nat} {fl : Nat → Nat → Nat} (hL : zRel σ S F E K (μ 1) mm fl) {ct : Nat} (hct : μ 0 5 = nI ct) (hc8 : ct ≤ 8) {p b h : Int32} (hO : zrSt σ p b h = none → ∀ ν, ν = zmkeep μ 1 ct → ∀ G1, zMod G1 am (zu (zu (zu (zu (zu (zu ν 1 4 (nI (S + 1))) 1 (5 + 29 * S + 0) p) 1 (5 + 29 * S + 1) b) 1 (5 + 29 * S + 2) h) 1 (5 + 29 * S + 3) 0) 1 (5 + 29 * S + 4) 0) → zFrm G G1 am 8 → Post (some (.int (nI S))) G1) (hR : ∀ rn rd, zrSt σ p b h = some (rn, rd) → ∀ G1, zMod G1 am (zmref μ rn rd) → zFrm G G1 am 8 → Post (some (.int 0)) G1) : zM Γ (d + 2) mX11_stone 0 0 [.ref (am 0), .int p, .int b, .int h] G Post := by
  refine zM_of pnX11 rfl (Nat.le_of_ble_eq_true rfl) rfl ?_
  have hS6 := hL.S6
  have hF12 := hL.F12
  have hE4 := hL.E4
  have hK3 := hL.K3
  have hQ : zFrm G G am 8 := zFrm.rf
  refine z_iload_n dX11_stone_0 rfl ?_
  refine z_iconst (v := 0) dX11_stone_1 (by decide) ?_
  refine z_bipush (v := 50) dX11_stone_2 (by decide) ?_
  refine z_S3 (mi' := mX11_in) dX11_stone_4 lX11_62 nX11_in kX11_in (by decide) (Nat.le_of_ble_eq_true rfl) (Nat.le_refl _) (Nat.le_refl _) ?_
  refine sX11_in ?_
  refine z_if_eq (tgt := 29) dX11_stone_7 (by decide) (fun c1 => ?_) (fun c1 => ?_)
  · refine z_aload_n dX11_stone_29 rfl ?_
    refine z_iconst (v := 1) dX11_stone_30 (by decide) ?_
    refine z_iconst (v := 0) dX11_stone_31 (by decide) ?_
    refine z_V2 (mi' := mX11_refuses) dX11_stone_32 lX11_84 nX11_refuses kX11_refuses (by decide) (Nat.le_of_ble_eq_true rfl) (Nat.le_refl _) (Nat.le_refl _) (hM.1 _ (by decide)) rfl rfl ?_
    refine sX11_refuses hM (fun G1 hM hF => ?_)
    have hQ := hQ.tr hF
    exact z_ireturn (mi := mX11_stone) dX11_stone_35 rfl rfl (Nat.le_refl _) (Nat.le_refl _) (hR 1 0 (by rw [zrSt, if_pos (Or.inl (zoutr (zb_0.mp c1)))]) _ hM hQ)
  · refine z_iload_n dX11_stone_10 rfl ?_
    refine z_iconst (v := 0) dX11_stone_11 (by decide) ?_
    refine z_bipush (v := 30) dX11_stone_12 (by decide) ?_
    refine z_S3 (mi' := mX11_in) dX11_stone_14 lX11_62 nX11_in kX11_in (by decide) (Nat.le_of_ble_eq_true rfl) (Nat.le_refl _) (Nat.le_refl _) ?_
    refine sX11_in ?_
    refine z_if_eq (tgt := 29) dX11_stone_17 (by decide) (fun c2 => ?_) (fun c2 => ?_)
    · refine z_aload_n dX11_stone_29 rfl ?_
      refine z_iconst (v := 1) dX11_stone_30 (by decide) ?_
      refine z_iconst (v := 0) dX11_stone_31 (by decide) ?_
      refine z_V2 (mi' := mX11_refuses) dX11_stone_32 lX11_84 nX11_refuses kX11_refuses (by decide) (Nat.le_of_ble_eq_true rfl) (Nat.le_refl _) (Nat.le_refl _) (hM.1 _ (by decide)) rfl rfl ?_
      refine sX11_refuses hM (fun G1 hM hF => ?_)
      have hQ := hQ.tr hF
      exact z_ireturn (mi := mX11_stone) dX11_stone_35 rfl rfl (Nat.le_refl _) (Nat.le_refl _) (hR 1 0 (by rw [zrSt, if_pos (Or.inr (Or.inl (zoutr (zb_0.mp c2))))]) _ hM hQ)
    · refine z_iload_n dX11_stone_20 rfl ?_
      refine z_iconst (v := 1) dX11_stone_21 (by decide) ?_
      refine z_iconst (v := 5) dX11_stone_22 (by decide) ?_
      refine z_S3 (mi' := mX11_in) dX11_stone_23 lX11_62 nX11_in kX11_in (by decide) (Nat.le_of_ble_eq_true rfl) (Nat.le_refl _) (Nat.le_refl _) ?_
      refine sX11_in ?_
      refine z_if_ne (tgt := 36) dX11_stone_26 (by decide) (fun c3 => ?_) (fun c3 => ?_)
      · have h3 : ¬ ((p < 0 ∨ 50 < p) ∨ (b < 0 ∨ 30 < b) ∨ (h < 1 ∨ 5 < h)) := fun q => q.elim (zinr (zb_n.mp c1)) (fun q => q.elim (zinr (zb_n.mp c2)) (zinr (zb_n.mp c3)))
        refine z_aload_n dX11_stone_36 rfl ?_
        refine z_get dX11_stone_37 fX11_7.r (hM.1 _ (by decide)) rfl ?_
        refine z_iconst (v := 4) dX11_stone_40 (by decide) ?_
        refine z_iald dX11_stone_41 (hM.1 1 (by decide)) (show vp_in (nI 4) 229 from vp_in_nI (by decide) (by decide)) ?_
        rw [show μ 1 (Int32.toNatClampNeg 4) = nI S from hL.sc.2.2.2.2.1]
        refine z_bipush (v := 6) dX11_stone_42 (by decide) ?_
        refine z_icmp_ne (tgt := 55) dX11_stone_44 (by decide) (fun c4 => ?_) (fun c4 => ?_)
        · have h1 : S < 6 := by
            have h2 : S ≠ 6 := fun q => c4 (by rw [q]; rfl)
            omega
          refine z_aload_n dX11_stone_55 rfl ?_
          refine z_aload_n dX11_stone_56 rfl ?_
          refine z_get dX11_stone_57 fX11_7.r (hM.1 _ (by decide)) rfl ?_
          refine z_V1 (mi' := mX11_keeps) dX11_stone_60 lX11_87 nX11_keeps kX11_keeps (by decide) (Nat.le_of_ble_eq_true rfl) (Nat.le_refl _) (Nat.le_refl _) (hM.1 _ (by decide)) rfl rfl ?_
          refine sX11_keeps hM (r := 1) (by decide) (by decide) (by decide) hct hc8 (fun G1 hM hF => ?_)
          obtain ⟨ν, hν⟩ : ∃ ν, ν = zmkeep μ 1 ct := ⟨_, rfl⟩
          rw [← hν] at hM
          have hQ := hQ.tr hF
          have hr1 : ν 1 = μ 1 := by rw [hν]; exact zmkeep_r (by decide) (by decide)
          replace hL : zRel σ S F E K (ν 1) mm fl := by rw [hr1]; exact hL
          refine z_aload_n dX11_stone_63 rfl ?_
          refine z_get dX11_stone_64 fX11_7.r (hM.1 _ (by decide)) rfl ?_
          refine z_iconst (v := 4) dX11_stone_67 (by decide) ?_
          refine z_iald dX11_stone_68 (hM.1 1 (by decide)) (show vp_in (nI 4) 229 from vp_in_nI (by decide) (by decide)) ?_
          rw [show ν 1 (Int32.toNatClampNeg 4) = nI S from hL.sc.2.2.2.2.1]
          refine z_istore dX11_stone_69 (by decide) rfl ?_
          refine z_aload_n dX11_stone_71 rfl ?_
          refine z_get dX11_stone_72 fX11_7.r (hM.1 _ (by decide)) rfl ?_
          refine z_iconst (v := 4) dX11_stone_75 (by decide) ?_
          refine z_dup2_11 dX11_stone_76 rfl rfl ?_
          refine z_iald dX11_stone_77 (hM.1 1 (by decide)) (show vp_in (nI 4) 229 from vp_in_nI (by decide) (by decide)) ?_
          rw [show ν 1 (Int32.toNatClampNeg 4) = nI S from hL.sc.2.2.2.2.1]
          refine z_iconst (v := 1) dX11_stone_78 (by decide) ?_
          refine z_iadd dX11_stone_79 ?_
          rw [nI_1]
          refine z_iast dX11_stone_80 (hM.1 1 (by decide)) (show vp_in (nI 4) 229 from vp_in_nI (by decide) (by decide)) ?_
          rw [show Int32.toNatClampNeg 4 = 4 from rfl]
          refine z_mset hM 1 4 (nI (S + 1)) (by decide) (by simp only [zmE, zu_row]) (fun _ hM hF => ?_)
          have hQ := hQ.tr hF
          refine z_aload_n dX11_stone_81 rfl ?_
          refine z_iload dX11_stone_82 rfl ?_
          refine z_iconst (v := 0) dX11_stone_84 (by decide) ?_
          refine z_iload_n dX11_stone_85 rfl ?_
          refine z_V3 (mi' := mX11_lays) dX11_stone_86 lX11_91 nX11_lays kX11_lays (by decide) (Nat.le_of_ble_eq_true rfl) (Nat.le_refl _) (Nat.le_refl _) (hM.1 _ (by decide)) rfl rfl ?_
          refine sX11_lays hM (s := S) (w := 0) (by omega) (fun _ hM hF => ?_)
          have hQ := hQ.tr hF
          refine z_aload_n dX11_stone_89 rfl ?_
          refine z_iload dX11_stone_90 rfl ?_
          refine z_iconst (v := 1) dX11_stone_92 (by decide) ?_
          refine z_iload_n dX11_stone_93 rfl ?_
          refine z_V3 (mi' := mX11_lays) dX11_stone_94 lX11_91 nX11_lays kX11_lays (by decide) (Nat.le_of_ble_eq_true rfl) (Nat.le_refl _) (Nat.le_refl _) (hM.1 _ (by decide)) rfl rfl ?_
          refine sX11_lays hM (s := S) (w := 1) (by omega) (fun _ hM hF => ?_)
          have hQ := hQ.tr hF
          refine z_aload_n dX11_stone_97 rfl ?_
          refine z_iload dX11_stone_98 rfl ?_
          refine z_iconst (v := 2) dX11_stone_100 (by decide) ?_
          refine z_iload_n dX11_stone_101 rfl ?_
          refine z_V3 (mi' := mX11_lays) dX11_stone_102 lX11_91 nX11_lays kX11_lays (by decide) (Nat.le_of_ble_eq_true rfl) (Nat.le_refl _) (Nat.le_refl _) (hM.1 _ (by decide)) rfl rfl ?_
          refine sX11_lays hM (s := S) (w := 2) (by omega) (fun _ hM hF => ?_)
          have hQ := hQ.tr hF
          refine z_aload_n dX11_stone_105 rfl ?_
          refine z_iload dX11_stone_106 rfl ?_
          refine z_iconst (v := 3) dX11_stone_108 (by decide) ?_
          refine z_iconst (v := 0) dX11_stone_109 (by decide) ?_
          refine z_V3 (mi' := mX11_lays) dX11_stone_110 lX11_91 nX11_lays kX11_lays (by decide) (Nat.le_of_ble_eq_true rfl) (Nat.le_refl _) (Nat.le_refl _) (hM.1 _ (by decide)) rfl rfl ?_
          refine sX11_lays hM (s := S) (w := 3) (by omega) (fun _ hM hF => ?_)
          have hQ := hQ.tr hF
          refine z_aload_n dX11_stone_113 rfl ?_
          refine z_iload dX11_stone_114 rfl ?_
          refine z_iconst (v := 4) dX11_stone_116 (by decide) ?_
          refine z_iconst (v := 0) dX11_stone_117 (by decide) ?_
          refine z_V3 (mi' := mX11_lays) dX11_stone_118 lX11_91 nX11_lays kX11_lays (by decide) (Nat.le_of_ble_eq_true rfl) (Nat.le_refl _) (Nat.le_refl _) (hM.1 _ (by decide)) rfl rfl ?_
          refine sX11_lays hM (s := S) (w := 4) (by omega) (fun _ hM hF => ?_)
          have hQ := hQ.tr hF
          refine z_iload dX11_stone_121 rfl ?_
          exact z_ireturn (mi := mX11_stone) dX11_stone_123 rfl rfl (Nat.le_refl _) (Nat.le_refl _) (hO (by rw [zrSt, if_neg h3, if_neg (znle (c := 6) (m := 6) hL.n.1 rfl (by omega) (by decide) h1)]) ν hν _ hM hQ)
        · have h1 : S = 6 := znI_inj (by omega) (by decide) (show nI S = nI 6 from c4)
          refine z_aload_n dX11_stone_47 rfl ?_
          refine z_iconst (v := 2) dX11_stone_48 (by decide) ?_
          refine z_bipush (v := 6) dX11_stone_49 (by decide) ?_
          refine z_V2 (mi' := mX11_refuses) dX11_stone_51 lX11_84 nX11_refuses kX11_refuses (by decide) (Nat.le_of_ble_eq_true rfl) (Nat.le_refl _) (Nat.le_refl _) (hM.1 _ (by decide)) rfl rfl ?_
          refine sX11_refuses hM (fun G1 hM hF => ?_)
          have hQ := hQ.tr hF
          exact z_ireturn (mi := mX11_stone) dX11_stone_54 rfl rfl (Nat.le_refl _) (Nat.le_refl _) (hR 2 6 (by rw [zrSt, if_neg h3, if_pos (zyle (c := 6) (m := 6) hL.n.1 rfl (by omega) (by decide) (by omega))]) _ hM hQ)
      · refine z_aload_n dX11_stone_29 rfl ?_
        refine z_iconst (v := 1) dX11_stone_30 (by decide) ?_
        refine z_iconst (v := 0) dX11_stone_31 (by decide) ?_
        refine z_V2 (mi' := mX11_refuses) dX11_stone_32 lX11_84 nX11_refuses kX11_refuses (by decide) (Nat.le_of_ble_eq_true rfl) (Nat.le_refl _) (Nat.le_refl _) (hM.1 _ (by decide)) rfl rfl ?_
        refine sX11_refuses hM (fun G1 hM hF => ?_)
        have hQ := hQ.tr hF
        exact z_ireturn (mi := mX11_stone) dX11_stone_35 rfl rfl (Nat.le_refl _) (Nat.le_refl _) (hR 1 0 (by rw [zrSt, if_pos (Or.inr (Or.inr (zoutr (zb_0.mp c3))))]) _ hM hQ)
set_option maxHeartbeats 4000000 in
set_option maxRecDepth 10000 in
theorem sX11_flood {Γ : zG} {d : Nat} {G : zH} {Post : zV} {am : Nat → Nat} {μ : zSt} (hM : zMod G am μ) {σ : zSt} {S F E K : Nat} {mm : Nat → Nat} {fl : Nat → Nat → Nat} (hL : zRel σ S F E K (μ 1) mm fl) {ct : Nat} (hct : μ 0 5 = nI ct) (hc8 : ct ≤ 8) {y c w : Int32} (hO : zrFl σ F y c w = none → ∀ ν, ν = zmkeep μ 1 ct → ∀ G1, zMod G1 am (zu (zu (zu (zu ν 1 (180 + 3 * F) y) 1 (180 + 3 * F + 1) c) 1 (180 + 3 * F + 2) w) 1 179 (nI (F + 1))) → zFrm G G1 am 8 → Post (some (.int (nI F))) G1) (hR : ∀ rn rd, zrFl σ F y c w = some (rn, rd) → ∀ G1, zMod G1 am (zmref μ rn rd) → zFrm G G1 am 8 → Post (some (.int 0)) G1) : zM Γ (d + 2) mX11_flood 0 0 [.ref (am 0), .int y, .int c, .int w] G Post := by
  refine zM_of pnX11 rfl (Nat.le_of_ble_eq_true rfl) rfl ?_
  have hS6 := hL.S6
  have hF12 := hL.F12
  have hE4 := hL.E4
  have hK3 := hL.K3
  have hQ : zFrm G G am 8 := zFrm.rf
  refine z_iload_n dX11_flood_0 rfl ?_
  refine z_iconst (v := 0) dX11_flood_1 (by decide) ?_
  refine z_aload_n dX11_flood_2 rfl ?_
  refine z_get dX11_flood_3 fX11_7.r (hM.1 _ (by decide)) rfl ?_
  refine z_iconst (v := 0) dX11_flood_6 (by decide) ?_
  refine z_iald dX11_flood_7 (hM.1 1 (by decide)) (show vp_in (nI 0) 229 from vp_in_nI (by decide) (by decide)) ?_
  rw [show μ 1 (Int32.toNatClampNeg 0) = σ 13 0 from hL.sc.1]
  refine z_S3 (mi' := mX11_in) dX11_flood_8 lX11_62 nX11_in kX11_in (by decide) (Nat.le_of_ble_eq_true rfl) (Nat.le_refl _) (Nat.le_refl _) ?_
  refine sX11_in ?_
  refine z_if_eq (tgt := 34) dX11_flood_11 (by decide) (fun c1 => ?_) (fun c1 => ?_)
  · refine z_aload_n dX11_flood_34 rfl ?_
    refine z_iconst (v := 1) dX11_flood_35 (by decide) ?_
    refine z_iconst (v := 0) dX11_flood_36 (by decide) ?_
    refine z_V2 (mi' := mX11_refuses) dX11_flood_37 lX11_84 nX11_refuses kX11_refuses (by decide) (Nat.le_of_ble_eq_true rfl) (Nat.le_refl _) (Nat.le_refl _) (hM.1 _ (by decide)) rfl rfl ?_
    refine sX11_refuses hM (fun G1 hM hF => ?_)
    have hQ := hQ.tr hF
    exact z_ireturn (mi := mX11_flood) dX11_flood_40 rfl rfl (Nat.le_refl _) (Nat.le_refl _) (hR 1 0 (by rw [zrFl, if_pos (Or.inl (zoutr (zb_0.mp c1)))]) _ hM hQ)
  · refine z_iload_n dX11_flood_14 rfl ?_
    refine z_iconst (v := 1) dX11_flood_15 (by decide) ?_
    refine z_bipush (v := 99) dX11_flood_16 (by decide) ?_
    refine z_S3 (mi' := mX11_in) dX11_flood_18 lX11_62 nX11_in kX11_in (by decide) (Nat.le_of_ble_eq_true rfl) (Nat.le_refl _) (Nat.le_refl _) ?_
    refine sX11_in ?_
    refine z_if_eq (tgt := 34) dX11_flood_21 (by decide) (fun c2 => ?_) (fun c2 => ?_)
    · refine z_aload_n dX11_flood_34 rfl ?_
      refine z_iconst (v := 1) dX11_flood_35 (by decide) ?_
      refine z_iconst (v := 0) dX11_flood_36 (by decide) ?_
      refine z_V2 (mi' := mX11_refuses) dX11_flood_37 lX11_84 nX11_refuses kX11_refuses (by decide) (Nat.le_of_ble_eq_true rfl) (Nat.le_refl _) (Nat.le_refl _) (hM.1 _ (by decide)) rfl rfl ?_
      refine sX11_refuses hM (fun G1 hM hF => ?_)
      have hQ := hQ.tr hF
      exact z_ireturn (mi := mX11_flood) dX11_flood_40 rfl rfl (Nat.le_refl _) (Nat.le_refl _) (hR 1 0 (by rw [zrFl, if_pos (Or.inr (Or.inl (zoutr (zb_0.mp c2))))]) _ hM hQ)
    · refine z_iload_n dX11_flood_24 rfl ?_
      refine z_iconst (v := 0) dX11_flood_25 (by decide) ?_
      refine z_bipush (v := 99) dX11_flood_26 (by decide) ?_
      refine z_S3 (mi' := mX11_in) dX11_flood_28 lX11_62 nX11_in kX11_in (by decide) (Nat.le_of_ble_eq_true rfl) (Nat.le_refl _) (Nat.le_refl _) ?_
      refine sX11_in ?_
      refine z_if_ne (tgt := 41) dX11_flood_31 (by decide) (fun c3 => ?_) (fun c3 => ?_)
      · have h3 : ¬ ((y < 0 ∨ σ 13 0 < y) ∨ (c < 1 ∨ 99 < c) ∨ (w < 0 ∨ 99 < w)) := fun q => q.elim (zinr (zb_n.mp c1)) (fun q => q.elim (zinr (zb_n.mp c2)) (zinr (zb_n.mp c3)))
        refine z_aload_n dX11_flood_41 rfl ?_
        refine z_iload_n dX11_flood_42 rfl ?_
        refine z_V1 (mi' := mX11_ofYear) dX11_flood_43 lX11_95 nX11_ofYear kX11_ofYear (by decide) (Nat.le_of_ble_eq_true rfl) (Nat.le_refl _) (Nat.le_refl _) (hM.1 _ (by decide)) rfl rfl ?_
        refine sX11_ofYear hM hL ?_
        refine z_if_lt (tgt := 60) dX11_flood_46 (by decide) (fun c4 => ?_) (fun c4 => ?_)
        · have h5 : ¬ 0 ≤ zfi (fun k => decide (σ 4 k = y)) F := Int32.not_le.mpr c4
          refine z_aload_n dX11_flood_60 rfl ?_
          refine z_get dX11_flood_61 fX11_7.r (hM.1 _ (by decide)) rfl ?_
          refine z_sipush (v := 179) dX11_flood_64 (by decide) ?_
          refine z_iald dX11_flood_67 (hM.1 1 (by decide)) (show vp_in (nI 179) 229 from vp_in_nI (by decide) (by decide)) ?_
          rw [show μ 1 (Int32.toNatClampNeg 179) = nI F from hL.sc.2.2.2.2.2.1]
          refine z_bipush (v := 12) dX11_flood_68 (by decide) ?_
          refine z_icmp_ne (tgt := 81) dX11_flood_70 (by decide) (fun c5 => ?_) (fun c5 => ?_)
          · have h1 : F < 12 := by
              have h2 : F ≠ 12 := fun q => c5 (by rw [q]; rfl)
              omega
            refine z_aload_n dX11_flood_81 rfl ?_
            refine z_aload_n dX11_flood_82 rfl ?_
            refine z_get dX11_flood_83 fX11_7.r (hM.1 _ (by decide)) rfl ?_
            refine z_V1 (mi' := mX11_keeps) dX11_flood_86 lX11_87 nX11_keeps kX11_keeps (by decide) (Nat.le_of_ble_eq_true rfl) (Nat.le_refl _) (Nat.le_refl _) (hM.1 _ (by decide)) rfl rfl ?_
            refine sX11_keeps hM (r := 1) (by decide) (by decide) (by decide) hct hc8 (fun G1 hM hF => ?_)
            obtain ⟨ν, hν⟩ : ∃ ν, ν = zmkeep μ 1 ct := ⟨_, rfl⟩
            rw [← hν] at hM
            have hQ := hQ.tr hF
            have hr1 : ν 1 = μ 1 := by rw [hν]; exact zmkeep_r (by decide) (by decide)
            replace hL : zRel σ S F E K (ν 1) mm fl := by rw [hr1]; exact hL
            refine z_sipush (v := 180) dX11_flood_89 (by decide) ?_
            refine z_iconst (v := 3) dX11_flood_92 (by decide) ?_
            refine z_aload_n dX11_flood_93 rfl ?_
            refine z_get dX11_flood_94 fX11_7.r (hM.1 _ (by decide)) rfl ?_
            refine z_sipush (v := 179) dX11_flood_97 (by decide) ?_
            refine z_iald dX11_flood_100 (hM.1 1 (by decide)) (show vp_in (nI 179) 229 from vp_in_nI (by decide) (by decide)) ?_
            rw [show ν 1 (Int32.toNatClampNeg 179) = nI F from hL.sc.2.2.2.2.2.1]
            refine z_imul dX11_flood_101 ?_
            refine z_iadd dX11_flood_102 ?_
            rw [zixF0]
            refine z_istore dX11_flood_103 (by decide) rfl ?_
            refine z_aload_n dX11_flood_105 rfl ?_
            refine z_get dX11_flood_106 fX11_7.r (hM.1 _ (by decide)) rfl ?_
            refine z_iload dX11_flood_109 rfl ?_
            refine z_iload_n dX11_flood_111 rfl ?_
            refine z_iast dX11_flood_112 (hM.1 1 (by decide)) (vp_in_nI (show 180 + 3 * F < 229 by omega) (by decide)) ?_
            rw [nI_clamp (show 180 + 3 * F < 2147483648 by omega)]
            refine z_mset hM 1 (180 + 3 * F) (y) (by decide) (by simp only [zmE, zu_row]) (fun _ hM hF => ?_)
            have hQ := hQ.tr hF
            refine z_aload_n dX11_flood_113 rfl ?_
            refine z_get dX11_flood_114 fX11_7.r (hM.1 _ (by decide)) rfl ?_
            refine z_iload dX11_flood_117 rfl ?_
            refine z_iconst (v := 1) dX11_flood_119 (by decide) ?_
            refine z_iadd dX11_flood_120 ?_
            rw [nI_1]
            refine z_iload_n dX11_flood_121 rfl ?_
            refine z_iast dX11_flood_122 (hM.1 1 (by decide)) (vp_in_nI (show 180 + 3 * F + 1 < 229 by omega) (by decide)) ?_
            rw [nI_clamp (show 180 + 3 * F + 1 < 2147483648 by omega)]
            refine z_mset hM 1 (180 + 3 * F + 1) (c) (by decide) (by simp only [zmE, zu_row]) (fun _ hM hF => ?_)
            have hQ := hQ.tr hF
            refine z_aload_n dX11_flood_123 rfl ?_
            refine z_get dX11_flood_124 fX11_7.r (hM.1 _ (by decide)) rfl ?_
            refine z_iload dX11_flood_127 rfl ?_
            refine z_iconst (v := 2) dX11_flood_129 (by decide) ?_
            refine z_iadd dX11_flood_130 ?_
            rw [show (2 : Int32) = nI 2 from rfl, nI_add]
            refine z_iload_n dX11_flood_131 rfl ?_
            refine z_iast dX11_flood_132 (hM.1 1 (by decide)) (vp_in_nI (show 180 + 3 * F + 2 < 229 by omega) (by decide)) ?_
            rw [nI_clamp (show 180 + 3 * F + 2 < 2147483648 by omega)]
            refine z_mset hM 1 (180 + 3 * F + 2) (w) (by decide) (by simp only [zmE, zu_row]) (fun _ hM hF => ?_)
            have hQ := hQ.tr hF
            refine z_aload_n dX11_flood_133 rfl ?_
            refine z_get dX11_flood_134 fX11_7.r (hM.1 _ (by decide)) rfl ?_
            refine z_sipush (v := 179) dX11_flood_137 (by decide) ?_
            refine z_dup2_11 dX11_flood_140 rfl rfl ?_
            refine z_iald dX11_flood_141 (hM.1 1 (by decide)) (show vp_in (nI 179) 229 from vp_in_nI (by decide) (by decide)) ?_
            rw [show zu (zu (zu ν 1 (180 + 3 * F) y) 1 (180 + 3 * F + 1) c) 1 (180 + 3 * F + 2) w 1 (Int32.toNatClampNeg 179) = nI F from (zu_j (show 179 ≠ 180 + 3 * F + 2 by omega)).trans ((zu_j (show 179 ≠ 180 + 3 * F + 1 by omega)).trans ((zu_j (show 179 ≠ 180 + 3 * F by omega)).trans hL.sc.2.2.2.2.2.1))]
            refine z_iconst (v := 1) dX11_flood_142 (by decide) ?_
            refine z_iadd dX11_flood_143 ?_
            rw [nI_1]
            refine z_iast dX11_flood_144 (hM.1 1 (by decide)) (show vp_in (nI 179) 229 from vp_in_nI (by decide) (by decide)) ?_
            rw [show Int32.toNatClampNeg 179 = 179 from rfl]
            refine z_mset hM 1 179 (nI (F + 1)) (by decide) (by simp only [zmE, zu_row]) (fun _ hM hF => ?_)
            have hQ := hQ.tr hF
            refine z_aload_n dX11_flood_145 rfl ?_
            refine z_get dX11_flood_146 fX11_7.r (hM.1 _ (by decide)) rfl ?_
            refine z_sipush (v := 179) dX11_flood_149 (by decide) ?_
            refine z_iald dX11_flood_152 (hM.1 1 (by decide)) (show vp_in (nI 179) 229 from vp_in_nI (by decide) (by decide)) ?_
            rw [show Int32.toNatClampNeg 179 = 179 from rfl, zu_7]
            refine z_iconst (v := 1) dX11_flood_153 (by decide) ?_
            refine z_isub dX11_flood_154 ?_
            rw [nI_pred]
            exact z_ireturn (mi := mX11_flood) dX11_flood_155 rfl rfl (Nat.le_refl _) (Nat.le_refl _) (hO (by rw [zrFl, if_neg h3, if_neg h5, if_neg (znle (c := 12) (m := 12) hL.n.2.2.1 rfl (by omega) (by decide) h1)]) ν hν _ hM hQ)
          · have h1 : F = 12 := znI_inj (by omega) (by decide) (show nI F = nI 12 from c5)
            refine z_aload_n dX11_flood_73 rfl ?_
            refine z_iconst (v := 2) dX11_flood_74 (by decide) ?_
            refine z_bipush (v := 12) dX11_flood_75 (by decide) ?_
            refine z_V2 (mi' := mX11_refuses) dX11_flood_77 lX11_84 nX11_refuses kX11_refuses (by decide) (Nat.le_of_ble_eq_true rfl) (Nat.le_refl _) (Nat.le_refl _) (hM.1 _ (by decide)) rfl rfl ?_
            refine sX11_refuses hM (fun G1 hM hF => ?_)
            have hQ := hQ.tr hF
            exact z_ireturn (mi := mX11_flood) dX11_flood_80 rfl rfl (Nat.le_refl _) (Nat.le_refl _) (hR 2 12 (by rw [zrFl, if_neg h3, if_neg h5, if_pos (zyle (c := 12) (m := 12) hL.n.2.2.1 rfl (by omega) (by decide) (by omega))]) _ hM hQ)
        · have h5 : 0 ≤ zfi (fun k => decide (σ 4 k = y)) F := Int32.not_lt.mp c4
          refine z_aload_n dX11_flood_49 rfl ?_
          refine z_iconst (v := 4) dX11_flood_50 (by decide) ?_
          refine z_aload_n dX11_flood_51 rfl ?_
          refine z_iload_n dX11_flood_52 rfl ?_
          refine z_V1 (mi' := mX11_ofYear) dX11_flood_53 lX11_95 nX11_ofYear kX11_ofYear (by decide) (Nat.le_of_ble_eq_true rfl) (Nat.le_refl _) (Nat.le_refl _) (hM.1 _ (by decide)) rfl rfl ?_
          refine sX11_ofYear hM hL ?_
          refine z_V2 (mi' := mX11_refuses) dX11_flood_56 lX11_84 nX11_refuses kX11_refuses (by decide) (Nat.le_of_ble_eq_true rfl) (Nat.le_refl _) (Nat.le_refl _) (hM.1 _ (by decide)) rfl rfl ?_
          refine sX11_refuses hM (fun G1 hM hF => ?_)
          have hQ := hQ.tr hF
          exact z_ireturn (mi := mX11_flood) dX11_flood_59 rfl rfl (Nat.le_refl _) (Nat.le_refl _) (hR 4 _ (by rw [zrFl, if_neg h3, if_pos h5]) _ hM hQ)
      · refine z_aload_n dX11_flood_34 rfl ?_
        refine z_iconst (v := 1) dX11_flood_35 (by decide) ?_
        refine z_iconst (v := 0) dX11_flood_36 (by decide) ?_
        refine z_V2 (mi' := mX11_refuses) dX11_flood_37 lX11_84 nX11_refuses kX11_refuses (by decide) (Nat.le_of_ble_eq_true rfl) (Nat.le_refl _) (Nat.le_refl _) (hM.1 _ (by decide)) rfl rfl ?_
        refine sX11_refuses hM (fun G1 hM hF => ?_)
        have hQ := hQ.tr hF
        exact z_ireturn (mi := mX11_flood) dX11_flood_40 rfl rfl (Nat.le_refl _) (Nat.le_refl _) (hR 1 0 (by rw [zrFl, if_pos (Or.inr (Or.inr (zoutr (zb_0.mp c3))))]) _ hM hQ)
set_option maxHeartbeats 4000000 in
set_option maxRecDepth 10000 in
theorem sX11_epoch {Γ : zG} {d : Nat} {G : zH} {Post : zV} {am : Nat → Nat} {μ : zSt} (hM : zMod G am μ) {σ : zSt} {S F E K : Nat} {mm : Nat → Nat} {fl : Nat → Nat → Nat} (hL : zRel σ S F E K (μ 1) mm fl) {ct : Nat} (hct : μ 0 5 = nI ct) (hc8 : ct ≤ 8) {y a : Int32} (hO : zrEp σ E y a = none → ∀ ν, ν = zmkeep μ 1 ct → ∀ G1, zMod G1 am (zu (zu (zu ν 1 216 (nI (if ztix σ E y < E then E else E + 1))) 1 (217 + 2 * ztix σ E y) y) 1 (217 + 2 * ztix σ E y + 1) a) → zFrm G G1 am 8 → Post (some (.int (nI (if ztix σ E y < E then E else E + 1)))) G1) (hR : ∀ rn rd, zrEp σ E y a = some (rn, rd) → ∀ G1, zMod G1 am (zmref μ rn rd) → zFrm G G1 am 8 → Post (some (.int 0)) G1) : zM Γ (d + 2) mX11_epoch 0 0 [.ref (am 0), .int y, .int a] G Post := by
  refine zM_of pnX11 rfl (Nat.le_of_ble_eq_true rfl) rfl ?_
  have hS6 := hL.S6
  have hF12 := hL.F12
  have hE4 := hL.E4
  have hK3 := hL.K3
  have hQ : zFrm G G am 8 := zFrm.rf
  refine z_iload_n dX11_epoch_0 rfl ?_
  refine z_iconst (v := 0) dX11_epoch_1 (by decide) ?_
  refine z_sipush (v := 999) dX11_epoch_2 (by decide) ?_
  refine z_S3 (mi' := mX11_in) dX11_epoch_5 lX11_62 nX11_in kX11_in (by decide) (Nat.le_of_ble_eq_true rfl) (Nat.le_refl _) (Nat.le_refl _) ?_
  refine sX11_in ?_
  refine z_if_eq (tgt := 22) dX11_epoch_8 (by decide) (fun c1 => ?_) (fun c1 => ?_)
  · refine z_aload_n dX11_epoch_22 rfl ?_
    refine z_iconst (v := 1) dX11_epoch_23 (by decide) ?_
    refine z_iconst (v := 0) dX11_epoch_24 (by decide) ?_
    refine z_V2 (mi' := mX11_refuses) dX11_epoch_25 lX11_84 nX11_refuses kX11_refuses (by decide) (Nat.le_of_ble_eq_true rfl) (Nat.le_refl _) (Nat.le_refl _) (hM.1 _ (by decide)) rfl rfl ?_
    refine sX11_refuses hM (fun G1 hM hF => ?_)
    have hQ := hQ.tr hF
    exact z_ireturn (mi := mX11_epoch) dX11_epoch_28 rfl rfl (Nat.le_refl _) (Nat.le_refl _) (hR 1 0 (by rw [zrEp, if_pos (Or.inl (zoutr (zb_0.mp c1)))]) _ hM hQ)
  · refine z_iload_n dX11_epoch_11 rfl ?_
    refine z_bipush (v := (-9)) dX11_epoch_12 (by decide) ?_
    refine z_bipush (v := 9) dX11_epoch_14 (by decide) ?_
    refine z_S3 (mi' := mX11_in) dX11_epoch_16 lX11_62 nX11_in kX11_in (by decide) (Nat.le_of_ble_eq_true rfl) (Nat.le_refl _) (Nat.le_refl _) ?_
    refine sX11_in ?_
    refine z_if_ne (tgt := 29) dX11_epoch_19 (by decide) (fun c2 => ?_) (fun c2 => ?_)
    · have h3 : ¬ ((y < 0 ∨ 999 < y) ∨ (a < -9 ∨ 9 < a)) := fun q => q.elim (zinr (zb_n.mp c1)) (zinr (zb_n.mp c2))
      have fin : ∀ (k : Nat), k ≤ E → ztix σ E y = k → zX Γ mX11_epoch (d + 2) 0 0 65 [some (.ref (am 0)), some (.int y), some (.int a), some (.int (nI k))] [] G 0 0 (zlift Post) := by
        intro k hk hkx
        refine z_iload_n dX11_epoch_65 rfl ?_
        refine z_iconst (v := 4) dX11_epoch_66 (by decide) ?_
        refine z_icmp_ne (tgt := 77) dX11_epoch_67 (by decide) (fun c1 => ?_) (fun c1 => ?_)
        · have h4 : k < 4 := by
            have h2 : k ≠ 4 := fun q => c1 (by rw [q]; rfl)
            omega
          have h6 : ¬ (4 ≤ σ 13 3 ∧ zfi (fun k => decide (σ 7 k = y)) E < 0) := fun q => by
            have q1 := q.1
            rw [hL.n.2.2.2.2.1] at q1
            have q3 := (nI_leI (show 4 < 2147483648 by decide) (by omega)).mp q1
            have q2 := q.2
            rw [zfi, if_pos (show zff (fun k => decide (σ 7 k = y)) E < E by rw [show zff (fun k => decide (σ 7 k = y)) E = k from hkx]; omega)] at q2
            exact nI_pos (by rw [show zff (fun k => decide (σ 7 k = y)) E = k from hkx]; omega) q2
          refine z_aload_n dX11_epoch_77 rfl ?_
          refine z_aload_n dX11_epoch_78 rfl ?_
          refine z_get dX11_epoch_79 fX11_7.r (hM.1 _ (by decide)) rfl ?_
          refine z_V1 (mi' := mX11_keeps) dX11_epoch_82 lX11_87 nX11_keeps kX11_keeps (by decide) (Nat.le_of_ble_eq_true rfl) (Nat.zero_le _) (Nat.zero_le _) (hM.1 _ (by decide)) rfl rfl ?_
          refine sX11_keeps hM (r := 1) (by decide) (by decide) (by decide) hct hc8 (fun G1 hM hF => ?_)
          obtain ⟨ν, hν⟩ : ∃ ν, ν = zmkeep μ 1 ct := ⟨_, rfl⟩
          rw [← hν] at hM
          have hQ := hQ.tr hF
          have hr1 : ν 1 = μ 1 := by rw [hν]; exact zmkeep_r (by decide) (by decide)
          replace hL : zRel σ S F E K (ν 1) mm fl := by rw [hr1]; exact hL
          refine z_aload_n dX11_epoch_85 rfl ?_
          refine z_get dX11_epoch_86 fX11_7.r (hM.1 _ (by decide)) rfl ?_
          refine z_sipush (v := 216) dX11_epoch_89 (by decide) ?_
          refine z_aload_n dX11_epoch_92 rfl ?_
          refine z_get dX11_epoch_93 fX11_7.r (hM.1 _ (by decide)) rfl ?_
          refine z_sipush (v := 216) dX11_epoch_96 (by decide) ?_
          refine z_iald dX11_epoch_99 (hM.1 1 (by decide)) (show vp_in (nI 216) 229 from vp_in_nI (by decide) (by decide)) ?_
          rw [show ν 1 (Int32.toNatClampNeg 216) = nI E from hL.sc.2.2.2.2.2.2.1]
          refine z_iload_n dX11_epoch_100 rfl ?_
          refine z_iconst (v := 1) dX11_epoch_101 (by decide) ?_
          refine z_iadd dX11_epoch_102 ?_
          rw [nI_1]
          have e8 : (if nI (k + 1) < nI E then nI E else nI (k + 1)) = nI (if k < E then E else E + 1) := by
                by_cases q : k < E
                · rw [if_pos q]
                  by_cases q2 : k + 1 < E
                  · rw [if_pos ((nI_ltI (by omega) (by omega)).mpr q2)]
                  · rw [if_neg (fun z => q2 ((nI_ltI (by omega) (by omega)).mp z)), show k + 1 = E by omega]
                · rw [if_neg q, if_neg (fun z => by have := (nI_ltI (by omega) (by omega)).mp z; omega), show k = E by omega]
          refine z_S2 (mi' := mX11_more) dX11_epoch_103 lX11_98 nX11_more kX11_more (by decide) (Nat.le_of_ble_eq_true rfl) (Nat.zero_le _) (Nat.zero_le _) ?_
          refine sX11_more ?_
          rw [e8]
          refine z_iast dX11_epoch_106 (hM.1 1 (by decide)) (show vp_in (nI 216) 229 from vp_in_nI (by decide) (by decide)) ?_
          rw [show Int32.toNatClampNeg 216 = 216 from rfl]
          refine z_mset hM 1 216 (nI (if k < E then E else E + 1)) (by decide) (by simp only [zmE, zu_row]) (fun _ hM hF => ?_)
          have hQ := hQ.tr hF
          refine z_aload_n dX11_epoch_107 rfl ?_
          refine z_get dX11_epoch_108 fX11_7.r (hM.1 _ (by decide)) rfl ?_
          refine z_sipush (v := 217) dX11_epoch_111 (by decide) ?_
          refine z_iconst (v := 2) dX11_epoch_114 (by decide) ?_
          refine z_iload_n dX11_epoch_115 rfl ?_
          refine z_imul dX11_epoch_116 ?_
          refine z_iadd dX11_epoch_117 ?_
          refine z_iload_n dX11_epoch_118 rfl ?_
          rw [zixE]
          refine z_iast dX11_epoch_119 (hM.1 1 (by decide)) (vp_in_nI (show 217 + 2 * k < 229 by omega) (by decide)) ?_
          rw [nI_clamp (show 217 + 2 * k < 2147483648 by omega)]
          refine z_mset hM 1 (217 + 2 * k) (y) (by decide) (by simp only [zmE, zu_row]) (fun _ hM hF => ?_)
          have hQ := hQ.tr hF
          refine z_aload_n dX11_epoch_120 rfl ?_
          refine z_get dX11_epoch_121 fX11_7.r (hM.1 _ (by decide)) rfl ?_
          refine z_sipush (v := 217) dX11_epoch_124 (by decide) ?_
          refine z_iconst (v := 2) dX11_epoch_127 (by decide) ?_
          refine z_iload_n dX11_epoch_128 rfl ?_
          refine z_imul dX11_epoch_129 ?_
          refine z_iadd dX11_epoch_130 ?_
          refine z_iconst (v := 1) dX11_epoch_131 (by decide) ?_
          refine z_iadd dX11_epoch_132 ?_
          refine z_iload_n dX11_epoch_133 rfl ?_
          rw [zixE, nI_1]
          refine z_iast dX11_epoch_134 (hM.1 1 (by decide)) (vp_in_nI (show 217 + 2 * k + 1 < 229 by omega) (by decide)) ?_
          rw [nI_clamp (show 217 + 2 * k + 1 < 2147483648 by omega)]
          refine z_mset hM 1 (217 + 2 * k + 1) (a) (by decide) (by simp only [zmE, zu_row]) (fun _ hM hF => ?_)
          have hQ := hQ.tr hF
          refine z_aload_n dX11_epoch_135 rfl ?_
          refine z_get dX11_epoch_136 fX11_7.r (hM.1 _ (by decide)) rfl ?_
          refine z_sipush (v := 216) dX11_epoch_139 (by decide) ?_
          refine z_iald dX11_epoch_142 (hM.1 1 (by decide)) (show vp_in (nI 216) 229 from vp_in_nI (by decide) (by decide)) ?_
          rw [show zu (zu (zu ν 1 216 (nI (if k < E then E else E + 1))) 1 (217 + 2 * k) y) 1 (217 + 2 * k + 1) a 1 (Int32.toNatClampNeg 216) = nI (if k < E then E else E + 1) from (zu_j (show 216 ≠ 217 + 2 * k + 1 by omega)).trans ((zu_j (show 216 ≠ 217 + 2 * k by omega)).trans (zu_7 ν 1 216 _))]
          exact z_ireturn (mi := mX11_epoch) dX11_epoch_143 rfl rfl (Nat.zero_le _) (Nat.zero_le _) (by rw [hkx] at hO; exact hO (by rw [zrEp, if_neg h3, if_neg h6]) ν hν _ hM hQ)
        · have h4 : k = 4 := znI_inj (by omega) (by decide) (show nI k = nI 4 from c1)
          have h6 : 4 ≤ σ 13 3 ∧ zfi (fun k => decide (σ 7 k = y)) E < 0 := by
            refine ⟨zyle (c := 4) (m := 4) hL.n.2.2.2.2.1 rfl (by omega) (by decide) (by omega), ?_⟩
            rw [zfi, if_neg (show ¬ zff (fun k => decide (σ 7 k = y)) E < E by rw [show zff (fun k => decide (σ 7 k = y)) E = k from hkx]; omega)]
            decide
          refine z_aload_n dX11_epoch_70 rfl ?_
          refine z_iconst (v := 2) dX11_epoch_71 (by decide) ?_
          refine z_iconst (v := 4) dX11_epoch_72 (by decide) ?_
          refine z_V2 (mi' := mX11_refuses) dX11_epoch_73 lX11_84 nX11_refuses kX11_refuses (by decide) (Nat.le_of_ble_eq_true rfl) (Nat.zero_le _) (Nat.zero_le _) (hM.1 _ (by decide)) rfl rfl ?_
          refine sX11_refuses hM (fun G1 hM hF => ?_)
          have hQ := hQ.tr hF
          exact z_ireturn (mi := mX11_epoch) dX11_epoch_76 rfl rfl (Nat.zero_le _) (Nat.zero_le _) (hR 2 4 (by rw [zrEp, if_neg h3, if_pos h6]) _ hM hQ)
      have key : ∀ (r : Nat) (i : Nat), i ≤ E → E < i + r → (∀ k, k < i → (fun k => decide (σ 7 k = y)) k = false) → zX Γ mX11_epoch (d + 2) 0 0 31 [some (.ref (am 0)), some (.int y), some (.int a), some (.int (nI i))] [] G 0 0 (zlift Post) := by
        intro r
        induction r with
        | zero =>
          intro i hi1 hi2 hno
          exact absurd hi2 (by omega)
        | succ r ih =>
          intro i hi1 hi2 hno
          refine z_iload_n dX11_epoch_31 rfl ?_
          refine z_aload_n dX11_epoch_32 rfl ?_
          refine z_get dX11_epoch_33 fX11_7.r (hM.1 _ (by decide)) rfl ?_
          refine z_sipush (v := 216) dX11_epoch_36 (by decide) ?_
          refine z_iald dX11_epoch_39 (hM.1 1 (by decide)) (show vp_in (nI 216) 229 from vp_in_nI (by decide) (by decide)) ?_
          rw [show μ 1 (Int32.toNatClampNeg 216) = nI E from hL.sc.2.2.2.2.2.2.1]
          refine z_icmp_ge (tgt := 65) dX11_epoch_40 (by decide) (fun c1 => ?_) (fun c1 => ?_)
          · have hi9 := zgeN (N := E) rfl (by omega) (by omega) c1
            have hk9 : ztix σ E y = i := by
              rw [ztix, zff_no (fun k hk => hno k (by omega))]
              omega
            exact fin i (by omega) hk9
          · have hi9 := zltN (N := E) rfl (by omega) (by omega) c1
            refine z_aload_n dX11_epoch_43 rfl ?_
            refine z_get dX11_epoch_44 fX11_7.r (hM.1 _ (by decide)) rfl ?_
            refine z_sipush (v := 217) dX11_epoch_47 (by decide) ?_
            refine z_iconst (v := 2) dX11_epoch_50 (by decide) ?_
            refine z_iload_n dX11_epoch_51 rfl ?_
            refine z_imul dX11_epoch_52 ?_
            refine z_iadd dX11_epoch_53 ?_
            rw [zixE]
            refine z_iald dX11_epoch_54 (hM.1 1 (by decide)) (vp_in_nI (show 217 + 2 * i < 229 by omega) (by decide)) ?_
            rw [nI_clamp (show 217 + 2 * i < 2147483648 by omega), (hL.ep hi9).1]
            refine z_iload_n dX11_epoch_55 rfl ?_
            refine z_icmp_eq (tgt := 65) dX11_epoch_56 (by decide) (fun c2 => ?_) (fun c2 => ?_)
            · have hk9 : ztix σ E y = i := zff_yes hno (decide_eq_true c2) hi9
              exact fin i (by omega) hk9
            · refine z_iinc dX11_epoch_59 rfl rfl (by decide) rfl ?_
              refine z_goto (tgt := 31) dX11_epoch_62 (by decide) ?_
              exact z_sub (lv' := [some (.ref (am 0)), some (.int y), some (.int a), some (.int (nI (i + 1)))]) ⟨rfl, rfl, rfl, zsl (zinc i), trivial⟩ (ih (i + 1) (by omega) (by omega) (zff_f hno (decide_eq_false c2)))
      refine z_iconst (v := 0) dX11_epoch_29 (by decide) ?_
      refine z_istore_n dX11_epoch_30 (by decide) rfl ?_
      exact z_sub (lv' := [some (.ref (am 0)), some (.int y), some (.int a), some (.int (nI 0))]) ⟨rfl, rfl, rfl, rfl, trivial⟩ (key (E + 1) 0 (by omega) (by omega) (fun k hk => absurd hk (by omega)))
    · refine z_aload_n dX11_epoch_22 rfl ?_
      refine z_iconst (v := 1) dX11_epoch_23 (by decide) ?_
      refine z_iconst (v := 0) dX11_epoch_24 (by decide) ?_
      refine z_V2 (mi' := mX11_refuses) dX11_epoch_25 lX11_84 nX11_refuses kX11_refuses (by decide) (Nat.le_of_ble_eq_true rfl) (Nat.le_refl _) (Nat.le_refl _) (hM.1 _ (by decide)) rfl rfl ?_
      refine sX11_refuses hM (fun G1 hM hF => ?_)
      have hQ := hQ.tr hF
      exact z_ireturn (mi := mX11_epoch) dX11_epoch_28 rfl rfl (Nat.le_refl _) (Nat.le_refl _) (hR 1 0 (by rw [zrEp, if_pos (Or.inr (zoutr (zb_0.mp c2)))]) _ hM hQ)
