theorem zfi_eq {p : Nat → Bool} {n i : Nat} (h : zff p n = i) (hi : i < n) : zfi p n = nI i := by
  unfold zfi
  rw [h, if_pos hi]
set_option maxHeartbeats 4000000 in
set_option maxRecDepth 10000 in
theorem sX11_mark {Γ : zG} {d : Nat} {G : zH} {Post : zV} {am : Nat → Nat} {μ : zSt} (hM : zMod G am μ) {σ : zSt} {S F E K : Nat} {mm : Nat → Nat} {fl : Nat → Nat → Nat} (hL : zRel σ S F E K (μ 1) mm fl) (hD : zDis σ S F) {x y : Int32} (hP : ∀ (r c : Int32) (G1 : zH), zans [zIO, zNS] (zoMark σ x y) r c → zMod G1 am (zu μ 0 7 c) → zFrm G G1 am 8 → Post (some (.int r)) G1) : zM Γ (d + 3) mX11_mark 0 0 [.ref (am 0), .int x, .int y] G Post := by
  refine zM_of pnX11 rfl (Nat.le_of_ble_eq_true rfl) rfl ?_
  have hS6 := hL.S6
  have hF12 := hL.F12
  have hE4 := hL.E4
  have hK3 := hL.K3
  refine z_aload_n dX11_mark_0 rfl ?_
  refine z_aload_n dX11_mark_1 rfl ?_
  refine z_iload_n dX11_mark_2 rfl ?_
  refine z_V1 (mi' := mX11_isStone) dX11_mark_3 lX11_101 nX11_isStone kX11_isStone (by decide) (Nat.le_of_ble_eq_true rfl) (Nat.le_refl _) (Nat.le_refl _) (hM.1 _ (by decide)) rfl rfl ?_
  refine sX11_isStone hM hL ?_
  refine z_if_ne (tgt := 13) dX11_mark_6 (by decide) (fun c1 => ?_) (fun c1 => ?_)
  · have h1 : ¬ ¬ (0 ≤ x ∧ x < σ 13 1) := by rw [hL.n.1]; exact not_not_intro (zb_n.mp c1)
    obtain ⟨s, hs, rfl⟩ := zhas (by omega) (zb_n.mp c1)
    refine z_iload_n dX11_mark_13 rfl ?_
    refine z_iconst (v := 0) dX11_mark_14 (by decide) ?_
    refine z_aload_n dX11_mark_15 rfl ?_
    refine z_iload_n dX11_mark_16 rfl ?_
    refine z_iconst (v := 4) dX11_mark_17 (by decide) ?_
    refine z_V2 (mi' := mX11_of) dX11_mark_18 lX11_70 nX11_of kX11_of (by decide) (Nat.le_of_ble_eq_true rfl) (Nat.le_refl _) (Nat.le_refl _) (hM.1 _ (by decide)) rfl rfl ?_
    refine sX11_of hM (s := s) (w := 4) (by omega) ?_
    rw [show μ 1 (5 + 29 * s + 4) = _ from (hL.st hs).2.2.2.2.1]
    refine z_iconst (v := 1) dX11_mark_21 (by decide) ?_
    refine z_isub dX11_mark_22 ?_
    refine z_S3 (mi' := mX11_in) dX11_mark_23 lX11_62 nX11_in kX11_in (by decide) (Nat.le_of_ble_eq_true rfl) (Nat.le_refl _) (Nat.le_refl _) ?_
    refine sX11_in ?_
    refine z_if_eq (tgt := 33) dX11_mark_26 (by decide) (fun c2 => ?_) (fun c2 => ?_)
    · have h3 : ¬ (0 ≤ y ∧ y < nI (mm s)) := fun q => zb_0.mp c2 ((zlem1 (by have := hL.m6 hs; omega)).mpr q)
      refine z_iconst (v := 2) dX11_mark_33 (by decide) ?_
      refine z_V1 (mi' := mX11_fails) dX11_mark_34 lX11_149 nX11_fails kX11_fails (by decide) (Nat.le_of_ble_eq_true rfl) (Nat.le_refl _) (Nat.le_refl _) (hM.1 _ (by decide)) rfl rfl ?_
      refine sX11_fails hM (fun G1 hM hQ => ?_)
      replace hL := zrel_u (j := 7) (x := 2) hL
      rw [zfb2]
      refine z_if_eq (tgt := 44) dX11_mark_37 (by decide) (fun c3 => ?_) (fun c3 => ?_)
      · exact absurd c3 zi10
      · refine z_iconst (v := 0) dX11_mark_40 (by decide) ?_
        refine z_goto (tgt := 56) dX11_mark_41 (by decide) ?_
        exact z_ireturn (mi := mX11_mark) dX11_mark_56 rfl rfl (Nat.le_refl _) (Nat.le_refl _) (hP _ _ _ (by rw [zoMark, if_neg h1, nI_clamp (by omega), if_neg (hL.nthN hs h3)]; rfl) hM hQ)
    · obtain ⟨p, hp, rfl⟩ := zhas (by have := hL.m6 hs; omega) ((zlem1 (by have := hL.m6 hs; omega)).mp (zb_n.mp c2))
      obtain ⟨k, hk, ek, ef, hf12⟩ := hL.nth hD hs hp
      refine z_iconst (v := 0) dX11_mark_29 (by decide) ?_
      refine z_goto (tgt := 34) dX11_mark_30 (by decide) ?_
      refine z_V1 (mi' := mX11_fails) dX11_mark_34 lX11_149 nX11_fails kX11_fails (by decide) (Nat.le_of_ble_eq_true rfl) (Nat.le_refl _) (Nat.le_refl _) (hM.1 _ (by decide)) rfl rfl ?_
      refine sX11_fails hM (fun G1 hM hQ => ?_)
      replace hL := zrel_u (j := 7) (x := 0) hL
      rw [zfb0]
      refine z_if_eq (tgt := 44) dX11_mark_37 (by decide) (fun c4 => ?_) (fun c4 => ?_)
      · refine z_aload_n dX11_mark_44 rfl ?_
        refine z_iload_n dX11_mark_45 rfl ?_
        refine z_aload_n dX11_mark_46 rfl ?_
        refine z_iload_n dX11_mark_47 rfl ?_
        refine z_iload_n dX11_mark_48 rfl ?_
        refine z_V2 (mi' := mX11_nth) dX11_mark_49 lX11_167 nX11_nth kX11_nth (by decide) (Nat.le_of_ble_eq_true rfl) (Nat.le_refl _) (Nat.le_refl _) (hM.1 _ (by decide)) rfl rfl ?_
        refine sX11_nth hM hL hs (by rw [ek]; exact hk) ?_
        rw [ek]
        have hm6 := hL.m6 hs
        refine z_iconst (v := 0) dX11_mark_52 (by decide) ?_
        refine z_V3 (mi' := mX11_ofMark) dX11_mark_53 lX11_80 nX11_ofMark kX11_ofMark (by decide) (Nat.le_of_ble_eq_true rfl) (Nat.le_refl _) (Nat.le_refl _) (hM.1 _ (by decide)) rfl rfl ?_
        refine sX11_ofMark hM (s := s) (k := k) (w := 0) (by have := hL.m6 hs; have := hk; omega) ?_
        rw [show zu μ 0 7 0 1 (5 + 29 * s + 5 + 4 * k + 0) = _ from (hL.mk hs hk).2.1]
        exact z_ireturn (mi := mX11_mark) dX11_mark_56 rfl rfl (Nat.le_refl _) (Nat.le_refl _) (hP _ _ _ (by rw [zoMark, if_neg h1, nI_clamp (by omega), zfi_eq ef hf12, if_pos (Int32.not_lt.mp (nI_pos (by omega)))]; exact ⟨rfl, rfl⟩) hM hQ)
      · exact absurd rfl c4
  · have h1 : ¬ (0 ≤ x ∧ x < σ 13 1) := by rw [hL.n.1]; exact zb_0.mp c1
    refine z_iconst (v := 1) dX11_mark_9 (by decide) ?_
    refine z_goto (tgt := 34) dX11_mark_10 (by decide) ?_
    refine z_V1 (mi' := mX11_fails) dX11_mark_34 lX11_149 nX11_fails kX11_fails (by decide) (Nat.le_of_ble_eq_true rfl) (Nat.le_refl _) (Nat.le_refl _) (hM.1 _ (by decide)) rfl rfl ?_
    refine sX11_fails hM (fun G1 hM hQ => ?_)
    replace hL := zrel_u (j := 7) (x := 1) hL
    rw [zfb1]
    refine z_if_eq (tgt := 44) dX11_mark_37 (by decide) (fun c5 => ?_) (fun c5 => ?_)
    · exact absurd c5 zi10
    · refine z_iconst (v := 0) dX11_mark_40 (by decide) ?_
      refine z_goto (tgt := 56) dX11_mark_41 (by decide) ?_
      exact z_ireturn (mi := mX11_mark) dX11_mark_56 rfl rfl (Nat.le_refl _) (Nat.le_refl _) (hP _ _ _ (by rw [zoMark, if_pos h1]; rfl) hM hQ)
