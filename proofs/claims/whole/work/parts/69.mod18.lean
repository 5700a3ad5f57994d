set_option maxHeartbeats 4000000 in
set_option maxRecDepth 10000 in
theorem sX11_character {Γ : zG} {d : Nat} {G : zH} {Post : zV} {am : Nat → Nat} {μ : zSt} (hM : zMod G am μ) {tx : List Nat} (hT : zTx μ tx) (h80 : tx.length ≤ 80) {x : Int32} (hO : ∀ i, i < tx.length → x = nI i → ∀ G1, zMod G1 am (zu μ 0 7 0) → zFrm G G1 am 8 → Post (some (.int (nI (tx.getD i 0)))) G1) (hE : ¬ (0 ≤ x ∧ x < nI tx.length) → ∀ G1, zMod G1 am (zu μ 0 7 1) → zFrm G G1 am 8 → Post (some (.int 32)) G1) : zM Γ (d + 2) mX11_character 0 0 [.ref (am 0), .int x] G Post := by
  refine zM_of pnX11 rfl (Nat.le_of_ble_eq_true rfl) rfl ?_
  refine z_aload_n dX11_character_0 rfl ?_
  refine z_iload_n dX11_character_1 rfl ?_
  refine z_iconst (v := 0) dX11_character_2 (by decide) ?_
  refine z_aload_n dX11_character_3 rfl ?_
  refine z_get dX11_character_4 fX11_223.r (hM.1 _ (by decide)) rfl ?_
  rw [hT.1]
  refine z_iconst (v := 1) dX11_character_7 (by decide) ?_
  refine z_isub dX11_character_8 ?_
  refine z_S3 (mi' := mX11_in) dX11_character_9 lX11_62 nX11_in kX11_in (by decide) (Nat.le_of_ble_eq_true rfl) (Nat.le_refl _) (Nat.le_refl _) ?_
  refine sX11_in ?_
  refine z_if_eq (tgt := 19) dX11_character_12 (by decide) (fun c1 => ?_) (fun c1 => ?_)
  · have h1 : ¬ (0 ≤ x ∧ x < nI tx.length) := fun q => zb_0.mp c1 ((zlem1 (by omega)).mpr q)
    refine z_iconst (v := 1) dX11_character_19 (by decide) ?_
    refine z_V1 (mi' := mX11_fails) dX11_character_20 lX11_149 nX11_fails kX11_fails (by decide) (Nat.le_of_ble_eq_true rfl) (Nat.le_refl _) (Nat.le_refl _) (hM.1 _ (by decide)) rfl rfl ?_
    refine sX11_fails hM (fun G1 hM hQ => ?_)
    rw [zfb1]
    refine z_if_eq (tgt := 31) dX11_character_23 (by decide) (fun c2 => ?_) (fun c2 => ?_)
    · exact absurd c2 zi10
    · refine z_bipush (v := 32) dX11_character_26 (by decide) ?_
      refine z_goto (tgt := 37) dX11_character_28 (by decide) ?_
      exact z_ireturn (mi := mX11_character) dX11_character_37 rfl (by decide) (by decide) (by decide) (hE h1 _ hM hQ)
  · have h1 : 0 ≤ x ∧ x < nI tx.length := (zlem1 (by omega)).mp (zb_n.mp c1)
    obtain ⟨i, hi0, rfl⟩ := nI_of (Int32.not_lt.mpr h1.1)
    have hi : i < tx.length := (nI_ltI hi0 (by omega)).mp h1.2
    have hci : tx.getD i 0 < 128 := hT.2.2 _ (by rw [List.getD_eq_getElem?_getD, List.getElem?_eq_getElem hi]; exact List.getElem_mem hi)
    refine z_iconst (v := 0) dX11_character_15 (by decide) ?_
    refine z_goto (tgt := 20) dX11_character_16 (by decide) ?_
    refine z_V1 (mi' := mX11_fails) dX11_character_20 lX11_149 nX11_fails kX11_fails (by decide) (Nat.le_of_ble_eq_true rfl) (Nat.le_refl _) (Nat.le_refl _) (hM.1 _ (by decide)) rfl rfl ?_
    refine sX11_fails hM (fun G1 hM hQ => ?_)
    rw [zfb0]
    refine z_if_eq (tgt := 31) dX11_character_23 (by decide) (fun c3 => ?_) (fun c3 => ?_)
    · refine z_aload_n dX11_character_31 rfl ?_
      refine z_get dX11_character_32 fX11_29.r (hM.1 _ (by decide)) rfl ?_
      refine z_iload_n dX11_character_35 rfl ?_
      refine z_cald dX11_character_36 (hM.1 6 (by decide)) (vp_in_nI (show i < 80 by omega) (by decide)) ?_
      rw [nI_clamp (show i < 2147483648 by omega), show zu μ 0 7 0 6 i = nI (tx.getD i 0) from hT.2.1 i hi]
      exact z_ireturn (mi := mX11_character) dX11_character_37 rfl (znarR _ hci) (by decide) (by decide) (hO i hi rfl _ hM hQ)
    · exact absurd rfl c3
