set_option maxHeartbeats 4000000 in
set_option maxRecDepth 10000 in
theorem sX7_at {Γ : zG} {d : Nat} {G : zH} {Post : zV} {a n j : Nat} {f : Nat → Int32} (hA : G a = some (.inl (.int, (n, .inl f)))) (hn : n < 2147483648) (hj : j < n) (hP : Post (some (.int (f j))) G) : zM Γ d mX7_at 0 0 [.ref a, .int (nI j)] G Post := by
  refine zM_of pnX7 rfl (Nat.le_of_ble_eq_true rfl) rfl ?_
  refine z_iload_n dX7_at_0 rfl ?_
  refine z_if_lt (tgt := 16) dX7_at_1 (by decide) (fun c1 => ?_) (fun c1 => ?_)
  · exact absurd c1 (nI_pos (by omega))
  · refine z_iload_n dX7_at_4 rfl ?_
    refine z_aload_n dX7_at_5 rfl ?_
    refine z_alen dX7_at_6 hA rfl ?_
    refine z_icmp_ge (tgt := 16) dX7_at_7 (by decide) (fun c2 => ?_) (fun c2 => ?_)
    · exact absurd c2 (nI_ge hj hn)
    · refine z_aload_n dX7_at_10 rfl ?_
      refine z_iload_n dX7_at_11 rfl ?_
      refine z_iald dX7_at_12 hA (vp_in_nI hj hn) ?_
      refine z_goto (tgt := 17) dX7_at_13 (by decide) ?_
      exact z_ireturn (mi := mX7_at) dX7_at_17 rfl rfl (Nat.le_refl _) (Nat.le_refl _) (by rw [nI_clamp (by omega)]; exact hP)
set_option maxHeartbeats 4000000 in
set_option maxRecDepth 10000 in
theorem sX7_set {Γ : zG} {d : Nat} {G : zH} {Post : zV} {a n j : Nat} {f : Nat → Int32} {x : Int32} (hA : G a = some (.inl (.int, (n, .inl f)))) (hn : n < 2147483648) (hj : j < n) (hP : Post none (zset G a (.inl (.int, (n, .inl (upd f j x)))))) : zM Γ d mX7_set 0 0 [.ref a, .int (nI j), .int x] G Post := by
  refine zM_of pnX7 rfl (Nat.le_of_ble_eq_true rfl) rfl ?_
  refine z_iload_n dX7_set_0 rfl ?_
  refine z_if_lt (tgt := 14) dX7_set_1 (by decide) (fun c1 => ?_) (fun c1 => ?_)
  · exact absurd c1 (nI_pos (by omega))
  · refine z_iload_n dX7_set_4 rfl ?_
    refine z_aload_n dX7_set_5 rfl ?_
    refine z_alen dX7_set_6 hA rfl ?_
    refine z_icmp_ge (tgt := 14) dX7_set_7 (by decide) (fun c2 => ?_) (fun c2 => ?_)
    · exact absurd c2 (nI_ge hj hn)
    · refine z_aload_n dX7_set_10 rfl ?_
      refine z_iload_n dX7_set_11 rfl ?_
      refine z_iload_n dX7_set_12 rfl ?_
      refine z_iast dX7_set_13 hA (vp_in_nI hj hn) ?_
      exact z_vreturn (mi := mX7_set) dX7_set_14 rfl (Nat.le_refl _) (Nat.le_refl _) (by rw [nI_clamp (by omega)]; exact hP)
set_option maxHeartbeats 4000000 in
set_option maxRecDepth 10000 in
theorem sX8_loss {Γ : zG} {d : Nat} {G : zH} {Post : zV} {ad : Nat → Nat} {σ : zSt} (hR : zRiv G ad σ) {s : Nat} (hs : s < 6) (hP : Post (some (.int (σ 0 s / 5 + σ 1 s))) G) : zM Γ (d + 1) mX8_loss 0 0 [.ref (ad 1), .int (nI s)] G Post := by
  refine zM_of pnX8 rfl (Nat.le_of_ble_eq_true rfl) rfl ?_
  refine z_aload_n dX8_loss_0 rfl ?_
  refine z_get dX8_loss_1 fX8_13.r (hR.1 _ (by decide)) rfl ?_
  refine z_iload_n dX8_loss_4 rfl ?_
  refine z_S2 (mi' := mX7_at) dX8_loss_5 lX8_36 nX7_at kX7_at (by decide) (Nat.le_of_ble_eq_true rfl) (Nat.le_refl _) (Nat.le_refl _) ?_
  refine sX7_at (hR.1 _ (by decide)) (by decide) hs ?_
  refine z_iconst (v := 5) dX8_loss_8 (by decide) ?_
  refine z_idiv dX8_loss_9 (by decide) ?_
  refine z_aload_n dX8_loss_10 rfl ?_
  refine z_get dX8_loss_11 fX8_17.r (hR.1 _ (by decide)) rfl ?_
  refine z_iload_n dX8_loss_14 rfl ?_
  refine z_S2 (mi' := mX7_at) dX8_loss_15 lX8_36 nX7_at kX7_at (by decide) (Nat.le_of_ble_eq_true rfl) (Nat.le_refl _) (Nat.le_refl _) ?_
  refine sX7_at (hR.1 _ (by decide)) (by decide) hs ?_
  refine z_iadd dX8_loss_18 ?_
  exact z_ireturn (mi := mX8_loss) dX8_loss_19 rfl rfl (Nat.le_refl _) (Nat.le_refl _) (hP)
