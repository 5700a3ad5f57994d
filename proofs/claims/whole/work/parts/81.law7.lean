theorem zchr1 (v : Int32) : vp_nar .char (v.toUInt32 % 65536).toInt32 = (v.toUInt32 % 65536).toInt32 := by
  show ((v.toUInt32 % 65536).toInt32.toUInt32 % 65536).toInt32 = _
  have h : v.toUInt32 % 65536 % 65536 = v.toUInt32 % 65536 := UInt32.toNat_inj.mp (by rw [UInt32.toNat_mod, UInt32.toNat_mod]; exact Nat.mod_mod _ _)
  simp [h]
theorem zchr2 (v : Int32) : narrow FieldType.char (.int (v.toUInt32 % 65536).toInt32) = .int (v.toUInt32 % 65536).toInt32 := congrArg Value.int (zchr1 v)
set_option maxHeartbeats 4000000 in
set_option maxRecDepth 10000 in
theorem sLaw_append {Γ : zG} {G : zH} {Post : zP} {ax : Nat → Nat} {bq m : Nat} {ρ : Nat → zSt} {γ : zSt} {am : Nat → Nat} {μ : zSt} {ou od i k n MC MS : Nat} {Y : Int} (hD : zLd G ax bq m ρ γ am μ ou od) (hW : zWd ρ γ μ m Y) (hY : Y ≤ 1000000) (hi : i + 4 ≤ Γ.2.2.2.2 103) (hlen : Γ.2.2.2.2 103 ≤ 2048) (hk9 : k + 32 ≤ MC) (hn9 : n + 6400 ≤ MS) (kk : ∀ G1 bq1 m1 ρ1 γ1 μ1, zLd G1 ax bq1 m1 ρ1 γ1 am μ1 ou od → zWd ρ1 γ1 μ1 m1 (Y + 1260) → zX Γ mL_law 10 MC MS 2304 [some (.ref (Γ.2.2.2.2 102)), some (.ref (ax 0)), some (.ref (am 0)), some (.ref ou), some (.ref od), some (.int (nI i)), none, none, none] [] G1 (k + 32) (n + 6400) Post) : zX Γ mL_law 10 MC MS 1721 [some (.ref (Γ.2.2.2.2 102)), some (.ref (ax 0)), some (.ref (am 0)), some (.ref ou), some (.ref od), some (.int (nI i)), none, none, none] [] G k n Post := by
  obtain ⟨hC, hM, ⟨f0, hO⟩, ⟨f0d, hOd⟩, hSp⟩ := id hD
  obtain ⟨⟨S, F, E, K, mm, fl, hL, hB, hDi⟩, hW2, ⟨nx, ct, hX, hct, hring⟩, hW4, hW5, ⟨nt, hn1, hn2, hn60, htx, hch⟩, ⟨tx, hBt, hTx, h80⟩, hW0⟩ := id hW
  have hc8 := hX.2.2.2
  have hS6 := hL.S6
  have hF12 := hL.F12
  have hK3 := hL.K3
  refine z_aload_n dL_law_1721 rfl ?_
  refine z_aload_n dL_law_1722 rfl ?_
  refine z_iload dL_law_1723 rfl ?_
  refine z_iconst (v := 1) dL_law_1725 (by decide) ?_
  refine z_iadd dL_law_1726 ?_
  refine z_sld dL_law_1727 (zscI (j := 1) (by omega) (by omega)) ?_
  refine z_i2c dL_law_1728 ?_
  refine z_aload_n dL_law_1729 rfl ?_
  refine z_callSW (mi' := mL_append) (As := [.ref (ax 0), .int _, .ref ou]) (mc' := 1) (ms' := 6) (z := 3) dL_law_1730 lL_219 nL_append kgL_append9 (Nat.le_of_ble_eq_true rfl) rfl (Nat.le_of_ble_eq_true rfl) (by omega) (by omega) ?_
  refine sL_append (hC.1 0 (by decide)) (fun P hP => ?_)
  refine sX10_append hC hn1 hn60 (fun h0 G1 hC1 hF1 => hP _ _ ?_) (fun h0 => hP _ _ ?_)
  · have hD1 := hD.cls hC1 hF1
    obtain ⟨f1, hO1⟩ := hD1.2.2.1
    refine Or.inl ⟨_, f1, rfl, hO1, ?_⟩
    refine zX_out hD1 (fun hD2 => ?_)
    have hM2 := hD2.2.1
    refine z_istore dL_law_1733 (by decide) rfl ?_
    refine z_aload_n dL_law_1735 rfl ?_
    refine z_aload_n dL_law_1736 rfl ?_
    refine z_iload dL_law_1737 rfl ?_
    refine z_iconst (v := 1) dL_law_1739 (by decide) ?_
    refine z_iadd dL_law_1740 ?_
    refine z_sld dL_law_1741 (zscI (j := 1) (by omega) (by omega)) ?_
    refine z_i2c dL_law_1742 ?_
    refine z_V1 (mi' := mX11_append) dL_law_1743 lL_222 nX11_append kX11_append (Nat.le_of_ble_eq_true rfl) (Nat.le_of_ble_eq_true rfl) (by omega) (by omega) (hD2.2.1.1 0 (by decide)) rfl rfl ?_
    refine sX11_append hM2 hn2 hn60 (fun h09 G2 hM3 hF3 => ?_) (fun h09 => absurd h09 (by omega))
    have hD3 := hD2.mod hM3 hF3
    have hso := (hD2.seeO hF3).trans (zset_s _ _ _)
    refine z_istore dL_law_1746 (by decide) rfl ?_
    refine z_aload_n dL_law_1748 rfl ?_
    refine z_V0 (mi' := mX11_thrown) dL_law_1749 lL_139 nX11_thrown kX11_thrown (Nat.le_of_ble_eq_true rfl) (Nat.le_of_ble_eq_true rfl) (by omega) (by omega) (hD3.2.1.1 0 (by decide)) rfl rfl ?_
    refine sX11_thrown hD3.2.1 ?_
    rw [zu_j (show (7 : Nat) ≠ 13 by decide), zu_r (show (0 : Nat) ≠ 5 by decide), zu_s]
    refine z_iload dL_law_1752 rfl ?_
    refine z_icmp_eq (tgt := 1759) dL_law_1754 (by decide) (fun _ => ?_) (fun c1 => absurd rfl c1)
    refine z_iload dL_law_1759 rfl ?_
    refine z_if_ne (tgt := 1776) dL_law_1761 (by decide) (fun c2 => absurd rfl c2) (fun _ => ?_)
    refine z_aload_n dL_law_1764 rfl ?_
    refine z_iconst (v := 0) dL_law_1765 (by decide) ?_
    refine z_lald dL_law_1766 hso (vp_in_nI (n := 0) (show 0 < 1 by decide) (by decide)) ?_
    refine z_iload dL_law_1767 rfl ?_
    refine z_i2l dL_law_1769 ?_
    refine z_lcmp dL_law_1770 ?_
    refine z_if_eq (tgt := 1776) dL_law_1771 (by decide) (fun _ => ?_) (fun c3 => absurd (zlcmp _) c3)
    refine z_goto (tgt := 2304) dL_law_1776 (by decide) ?_
    refine z_wid (k' := k + 32) (n' := n + 6400) (by omega) (by omega) ?_
    exact z_sub (lv' := [some (.ref (Γ.2.2.2.2 102)), some (.ref (ax 0)), some (.ref (am 0)), some (.ref ou), some (.ref od), some (.int (nI i)), none, none, none]) ⟨rfl, rfl, rfl, rfl, rfl, rfl, trivial⟩ (kk _ _ _ _ _ _ hD3 ((hW.app hn1 h0 (zchr2 _) (zchr1 _)).up (by omega)))
  · have hD2 := hD
    refine Or.inr ⟨_, 1, rfl, rfl, ?_⟩
    have hM2 := hD2.2.1
    refine z_istore dL_law_1733 (by decide) rfl ?_
    refine z_aload_n dL_law_1735 rfl ?_
    refine z_aload_n dL_law_1736 rfl ?_
    refine z_iload dL_law_1737 rfl ?_
    refine z_iconst (v := 1) dL_law_1739 (by decide) ?_
    refine z_iadd dL_law_1740 ?_
    refine z_sld dL_law_1741 (zscI (j := 1) (by omega) (by omega)) ?_
    refine z_i2c dL_law_1742 ?_
    refine z_V1 (mi' := mX11_append) dL_law_1743 lL_222 nX11_append kX11_append (Nat.le_of_ble_eq_true rfl) (Nat.le_of_ble_eq_true rfl) (by omega) (by omega) (hD2.2.1.1 0 (by decide)) rfl rfl ?_
    refine sX11_append hM2 hn2 hn60 (fun h09 => absurd h09 (by omega)) (fun h09 G2 hM3 hF3 => ?_)
    have hD3 := hD2.mod hM3 hF3
    refine z_istore dL_law_1746 (by decide) rfl ?_
    refine z_aload_n dL_law_1748 rfl ?_
    refine z_V0 (mi' := mX11_thrown) dL_law_1749 lL_139 nX11_thrown kX11_thrown (Nat.le_of_ble_eq_true rfl) (Nat.le_of_ble_eq_true rfl) (by omega) (by omega) (hD3.2.1.1 0 (by decide)) rfl rfl ?_
    refine sX11_thrown hD3.2.1 ?_
    rw [zu_s]
    refine z_iload dL_law_1752 rfl ?_
    refine z_icmp_eq (tgt := 1759) dL_law_1754 (by decide) (fun _ => ?_) (fun c1 => absurd rfl c1)
    refine z_iload dL_law_1759 rfl ?_
    refine z_if_ne (tgt := 1776) dL_law_1761 (by decide) (fun _ => ?_) (fun c2 => absurd c2 (by decide))
    refine z_goto (tgt := 2304) dL_law_1776 (by decide) ?_
    refine z_wid (k' := k + 32) (n' := n + 6400) (by omega) (by omega) ?_
    exact z_sub (lv' := [some (.ref (Γ.2.2.2.2 102)), some (.ref (ax 0)), some (.ref (am 0)), some (.ref ou), some (.ref od), some (.int (nI i)), none, none, none]) ⟨rfl, rfl, rfl, rfl, rfl, rfl, trivial⟩ (kk _ _ _ _ _ _ hD3 ((hW.seven 1).up (by omega)))
theorem zis_ranked {σ : zSt} {E F S : Nat} {x : Int32} : zisI [zNS] (zoRanked σ E F S x) := by
  unfold zoRanked
  repeat' first | refine zisI_ite ?_ ?_ | exact zisI_v | exact zisI_e zcd_i1 (by decide)
set_option maxHeartbeats 4000000 in
set_option maxRecDepth 10000 in
theorem sLaw_ranked {Γ : zG} {G : zH} {Post : zP} {ax : Nat → Nat} {bq m : Nat} {ρ : Nat → zSt} {γ : zSt} {am : Nat → Nat} {μ : zSt} {ou od i k n MC MS : Nat} {Y : Int} (hD : zLd G ax bq m ρ γ am μ ou od) (hW : zWd ρ γ μ m Y) (hY : Y ≤ 1000000) (hi : i + 4 ≤ Γ.2.2.2.2 103) (hlen : Γ.2.2.2.2 103 ≤ 2048) (hk9 : k + 32 ≤ MC) (hn9 : n + 6400 ≤ MS) (kk : ∀ G1 bq1 m1 ρ1 γ1 μ1, zLd G1 ax bq1 m1 ρ1 γ1 am μ1 ou od → zWd ρ1 γ1 μ1 m1 (Y + 1260) → zX Γ mL_law 10 MC MS 2304 [some (.ref (Γ.2.2.2.2 102)), some (.ref (ax 0)), some (.ref (am 0)), some (.ref ou), some (.ref od), some (.int (nI i)), none, none, none] [] G1 (k + 32) (n + 6400) Post) : zX Γ mL_law 10 MC MS 1639 [some (.ref (Γ.2.2.2.2 102)), some (.ref (ax 0)), some (.ref (am 0)), some (.ref ou), some (.ref od), some (.int (nI i)), none, none, none] [] G k n Post := by
  obtain ⟨hC, hM, ⟨f0, hO⟩, ⟨f0d, hOd⟩, hSp⟩ := id hD
  obtain ⟨⟨S, F, E, K, mm, fl, hL, hB, hDi⟩, hW2, ⟨nx, ct, hX, hct, hring⟩, hW4, hW5, ⟨nt, hn1, hn2, hn60, htx, hch⟩, ⟨tx, hBt, hTx, h80⟩, hW0⟩ := id hW
  have hc8 := hX.2.2.2
  refine z_aload_n dL_law_1639 rfl ?_
  refine z_aload_n dL_law_1640 rfl ?_
  refine z_iload dL_law_1641 rfl ?_
  refine z_iconst (v := 1) dL_law_1643 (by decide) ?_
  refine z_iadd dL_law_1644 ?_
  refine z_sld dL_law_1645 (zscI (j := 1) (by omega) (by omega)) ?_
  refine z_aload_n dL_law_1646 rfl ?_
  refine z_callSW (mi' := mL_ranked) (As := [.ref (ax 0), .int _, .ref ou]) (mc' := 1) (ms' := 6) (z := 3) dL_law_1647 lL_208 nL_ranked kgL_ranked9 (Nat.le_of_ble_eq_true rfl) rfl (Nat.le_of_ble_eq_true rfl) (by omega) (by omega) ?_
  refine sL_ranked (hC.1 0 (by decide)) (fun P hP => ?_)
  refine sX10_ranked hC hL.n hB (by omega) (fun o G1 γ9 ho hC1 h4 hF1 => hP _ _ ?_)
  rw [ho]
  have hD1 := hD.cls hC1 hF1
  have hW1 := hW.row4 h4
  rcases zis_ranked with ⟨v, e9⟩ | ⟨E9, c9, e9, hc9, hne9⟩
  · obtain ⟨f1, hO1⟩ := hD1.2.2.1
    refine Or.inl ⟨v, f1, e9, hO1, ?_⟩
    refine zX_out hD1 (fun hD2 => ?_)
    have hM2 := hD2.2.1
    refine z_istore dL_law_1650 (by decide) rfl ?_
    refine z_aload_n dL_law_1652 rfl ?_
    refine z_aload_n dL_law_1653 rfl ?_
    refine z_iload dL_law_1654 rfl ?_
    refine z_iconst (v := 1) dL_law_1656 (by decide) ?_
    refine z_iadd dL_law_1657 ?_
    refine z_sld dL_law_1658 (zscI (j := 1) (by omega) (by omega)) ?_
    refine z_V1 (mi' := mX11_ranked) dL_law_1659 lL_210 nX11_ranked kX11_ranked (Nat.le_of_ble_eq_true rfl) (Nat.le_of_ble_eq_true rfl) (by omega) (by omega) (hD2.2.1.1 0 (by decide)) rfl rfl ?_
    refine sX11_ranked hM2 hL (fun r c G2 hz hM3 hF3 => ?_)
    have hD3 := hD2.mod hM3 hF3
    rw [e9] at hz
    obtain ⟨rfl, rfl⟩ := hz
    have hso := (hD2.seeO hF3).trans (zset_s _ _ _)
    refine z_istore dL_law_1662 (by decide) rfl ?_
    refine z_aload_n dL_law_1664 rfl ?_
    refine z_V0 (mi' := mX11_thrown) dL_law_1665 lL_139 nX11_thrown kX11_thrown (Nat.le_of_ble_eq_true rfl) (Nat.le_of_ble_eq_true rfl) (by omega) (by omega) (hD3.2.1.1 0 (by decide)) rfl rfl ?_
    refine sX11_thrown hD3.2.1 ?_
    rw [zu_s]
    refine z_iload dL_law_1668 rfl ?_
    refine z_icmp_eq (tgt := 1675) dL_law_1670 (by decide) (fun _ => ?_) (fun c1 => absurd rfl c1)
    refine z_iload dL_law_1675 rfl ?_
    refine z_if_ne (tgt := 1692) dL_law_1677 (by decide) (fun c2 => absurd rfl c2) (fun _ => ?_)
    refine z_aload_n dL_law_1680 rfl ?_
    refine z_iconst (v := 0) dL_law_1681 (by decide) ?_
    refine z_lald dL_law_1682 hso (vp_in_nI (n := 0) (show 0 < 1 by decide) (by decide)) ?_
    refine z_iload dL_law_1683 rfl ?_
    refine z_i2l dL_law_1685 ?_
    refine z_lcmp dL_law_1686 ?_
    refine z_if_eq (tgt := 1692) dL_law_1687 (by decide) (fun _ => ?_) (fun c3 => absurd (zlcmp _) c3)
    refine z_goto (tgt := 2304) dL_law_1692 (by decide) ?_
    refine z_wid (k' := k + 32) (n' := n + 6400) (by omega) (by omega) ?_
    exact z_sub (lv' := [some (.ref (Γ.2.2.2.2 102)), some (.ref (ax 0)), some (.ref (am 0)), some (.ref ou), some (.ref od), some (.int (nI i)), none, none, none]) ⟨rfl, rfl, rfl, rfl, rfl, rfl, trivial⟩ (kk _ _ _ _ _ _ hD3 ((hW1.seven 0).up (by omega)))
  · refine Or.inr ⟨E9, c9, e9, hc9, ?_⟩
    have hD2 := hD1
    have hM2 := hD2.2.1
    refine z_istore dL_law_1650 (by decide) rfl ?_
    refine z_aload_n dL_law_1652 rfl ?_
    refine z_aload_n dL_law_1653 rfl ?_
    refine z_iload dL_law_1654 rfl ?_
    refine z_iconst (v := 1) dL_law_1656 (by decide) ?_
    refine z_iadd dL_law_1657 ?_
    refine z_sld dL_law_1658 (zscI (j := 1) (by omega) (by omega)) ?_
    refine z_V1 (mi' := mX11_ranked) dL_law_1659 lL_210 nX11_ranked kX11_ranked (Nat.le_of_ble_eq_true rfl) (Nat.le_of_ble_eq_true rfl) (by omega) (by omega) (hD2.2.1.1 0 (by decide)) rfl rfl ?_
    refine sX11_ranked hM2 hL (fun r c G2 hz hM3 hF3 => ?_)
    have hD3 := hD2.mod hM3 hF3
    rw [e9] at hz
    obtain rfl : c = c9 := Option.some.inj (hz.symm.trans hc9)
    refine z_istore dL_law_1662 (by decide) rfl ?_
    refine z_aload_n dL_law_1664 rfl ?_
    refine z_V0 (mi' := mX11_thrown) dL_law_1665 lL_139 nX11_thrown kX11_thrown (Nat.le_of_ble_eq_true rfl) (Nat.le_of_ble_eq_true rfl) (by omega) (by omega) (hD3.2.1.1 0 (by decide)) rfl rfl ?_
    refine sX11_thrown hD3.2.1 ?_
    rw [zu_s]
    refine z_iload dL_law_1668 rfl ?_
    refine z_icmp_eq (tgt := 1675) dL_law_1670 (by decide) (fun _ => ?_) (fun c1 => absurd rfl c1)
    refine z_iload dL_law_1675 rfl ?_
    refine z_if_ne (tgt := 1692) dL_law_1677 (by decide) (fun _ => ?_) (fun c2 => absurd c2 hne9)
    refine z_goto (tgt := 2304) dL_law_1692 (by decide) ?_
    refine z_wid (k' := k + 32) (n' := n + 6400) (by omega) (by omega) ?_
    exact z_sub (lv' := [some (.ref (Γ.2.2.2.2 102)), some (.ref (ax 0)), some (.ref (am 0)), some (.ref ou), some (.ref od), some (.int (nI i)), none, none, none]) ⟨rfl, rfl, rfl, rfl, rfl, rfl, trivial⟩ (kk _ _ _ _ _ _ hD3 ((hW1.seven _).up (by omega)))
