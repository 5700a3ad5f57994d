set_option maxHeartbeats 4000000 in
set_option maxRecDepth 10000 in
theorem sLaw_doubts {Γ : zG} {G : zH} {Post : zP} {ax : Nat → Nat} {bq m : Nat} {ρ : Nat → zSt} {γ : zSt} {am : Nat → Nat} {μ : zSt} {ou od i k n MC MS : Nat} {Y : Int} (hD : zLd G ax bq m ρ γ am μ ou od) (hW : zWd ρ γ μ m Y) (hY : Y ≤ 1000000) (hi : i + 4 ≤ Γ.2.2.2.2 103) (hlen : Γ.2.2.2.2 103 ≤ 2048) (hk9 : k + 32 ≤ MC) (hn9 : n + 6400 ≤ MS) (kk : ∀ G1 bq1 m1 ρ1 γ1 μ1, zLd G1 ax bq1 m1 ρ1 γ1 am μ1 ou od → zWd ρ1 γ1 μ1 m1 (Y + 1260) → zX Γ mL_law 10 MC MS 2304 [some (.ref (Γ.2.2.2.2 102)), some (.ref (ax 0)), some (.ref (am 0)), some (.ref ou), some (.ref od), some (.int (nI i)), none, none, none] [] G1 (k + 32) (n + 6400) Post) : zX Γ mL_law 10 MC MS 1695 [some (.ref (Γ.2.2.2.2 102)), some (.ref (ax 0)), some (.ref (am 0)), some (.ref ou), some (.ref od), some (.int (nI i)), none, none, none] [] G k n Post := by
  obtain ⟨hC, hM, ⟨f0, hO⟩, ⟨f0d, hOd⟩, hSp⟩ := id hD
  obtain ⟨⟨S, F, E, K, mm, fl, hL, hB, hDi⟩, hW2, ⟨nx, ct, hX, hct, hring⟩, hW4, hW5, ⟨nt, hn1, hn2, hn60, htx, hch⟩, ⟨tx, hBt, hTx, h80⟩, hW0⟩ := id hW
  have hc8 := hX.2.2.2
  refine z_aload_n dL_law_1695 rfl ?_
  refine z_V0 (mi' := mX10_doubts) dL_law_1696 lL_211 nX10_doubts kX10_doubts (Nat.le_of_ble_eq_true rfl) (Nat.le_of_ble_eq_true rfl) (by omega) (by omega) (hC.1 0 (by decide)) rfl rfl ?_
  refine sX10_doubts hC hL.n ?_
  have hD2 := hD
  refine z_aload_n dL_law_1699 rfl ?_
  refine z_V0 (mi' := mX11_doubts) dL_law_1700 lL_214 nX11_doubts kX11_doubts (Nat.le_of_ble_eq_true rfl) (Nat.le_of_ble_eq_true rfl) (by omega) (by omega) (hD2.2.1.1 0 (by decide)) rfl rfl ?_
  refine sX11_doubts hM hL hB (fun G2 hM3 hF3 => ?_)
  have hD3 := hD2.mod hM3 hF3
  refine z_icmp_eq (tgt := 2304) dL_law_1703 (by decide) (fun _ => ?_) (fun c1 => absurd rfl c1)
  refine z_wid (k' := k + 32) (n' := n + 6400) (by omega) (by omega) ?_
  exact z_sub (lv' := [some (.ref (Γ.2.2.2.2 102)), some (.ref (ax 0)), some (.ref (am 0)), some (.ref ou), some (.ref od), some (.int (nI i)), none, none, none]) ⟨rfl, rfl, rfl, rfl, rfl, rfl, trivial⟩ (kk _ _ _ _ _ _ hD3 ((hW.seven 0).up (by omega)))
set_option maxHeartbeats 4000000 in
set_option maxRecDepth 10000 in
theorem sLaw_doubtsAgain {Γ : zG} {G : zH} {Post : zP} {ax : Nat → Nat} {bq m : Nat} {ρ : Nat → zSt} {γ : zSt} {am : Nat → Nat} {μ : zSt} {ou od i k n MC MS : Nat} {Y : Int} (hD : zLd G ax bq m ρ γ am μ ou od) (hW : zWd ρ γ μ m Y) (hY : Y ≤ 1000000) (hi : i + 4 ≤ Γ.2.2.2.2 103) (hlen : Γ.2.2.2.2 103 ≤ 2048) (hk9 : k + 32 ≤ MC) (hn9 : n + 6400 ≤ MS) (kk : ∀ G1 bq1 m1 ρ1 γ1 μ1, zLd G1 ax bq1 m1 ρ1 γ1 am μ1 ou od → zWd ρ1 γ1 μ1 m1 (Y + 1260) → zX Γ mL_law 10 MC MS 2304 [some (.ref (Γ.2.2.2.2 102)), some (.ref (ax 0)), some (.ref (am 0)), some (.ref ou), some (.ref od), some (.int (nI i)), none, none, none] [] G1 (k + 32) (n + 6400) Post) : zX Γ mL_law 10 MC MS 1708 [some (.ref (Γ.2.2.2.2 102)), some (.ref (ax 0)), some (.ref (am 0)), some (.ref ou), some (.ref od), some (.int (nI i)), none, none, none] [] G k n Post := by
  obtain ⟨hC, hM, ⟨f0, hO⟩, ⟨f0d, hOd⟩, hSp⟩ := id hD
  obtain ⟨⟨S, F, E, K, mm, fl, hL, hB, hDi⟩, hW2, ⟨nx, ct, hX, hct, hring⟩, hW4, hW5, ⟨nt, hn1, hn2, hn60, htx, hch⟩, ⟨tx, hBt, hTx, h80⟩, hW0⟩ := id hW
  have hc8 := hX.2.2.2
  refine z_aload_n dL_law_1708 rfl ?_
  refine z_V0 (mi' := mX10_doubtsAgain) dL_law_1709 lL_215 nX10_doubtsAgain kX10_doubtsAgain (Nat.le_of_ble_eq_true rfl) (Nat.le_of_ble_eq_true rfl) (by omega) (by omega) (hC.1 0 (by decide)) rfl rfl ?_
  refine sX10_doubtsAgain hC hL.n ?_
  have hD2 := hD
  refine z_aload_n dL_law_1712 rfl ?_
  refine z_V0 (mi' := mX11_doubtsAgain) dL_law_1713 lL_218 nX11_doubtsAgain kX11_doubtsAgain (Nat.le_of_ble_eq_true rfl) (Nat.le_of_ble_eq_true rfl) (by omega) (by omega) (hD2.2.1.1 0 (by decide)) rfl rfl ?_
  refine sX11_doubtsAgain hM hL hB (fun G2 hM3 hF3 => ?_)
  have hD3 := hD2.mod hM3 hF3
  refine z_icmp_eq (tgt := 2304) dL_law_1716 (by decide) (fun _ => ?_) (fun c1 => absurd rfl c1)
  refine z_wid (k' := k + 32) (n' := n + 6400) (by omega) (by omega) ?_
  exact z_sub (lv' := [some (.ref (Γ.2.2.2.2 102)), some (.ref (ax 0)), some (.ref (am 0)), some (.ref ou), some (.ref od), some (.int (nI i)), none, none, none]) ⟨rfl, rfl, rfl, rfl, rfl, rfl, trivial⟩ (kk _ _ _ _ _ _ hD3 ((hW.seven 0).up (by omega)))
set_option maxHeartbeats 4000000 in
set_option maxRecDepth 10000 in
theorem sLaw_faultPosition {Γ : zG} {G : zH} {Post : zP} {ax : Nat → Nat} {bq m : Nat} {ρ : Nat → zSt} {γ : zSt} {am : Nat → Nat} {μ : zSt} {ou od i k n MC MS : Nat} {Y : Int} (hD : zLd G ax bq m ρ γ am μ ou od) (hW : zWd ρ γ μ m Y) (hY : Y ≤ 1000000) (hi : i + 4 ≤ Γ.2.2.2.2 103) (hlen : Γ.2.2.2.2 103 ≤ 2048) (hk9 : k + 32 ≤ MC) (hn9 : n + 6400 ≤ MS) (kk : ∀ G1 bq1 m1 ρ1 γ1 μ1, zLd G1 ax bq1 m1 ρ1 γ1 am μ1 ou od → zWd ρ1 γ1 μ1 m1 (Y + 1260) → zX Γ mL_law 10 MC MS 2304 [some (.ref (Γ.2.2.2.2 102)), some (.ref (ax 0)), some (.ref (am 0)), some (.ref ou), some (.ref od), some (.int (nI i)), none, none, none] [] G1 (k + 32) (n + 6400) Post) : zX Γ mL_law 10 MC MS 1823 [some (.ref (Γ.2.2.2.2 102)), some (.ref (ax 0)), some (.ref (am 0)), some (.ref ou), some (.ref od), some (.int (nI i)), none, none, none] [] G k n Post := by
  obtain ⟨hC, hM, ⟨f0, hO⟩, ⟨f0d, hOd⟩, hSp⟩ := id hD
  obtain ⟨⟨S, F, E, K, mm, fl, hL, hB, hDi⟩, hW2, ⟨nx, ct, hX, hct, hring⟩, hW4, hW5, ⟨nt, hn1, hn2, hn60, htx, hch⟩, ⟨tx, hBt, hTx, h80⟩, hW0⟩ := id hW
  have hc8 := hX.2.2.2
  refine z_aload_n dL_law_1823 rfl ?_
  refine z_V0 (mi' := mX10_faultPosition) dL_law_1824 lL_226 nX10_faultPosition kX10_faultPosition (Nat.le_of_ble_eq_true rfl) (Nat.le_of_ble_eq_true rfl) (by omega) (by omega) (hC.1 0 (by decide)) rfl rfl ?_
  refine sX10_faultPosition hC hL.n ?_
  have hD2 := hD
  refine z_aload_n dL_law_1827 rfl ?_
  refine z_V0 (mi' := mX11_faultPosition) dL_law_1828 lL_229 nX11_faultPosition kX11_faultPosition (Nat.le_of_ble_eq_true rfl) (Nat.le_of_ble_eq_true rfl) (by omega) (by omega) (hD2.2.1.1 0 (by decide)) rfl rfl ?_
  refine sX11_faultPosition hM (fun G2 hM3 hF3 => ?_)
  have hD3 := hD2.mod hM3 hF3
  rw [hW5]
  refine z_icmp_eq (tgt := 2304) dL_law_1831 (by decide) (fun _ => ?_) (fun c1 => absurd rfl c1)
  refine z_wid (k' := k + 32) (n' := n + 6400) (by omega) (by omega) ?_
  exact z_sub (lv' := [some (.ref (Γ.2.2.2.2 102)), some (.ref (ax 0)), some (.ref (am 0)), some (.ref ou), some (.ref od), some (.int (nI i)), none, none, none]) ⟨rfl, rfl, rfl, rfl, rfl, rfl, trivial⟩ (kk _ _ _ _ _ _ hD3 ((hW.seven 0).up (by omega)))
set_option maxHeartbeats 4000000 in
set_option maxRecDepth 10000 in
theorem sLaw_save {Γ : zG} {G : zH} {Post : zP} {ax : Nat → Nat} {bq m : Nat} {ρ : Nat → zSt} {γ : zSt} {am : Nat → Nat} {μ : zSt} {ou od i k n MC MS : Nat} {Y : Int} (hD : zLd G ax bq m ρ γ am μ ou od) (hW : zWd ρ γ μ m Y) (hY : Y ≤ 1000000) (hi : i + 4 ≤ Γ.2.2.2.2 103) (hlen : Γ.2.2.2.2 103 ≤ 2048) (hk9 : k + 32 ≤ MC) (hn9 : n + 6400 ≤ MS) (kk : ∀ G1 bq1 m1 ρ1 γ1 μ1, zLd G1 ax bq1 m1 ρ1 γ1 am μ1 ou od → zWd ρ1 γ1 μ1 m1 (Y + 1260) → zX Γ mL_law 10 MC MS 2304 [some (.ref (Γ.2.2.2.2 102)), some (.ref (ax 0)), some (.ref (am 0)), some (.ref ou), some (.ref od), some (.int (nI i)), none, none, none] [] G1 (k + 32) (n + 6400) Post) : zX Γ mL_law 10 MC MS 2247 [some (.ref (Γ.2.2.2.2 102)), some (.ref (ax 0)), some (.ref (am 0)), some (.ref ou), some (.ref od), some (.int (nI i)), none, none, none] [] G k n Post := by
  obtain ⟨hC, hM, ⟨f0, hO⟩, ⟨f0d, hOd⟩, hSp⟩ := id hD
  obtain ⟨⟨S, F, E, K, mm, fl, hL, hB, hDi⟩, hW2, ⟨nx, ct, hX, hct, hring⟩, hW4, hW5, ⟨nt, hn1, hn2, hn60, htx, hch⟩, ⟨tx, hBt, hTx, h80⟩, hW0⟩ := id hW
  have hc8 := hX.2.2.2
  refine z_aload_n dL_law_2247 rfl ?_
  refine z_V0 (mi' := mX10_save) dL_law_2248 lL_253 nX10_save kX10_save (Nat.le_of_ble_eq_true rfl) (Nat.le_of_ble_eq_true rfl) (by omega) (by omega) (hC.1 0 (by decide)) rfl rfl ?_
  refine sX10_save hC (fun G1 hC1 hF1 => ?_)
  have hD2 := hD.cls hC1 hF1
  refine z_aload_n dL_law_2251 rfl ?_
  refine z_V0 (mi' := mX11_save) dL_law_2252 lL_256 nX11_save kX11_save (Nat.le_of_ble_eq_true rfl) (Nat.le_of_ble_eq_true rfl) (by omega) (by omega) (hD2.2.1.1 0 (by decide)) rfl rfl ?_
  refine sX11_save hD2.2.1 (fun G2 hM3 hF3 => ?_)
  have hD3 := hD2.mod hM3 hF3
  rw [hL.sc.1]
  refine z_icmp_eq (tgt := 2304) dL_law_2255 (by decide) (fun _ => ?_) (fun c1 => absurd rfl c1)
  refine z_wid (k' := k + 32) (n' := n + 6400) (by omega) (by omega) ?_
  exact z_sub (lv' := [some (.ref (Γ.2.2.2.2 102)), some (.ref (ax 0)), some (.ref (am 0)), some (.ref ou), some (.ref od), some (.int (nI i)), none, none, none]) ⟨rfl, rfl, rfl, rfl, rfl, rfl, trivial⟩ (kk _ _ _ _ _ _ hD3 (hW.save.up (by omega)))
set_option maxHeartbeats 4000000 in
set_option maxRecDepth 10000 in
theorem sLaw_undo {Γ : zG} {G : zH} {Post : zP} {ax : Nat → Nat} {bq m : Nat} {ρ : Nat → zSt} {γ : zSt} {am : Nat → Nat} {μ : zSt} {ou od i k n MC MS : Nat} {Y : Int} (hD : zLd G ax bq m ρ γ am μ ou od) (hW : zWd ρ γ μ m Y) (hY : Y ≤ 1000000) (hi : i + 4 ≤ Γ.2.2.2.2 103) (hlen : Γ.2.2.2.2 103 ≤ 2048) (hk9 : k + 32 ≤ MC) (hn9 : n + 6400 ≤ MS) (kk : ∀ G1 bq1 m1 ρ1 γ1 μ1, zLd G1 ax bq1 m1 ρ1 γ1 am μ1 ou od → zWd ρ1 γ1 μ1 m1 (Y + 1260) → zX Γ mL_law 10 MC MS 2304 [some (.ref (Γ.2.2.2.2 102)), some (.ref (ax 0)), some (.ref (am 0)), some (.ref ou), some (.ref od), some (.int (nI i)), none, none, none] [] G1 (k + 32) (n + 6400) Post) : zX Γ mL_law 10 MC MS 2203 [some (.ref (Γ.2.2.2.2 102)), some (.ref (ax 0)), some (.ref (am 0)), some (.ref ou), some (.ref od), some (.int (nI i)), none, none, none] [] G k n Post := by
  obtain ⟨hC, hM, ⟨f0, hO⟩, ⟨f0d, hOd⟩, hSp⟩ := id hD
  obtain ⟨⟨S, F, E, K, mm, fl, hL, hB, hDi⟩, hW2, ⟨nx, ct, hX, hct, hring⟩, hW4, hW5, ⟨nt, hn1, hn2, hn60, htx, hch⟩, ⟨tx, hBt, hTx, h80⟩, hW0⟩ := id hW
  have hc8 := hX.2.2.2
  have hS6 := hL.S6
  have hF12 := hL.F12
  have hK3 := hL.K3
  refine z_aload_n dL_law_2203 rfl ?_
  refine z_aload_n dL_law_2204 rfl ?_
  refine z_callSW (mi' := mL_undo) (As := [.ref (ax 0), .ref ou]) (mc' := 1) (ms' := 6) (z := 2) dL_law_2205 lL_250 nL_undo kgL_undo9 (Nat.le_of_ble_eq_true rfl) rfl (Nat.le_of_ble_eq_true rfl) (by omega) (by omega) ?_
  refine sL_undo (hC.1 0 (by decide)) (fun P hP => ?_)
  refine sX10_undo hC hX (fun h0 G1 hC1 hF1 => hP _ _ ?_) (fun h0 => hP _ _ ?_)
  · have hD1 := hD.cls hC1 hF1
    obtain ⟨f1, hO1⟩ := hD1.2.2.1
    refine Or.inl ⟨_, f1, rfl, hO1, ?_⟩
    refine zX_out hD1 (fun hD2 => ?_)
    have hM2 := hD2.2.1
    refine z_istore dL_law_2208 (by decide) rfl ?_
    refine z_aload_n dL_law_2210 rfl ?_
    refine z_V0 (mi' := mX11_undo) dL_law_2211 lL_252 nX11_undo kX11_undo (Nat.le_of_ble_eq_true rfl) (Nat.le_of_ble_eq_true rfl) (by omega) (by omega) (hD2.2.1.1 0 (by decide)) rfl rfl ?_
    refine sX11_undo hM2 hct hc8 (fun h09 G2 hM3 hF3 => ?_) (fun h09 => absurd h09 (by omega))
    have hD3 := hD2.mod hM3 hF3
    have hso := (hD2.seeO hF3).trans (zset_s _ _ _)
    refine z_istore dL_law_2214 (by decide) rfl ?_
    refine z_aload_n dL_law_2216 rfl ?_
    refine z_V0 (mi' := mX11_thrown) dL_law_2217 lL_139 nX11_thrown kX11_thrown (Nat.le_of_ble_eq_true rfl) (Nat.le_of_ble_eq_true rfl) (by omega) (by omega) (hD3.2.1.1 0 (by decide)) rfl rfl ?_
    refine sX11_thrown hD3.2.1 ?_
    rw [zrw_n (show (0 : Nat) ≠ 1 by decide), zu_j (show (7 : Nat) ≠ 5 by decide), zu_s]
    refine z_iload dL_law_2220 rfl ?_
    refine z_icmp_eq (tgt := 2227) dL_law_2222 (by decide) (fun _ => ?_) (fun c1 => absurd rfl c1)
    refine z_iload dL_law_2227 rfl ?_
    refine z_if_ne (tgt := 2244) dL_law_2229 (by decide) (fun c2 => absurd rfl c2) (fun _ => ?_)
    refine z_aload_n dL_law_2232 rfl ?_
    refine z_iconst (v := 0) dL_law_2233 (by decide) ?_
    refine z_lald dL_law_2234 hso (vp_in_nI (n := 0) (show 0 < 1 by decide) (by decide)) ?_
    refine z_iload dL_law_2235 rfl ?_
    refine z_i2l dL_law_2237 ?_
    refine z_lcmp dL_law_2238 ?_
    refine z_if_eq (tgt := 2244) dL_law_2239 (by decide) (fun _ => ?_) (fun c3 => absurd (zlcmp _) c3)
    refine z_goto (tgt := 2304) dL_law_2244 (by decide) ?_
    refine z_wid (k' := k + 32) (n' := n + 6400) (by omega) (by omega) ?_
    exact z_sub (lv' := [some (.ref (Γ.2.2.2.2 102)), some (.ref (ax 0)), some (.ref (am 0)), some (.ref ou), some (.ref od), some (.int (nI i)), none, none, none]) ⟨rfl, rfl, rfl, rfl, rfl, rfl, trivial⟩ (kk _ _ _ _ _ _ hD3 ((hW.undo hX h0).up (by omega)))
  · have hD2 := hD
    refine Or.inr ⟨_, 1, rfl, rfl, ?_⟩
    have hM2 := hD2.2.1
    refine z_istore dL_law_2208 (by decide) rfl ?_
    refine z_aload_n dL_law_2210 rfl ?_
    refine z_V0 (mi' := mX11_undo) dL_law_2211 lL_252 nX11_undo kX11_undo (Nat.le_of_ble_eq_true rfl) (Nat.le_of_ble_eq_true rfl) (by omega) (by omega) (hD2.2.1.1 0 (by decide)) rfl rfl ?_
    refine sX11_undo hM2 hct hc8 (fun h09 => absurd h09 (by omega)) (fun h09 G2 hM3 hF3 => ?_)
    have hD3 := hD2.mod hM3 hF3
    refine z_istore dL_law_2214 (by decide) rfl ?_
    refine z_aload_n dL_law_2216 rfl ?_
    refine z_V0 (mi' := mX11_thrown) dL_law_2217 lL_139 nX11_thrown kX11_thrown (Nat.le_of_ble_eq_true rfl) (Nat.le_of_ble_eq_true rfl) (by omega) (by omega) (hD3.2.1.1 0 (by decide)) rfl rfl ?_
    refine sX11_thrown hD3.2.1 ?_
    rw [zu_s]
    refine z_iload dL_law_2220 rfl ?_
    refine z_icmp_eq (tgt := 2227) dL_law_2222 (by decide) (fun _ => ?_) (fun c1 => absurd rfl c1)
    refine z_iload dL_law_2227 rfl ?_
    refine z_if_ne (tgt := 2244) dL_law_2229 (by decide) (fun _ => ?_) (fun c2 => absurd c2 (by decide))
    refine z_goto (tgt := 2304) dL_law_2244 (by decide) ?_
    refine z_wid (k' := k + 32) (n' := n + 6400) (by omega) (by omega) ?_
    exact z_sub (lv' := [some (.ref (Γ.2.2.2.2 102)), some (.ref (ax 0)), some (.ref (am 0)), some (.ref ou), some (.ref od), some (.int (nI i)), none, none, none]) ⟨rfl, rfl, rfl, rfl, rfl, rfl, trivial⟩ (kk _ _ _ _ _ _ hD3 ((hW.seven 1).up (by omega)))
set_option maxHeartbeats 4000000 in
set_option maxRecDepth 10000 in
theorem sLaw_restore {Γ : zG} {G : zH} {Post : zP} {ax : Nat → Nat} {bq m : Nat} {ρ : Nat → zSt} {γ : zSt} {am : Nat → Nat} {μ : zSt} {ou od i k n MC MS : Nat} {Y : Int} (hD : zLd G ax bq m ρ γ am μ ou od) (hW : zWd ρ γ μ m Y) (hY : Y ≤ 1000000) (hi : i + 4 ≤ Γ.2.2.2.2 103) (hlen : Γ.2.2.2.2 103 ≤ 2048) (hk9 : k + 32 ≤ MC) (hn9 : n + 6400 ≤ MS) (kk : ∀ G1 bq1 m1 ρ1 γ1 μ1, zLd G1 ax bq1 m1 ρ1 γ1 am μ1 ou od → zWd ρ1 γ1 μ1 m1 (Y + 1260) → zX Γ mL_law 10 MC MS 2304 [some (.ref (Γ.2.2.2.2 102)), some (.ref (ax 0)), some (.ref (am 0)), some (.ref ou), some (.ref od), some (.int (nI i)), none, none, none] [] G1 (k + 32) (n + 6400) Post) : zX Γ mL_law 10 MC MS 2260 [some (.ref (Γ.2.2.2.2 102)), some (.ref (ax 0)), some (.ref (am 0)), some (.ref ou), some (.ref od), some (.int (nI i)), none, none, none] [] G k n Post := by
  obtain ⟨hC, hM, ⟨f0, hO⟩, ⟨f0d, hOd⟩, hSp⟩ := id hD
  obtain ⟨⟨S, F, E, K, mm, fl, hL, hB, hDi⟩, hW2, ⟨nx, ct, hX, hct, hring⟩, hW4, hW5, ⟨nt, hn1, hn2, hn60, htx, hch⟩, ⟨tx, hBt, hTx, h80⟩, hW0⟩ := id hW
  have hc8 := hX.2.2.2
  have hS6 := hL.S6
  have hF12 := hL.F12
  have hK3 := hL.K3
  refine z_aload_n dL_law_2260 rfl ?_
  refine z_aload_n dL_law_2261 rfl ?_
  refine z_callSW (mi' := mL_restore) (As := [.ref (ax 0), .ref ou]) (mc' := 1) (ms' := 6) (z := 2) dL_law_2262 lL_257 nL_restore kgL_restore9 (Nat.le_of_ble_eq_true rfl) rfl (Nat.le_of_ble_eq_true rfl) (by omega) (by omega) ?_
  refine sL_restore (hC.1 0 (by decide)) (fun P hP => ?_)
  refine sX10_restore hC (fun h0 G1 hC1 hF1 => hP _ _ ?_) (fun h0 => hP _ _ ?_)
  · have hD1 := hD.cls hC1 hF1
    obtain ⟨f1, hO1⟩ := hD1.2.2.1
    refine Or.inl ⟨_, f1, rfl, hO1, ?_⟩
    refine zX_out hD1 (fun hD2 => ?_)
    have hM2 := hD2.2.1
    refine z_istore dL_law_2265 (by decide) rfl ?_
    refine z_aload_n dL_law_2267 rfl ?_
    refine z_V0 (mi' := mX11_restore) dL_law_2268 lL_259 nX11_restore kX11_restore (Nat.le_of_ble_eq_true rfl) (Nat.le_of_ble_eq_true rfl) (by omega) (by omega) (hD2.2.1.1 0 (by decide)) rfl rfl ?_
    refine sX11_restore hM2 (fun h09 G2 hM3 hF3 => ?_) (fun h09 => absurd (hW2.1.trans h09) h0)
    have he9 : μ 3 0 = ρ 2 13 0 := by
      obtain ⟨S9, F9, E9, K9, mm9, fl9, hL9, -⟩ := hW2.2 h0
      exact hL9.sc.1
    rw [he9]
    have hD3 := hD2.mod hM3 hF3
    have hso := (hD2.seeO hF3).trans (zset_s _ _ _)
    refine z_istore dL_law_2271 (by decide) rfl ?_
    refine z_aload_n dL_law_2273 rfl ?_
    refine z_V0 (mi' := mX11_thrown) dL_law_2274 lL_139 nX11_thrown kX11_thrown (Nat.le_of_ble_eq_true rfl) (Nat.le_of_ble_eq_true rfl) (by omega) (by omega) (hD3.2.1.1 0 (by decide)) rfl rfl ?_
    refine sX11_thrown hD3.2.1 ?_
    rw [zu_j (show (7 : Nat) ≠ 5 by decide), zrw_n (show (0 : Nat) ≠ 1 by decide), zu_s]
    refine z_iload dL_law_2277 rfl ?_
    refine z_icmp_eq (tgt := 2284) dL_law_2279 (by decide) (fun _ => ?_) (fun c1 => absurd rfl c1)
    refine z_iload dL_law_2284 rfl ?_
    refine z_if_ne (tgt := 2301) dL_law_2286 (by decide) (fun c2 => absurd rfl c2) (fun _ => ?_)
    refine z_aload_n dL_law_2289 rfl ?_
    refine z_iconst (v := 0) dL_law_2290 (by decide) ?_
    refine z_lald dL_law_2291 hso (vp_in_nI (n := 0) (show 0 < 1 by decide) (by decide)) ?_
    refine z_iload dL_law_2292 rfl ?_
    refine z_i2l dL_law_2294 ?_
    refine z_lcmp dL_law_2295 ?_
    refine z_if_eq (tgt := 2301) dL_law_2296 (by decide) (fun _ => ?_) (fun c3 => absurd (zlcmp _) c3)
    refine z_goto (tgt := 2304) dL_law_2301 (by decide) ?_
    refine z_wid (k' := k + 32) (n' := n + 6400) (by omega) (by omega) ?_
    exact z_sub (lv' := [some (.ref (Γ.2.2.2.2 102)), some (.ref (ax 0)), some (.ref (am 0)), some (.ref ou), some (.ref od), some (.int (nI i)), none, none, none]) ⟨rfl, rfl, rfl, rfl, rfl, rfl, trivial⟩ (kk _ _ _ _ _ _ hD3 ((hW.restore h0).up (by omega)))
  · have hD2 := hD
    refine Or.inr ⟨_, 1, rfl, rfl, ?_⟩
    have hM2 := hD2.2.1
    refine z_istore dL_law_2265 (by decide) rfl ?_
    refine z_aload_n dL_law_2267 rfl ?_
    refine z_V0 (mi' := mX11_restore) dL_law_2268 lL_259 nX11_restore kX11_restore (Nat.le_of_ble_eq_true rfl) (Nat.le_of_ble_eq_true rfl) (by omega) (by omega) (hD2.2.1.1 0 (by decide)) rfl rfl ?_
    refine sX11_restore hM2 (fun h09 => absurd (hW2.1.symm.trans h0) h09) (fun h09 G2 hM3 hF3 => ?_)
    have hD3 := hD2.mod hM3 hF3
    refine z_istore dL_law_2271 (by decide) rfl ?_
    refine z_aload_n dL_law_2273 rfl ?_
    refine z_V0 (mi' := mX11_thrown) dL_law_2274 lL_139 nX11_thrown kX11_thrown (Nat.le_of_ble_eq_true rfl) (Nat.le_of_ble_eq_true rfl) (by omega) (by omega) (hD3.2.1.1 0 (by decide)) rfl rfl ?_
    refine sX11_thrown hD3.2.1 ?_
    rw [zu_s]
    refine z_iload dL_law_2277 rfl ?_
    refine z_icmp_eq (tgt := 2284) dL_law_2279 (by decide) (fun _ => ?_) (fun c1 => absurd rfl c1)
    refine z_iload dL_law_2284 rfl ?_
    refine z_if_ne (tgt := 2301) dL_law_2286 (by decide) (fun _ => ?_) (fun c2 => absurd c2 (by decide))
    refine z_goto (tgt := 2304) dL_law_2301 (by decide) ?_
    refine z_wid (k' := k + 32) (n' := n + 6400) (by omega) (by omega) ?_
    exact z_sub (lv' := [some (.ref (Γ.2.2.2.2 102)), some (.ref (ax 0)), some (.ref (am 0)), some (.ref ou), some (.ref od), some (.int (nI i)), none, none, none]) ⟨rfl, rfl, rfl, rfl, rfl, rfl, trivial⟩ (kk _ _ _ _ _ _ hD3 ((hW.seven 1).up (by omega)))
set_option maxHeartbeats 4000000 in
set_option maxRecDepth 10000 in
theorem sLaw_character {Γ : zG} {G : zH} {Post : zP} {ax : Nat → Nat} {bq m : Nat} {ρ : Nat → zSt} {γ : zSt} {am : Nat → Nat} {μ : zSt} {ou od i k n MC MS : Nat} {Y : Int} (hD : zLd G ax bq m ρ γ am μ ou od) (hW : zWd ρ γ μ m Y) (hY : Y ≤ 1000000) (hi : i + 4 ≤ Γ.2.2.2.2 103) (hlen : Γ.2.2.2.2 103 ≤ 2048) (hk9 : k + 32 ≤ MC) (hn9 : n + 6400 ≤ MS) (kk : ∀ G1 bq1 m1 ρ1 γ1 μ1, zLd G1 ax bq1 m1 ρ1 γ1 am μ1 ou od → zWd ρ1 γ1 μ1 m1 (Y + 1260) → zX Γ mL_law 10 MC MS 2304 [some (.ref (Γ.2.2.2.2 102)), some (.ref (ax 0)), some (.ref (am 0)), some (.ref ou), some (.ref od), some (.int (nI i)), none, none, none] [] G1 (k + 32) (n + 6400) Post) : zX Γ mL_law 10 MC MS 1948 [some (.ref (Γ.2.2.2.2 102)), some (.ref (ax 0)), some (.ref (am 0)), some (.ref ou), some (.ref od), some (.int (nI i)), none, none, none] [] G k n Post := by
  obtain ⟨hC, hM, ⟨f0, hO⟩, ⟨f0d, hOd⟩, hSp⟩ := id hD
  obtain ⟨⟨S, F, E, K, mm, fl, hL, hB, hDi⟩, hW2, ⟨nx, ct, hX, hct, hring⟩, hW4, hW5, ⟨nt, hn1, hn2, hn60, htx, hch⟩, ⟨tx, hBt, hTx, h80⟩, hW0⟩ := id hW
  have hc8 := hX.2.2.2
  have hS6 := hL.S6
  have hF12 := hL.F12
  have hK3 := hL.K3
  refine z_aload_n dL_law_1948 rfl ?_
  refine z_aload_n dL_law_1949 rfl ?_
  refine z_iload dL_law_1950 rfl ?_
  refine z_iconst (v := 1) dL_law_1952 (by decide) ?_
  refine z_iadd dL_law_1953 ?_
  refine z_sld dL_law_1954 (zscI (j := 1) (by omega) (by omega)) ?_
  refine z_aload_n dL_law_1955 rfl ?_
  refine z_callSW (mi' := mL_character) (As := [.ref (ax 0), .int _, .ref ou]) (mc' := 1) (ms' := 6) (z := 3) dL_law_1956 lL_236 nL_character kgL_character9 (Nat.le_of_ble_eq_true rfl) rfl (Nat.le_of_ble_eq_true rfl) (by omega) (by omega) ?_
  refine sL_character (hC.1 0 (by decide)) (fun P hP => ?_)
  refine sX10_character hC hBt (fun i8 hi8 e8 => hP _ _ ?_) (fun h8 => hP _ _ ?_)
  · have hD1 := hD
    obtain ⟨f1, hO1⟩ := hD1.2.2.1
    refine Or.inl ⟨_, f1, rfl, hO1, ?_⟩
    refine zX_out hD1 (fun hD2 => ?_)
    have hM2 := hD2.2.1
    refine z_istore dL_law_1959 (by decide) rfl ?_
    refine z_aload_n dL_law_1961 rfl ?_
    refine z_aload_n dL_law_1962 rfl ?_
    refine z_iload dL_law_1963 rfl ?_
    refine z_iconst (v := 1) dL_law_1965 (by decide) ?_
    refine z_iadd dL_law_1966 ?_
    refine z_sld dL_law_1967 (zscI (j := 1) (by omega) (by omega)) ?_
    refine z_V1 (mi' := mX11_character) dL_law_1968 lL_238 nX11_character kX11_character (Nat.le_of_ble_eq_true rfl) (Nat.le_of_ble_eq_true rfl) (by omega) (by omega) (hD2.2.1.1 0 (by decide)) rfl rfl ?_
    refine sX11_character hM2 hTx h80 (fun i9 hi9 e9 G2 hM3 hF3 => ?_) (fun h9 => absurd (by rw [e8]; exact ⟨Int32.not_lt.mp (nI_pos (by omega)), (nI_ltI (by omega) (by omega)).mpr hi8⟩) h9)
    obtain rfl : i9 = i8 := nI_inj (by omega) (by omega) (e9.symm.trans e8)
    have hD3 := hD2.mod hM3 hF3
    have hso := (hD2.seeO hF3).trans (zset_s _ _ _)
    refine z_istore dL_law_1971 (by decide) rfl ?_
    refine z_aload_n dL_law_1973 rfl ?_
    refine z_V0 (mi' := mX11_thrown) dL_law_1974 lL_139 nX11_thrown kX11_thrown (Nat.le_of_ble_eq_true rfl) (Nat.le_of_ble_eq_true rfl) (by omega) (by omega) (hD3.2.1.1 0 (by decide)) rfl rfl ?_
    refine sX11_thrown hD3.2.1 ?_
    rw [zu_s]
    refine z_iload dL_law_1977 rfl ?_
    refine z_icmp_eq (tgt := 1984) dL_law_1979 (by decide) (fun _ => ?_) (fun c1 => absurd rfl c1)
    refine z_iload dL_law_1984 rfl ?_
    refine z_if_ne (tgt := 2001) dL_law_1986 (by decide) (fun c2 => absurd rfl c2) (fun _ => ?_)
    refine z_aload_n dL_law_1989 rfl ?_
    refine z_iconst (v := 0) dL_law_1990 (by decide) ?_
    refine z_lald dL_law_1991 hso (vp_in_nI (n := 0) (show 0 < 1 by decide) (by decide)) ?_
    refine z_iload dL_law_1992 rfl ?_
    refine z_i2l dL_law_1994 ?_
    refine z_lcmp dL_law_1995 ?_
    refine z_if_eq (tgt := 2001) dL_law_1996 (by decide) (fun _ => ?_) (fun c3 => absurd (zlcmp _) c3)
    refine z_goto (tgt := 2304) dL_law_2001 (by decide) ?_
    refine z_wid (k' := k + 32) (n' := n + 6400) (by omega) (by omega) ?_
    exact z_sub (lv' := [some (.ref (Γ.2.2.2.2 102)), some (.ref (ax 0)), some (.ref (am 0)), some (.ref ou), some (.ref od), some (.int (nI i)), none, none, none]) ⟨rfl, rfl, rfl, rfl, rfl, rfl, trivial⟩ (kk _ _ _ _ _ _ hD3 ((hW.seven 0).up (by omega)))
  · have hD2 := hD
    refine Or.inr ⟨_, 1, rfl, rfl, ?_⟩
    have hM2 := hD2.2.1
    refine z_istore dL_law_1959 (by decide) rfl ?_
    refine z_aload_n dL_law_1961 rfl ?_
    refine z_aload_n dL_law_1962 rfl ?_
    refine z_iload dL_law_1963 rfl ?_
    refine z_iconst (v := 1) dL_law_1965 (by decide) ?_
    refine z_iadd dL_law_1966 ?_
    refine z_sld dL_law_1967 (zscI (j := 1) (by omega) (by omega)) ?_
    refine z_V1 (mi' := mX11_character) dL_law_1968 lL_238 nX11_character kX11_character (Nat.le_of_ble_eq_true rfl) (Nat.le_of_ble_eq_true rfl) (by omega) (by omega) (hD2.2.1.1 0 (by decide)) rfl rfl ?_
    refine sX11_character hM2 hTx h80 (fun i9 hi9 e9 => absurd (by rw [e9]; exact ⟨Int32.not_lt.mp (nI_pos (by omega)), (nI_ltI (by omega) (by omega)).mpr hi9⟩) h8) (fun h9 G2 hM3 hF3 => ?_)
    have hD3 := hD2.mod hM3 hF3
    refine z_istore dL_law_1971 (by decide) rfl ?_
    refine z_aload_n dL_law_1973 rfl ?_
    refine z_V0 (mi' := mX11_thrown) dL_law_1974 lL_139 nX11_thrown kX11_thrown (Nat.le_of_ble_eq_true rfl) (Nat.le_of_ble_eq_true rfl) (by omega) (by omega) (hD3.2.1.1 0 (by decide)) rfl rfl ?_
    refine sX11_thrown hD3.2.1 ?_
    rw [zu_s]
    refine z_iload dL_law_1977 rfl ?_
    refine z_icmp_eq (tgt := 1984) dL_law_1979 (by decide) (fun _ => ?_) (fun c1 => absurd rfl c1)
    refine z_iload dL_law_1984 rfl ?_
    refine z_if_ne (tgt := 2001) dL_law_1986 (by decide) (fun _ => ?_) (fun c2 => absurd c2 (by decide))
    refine z_goto (tgt := 2304) dL_law_2001 (by decide) ?_
    refine z_wid (k' := k + 32) (n' := n + 6400) (by omega) (by omega) ?_
    exact z_sub (lv' := [some (.ref (Γ.2.2.2.2 102)), some (.ref (ax 0)), some (.ref (am 0)), some (.ref ou), some (.ref od), some (.int (nI i)), none, none, none]) ⟨rfl, rfl, rfl, rfl, rfl, rfl, trivial⟩ (kk _ _ _ _ _ _ hD3 ((hW.seven 1).up (by omega)))
