theorem zln_b {σ : zSt} {S F E K : Nat} {g : Nat → Int32} {mm : Nat → Nat} {fl : Nat → Nat → Nat} {Y : Int} (hL : zRel σ S F E K g mm fl) (hB : zBnd σ S F E K Y) (hD : zDis σ S F) (hY : Y ≤ 9999999) {s : Nat} (hs : s < S) : ∀ i, i ≤ mm s → (zln σ s i).length ≤ 2 + 11 * i
  | 0, _ => by
    have hS6 := hL.S6
    have l0 := zdg_len 0 s (by omega)
    rw [zln, List.length_append, List.length_singleton]
    omega
  | i + 1, h => by
    have ih := zln_b hL hB hD hY hs i (by omega)
    obtain ⟨k, hk, ek, ef, hf12⟩ := hL.nth hD hs (Nat.lt_of_succ_le h)
    have hfF := (hL.mk hs hk).1
    have hmk := (hL.on hs hf12).mpr ⟨k, hk, rfl⟩
    have b1 := (hB.2.2.2.2.1 s _ hs hfF hmk).1
    have b2 := (hB.2.1 _ hfF).1
    have c1 := znat_lt b1 (by decide) (n := 100) (by decide)
    have c2 := znat_lt b2 (by decide) (n := 10000000) (by omega)
    have l1 := zdg_len 1 (znat (σ 10 (12 * s + fl s k))) c1
    have l2 := zdg_len 6 (znat (σ 4 (fl s k))) c2
    rw [zln, zlnE, ef]
    simp only [List.length_append, List.length_cons, List.length_nil]
    omega
set_option maxHeartbeats 4000000 in
set_option maxRecDepth 10000 in
theorem sLaw_line {Γ : zG} {G : zH} {Post : zP} {ax : Nat → Nat} {bq m : Nat} {ρ : Nat → zSt} {γ : zSt} {am : Nat → Nat} {μ : zSt} {ou od i k n MC MS : Nat} {Y : Int} (hD : zLd G ax bq m ρ γ am μ ou od) (hW : zWd ρ γ μ m Y) (hY : Y ≤ 1000000) (hi : i + 4 ≤ Γ.2.2.2.2 103) (hlen : Γ.2.2.2.2 103 ≤ 2048) (hk9 : k + 32 ≤ MC) (hn9 : n + 6400 ≤ MS) (kk : ∀ G1 bq1 m1 ρ1 γ1 μ1, zLd G1 ax bq1 m1 ρ1 γ1 am μ1 ou od → zWd ρ1 γ1 μ1 m1 (Y + 1260) → zX Γ mL_law 10 MC MS 2304 [some (.ref (Γ.2.2.2.2 102)), some (.ref (ax 0)), some (.ref (am 0)), some (.ref ou), some (.ref od), some (.int (nI i)), none, none, none] [] G1 (k + 32) (n + 6400) Post) : zX Γ mL_law 10 MC MS 1892 [some (.ref (Γ.2.2.2.2 102)), some (.ref (ax 0)), some (.ref (am 0)), some (.ref ou), some (.ref od), some (.int (nI i)), none, none, none] [] G k n Post := by
  obtain ⟨hC, hM, ⟨f0, hO⟩, ⟨f0d, hOd⟩, hSp⟩ := id hD
  obtain ⟨⟨S, F, E, K, mm, fl, hL, hB, hDi⟩, hW2, ⟨nx, ct, hX, hct, hring⟩, hW4, hW5, ⟨nt, hn1, hn2, hn60, htx, hch⟩, ⟨tx, hBt, hTx, h80⟩, hW0⟩ := id hW
  have hc8 := hX.2.2.2
  have hS6 := hL.S6
  have hF12 := hL.F12
  have hK3 := hL.K3
  refine z_aload_n dL_law_1892 rfl ?_
  refine z_aload_n dL_law_1893 rfl ?_
  refine z_iload dL_law_1894 rfl ?_
  refine z_iconst (v := 1) dL_law_1896 (by decide) ?_
  refine z_iadd dL_law_1897 ?_
  refine z_sld dL_law_1898 (zscI (j := 1) (by omega) (by omega)) ?_
  refine z_aload_n dL_law_1899 rfl ?_
  refine z_callSW (mi' := mL_line) (As := [.ref (ax 0), .int _, .ref ou]) (mc' := 32) (ms' := 6400) (z := 3) dL_law_1900 lL_233 nL_line kgL_line9 (Nat.le_of_ble_eq_true rfl) rfl (Nat.le_of_ble_eq_true rfl) (by omega) (by omega) ?_
  refine sL_line (hC.1 0 (by decide)) (fun P hP => ?_)
  refine sX10_line hC hL.n hL hB hDi (by omega) hBt (fun s hs e8 G1 q1 m1 γ1 hLw => hP _ _ ?_) (fun h8 => hP _ _ ?_)
  · obtain ⟨hC1, hF1, hq1, a1, a2, a3⟩ := hLw
    have hD1 := hD.line hC1 hF1 hq1
    obtain ⟨f1, hO1⟩ := hD1.2.2.1
    refine Or.inl ⟨_, f1, rfl, hO1, ?_⟩
    refine zX_out hD1 (fun hD2 => ?_)
    have hM2 := hD2.2.1
    refine z_istore dL_law_1903 (by decide) rfl ?_
    refine z_aload_n dL_law_1905 rfl ?_
    refine z_aload_n dL_law_1906 rfl ?_
    refine z_iload dL_law_1907 rfl ?_
    refine z_iconst (v := 1) dL_law_1909 (by decide) ?_
    refine z_iadd dL_law_1910 ?_
    refine z_sld dL_law_1911 (zscI (j := 1) (by omega) (by omega)) ?_
    refine z_V1 (mi' := mX11_line) dL_law_1912 lL_235 nX11_line kX11_line (Nat.le_of_ble_eq_true rfl) (Nat.le_of_ble_eq_true rfl) (by omega) (by omega) (hD2.2.1.1 0 (by decide)) rfl rfl ?_
    refine sX11_line hM2 hL hB hDi (by omega) (fun s2 hs2 e9 G2 ν hM3 hF3 hWr => ?_) (fun h9 => absurd (by rw [e8, hL.n.1]; exact ⟨Int32.not_lt.mp (nI_pos (by omega)), (nI_ltI (by omega) (by omega)).mpr hs⟩) h9)
    obtain rfl : s2 = s := nI_inj (by omega) (by omega) (e9.symm.trans e8)
    have hD3 := hD2.mod hM3 hF3
    have hso := (hD2.seeO hF3).trans (zset_s _ _ _)
    refine z_istore dL_law_1915 (by decide) rfl ?_
    refine z_aload_n dL_law_1917 rfl ?_
    refine z_V0 (mi' := mX11_thrown) dL_law_1918 lL_139 nX11_thrown kX11_thrown (Nat.le_of_ble_eq_true rfl) (Nat.le_of_ble_eq_true rfl) (by omega) (by omega) (hD3.2.1.1 0 (by decide)) rfl rfl ?_
    refine sX11_thrown hD3.2.1 ?_
    rw [hWr.2.1 7 (by decide), zu_s]
    refine z_iload dL_law_1921 rfl ?_
    refine z_icmp_eq (tgt := 1928) dL_law_1923 (by decide) (fun _ => ?_) (fun c1 => absurd rfl c1)
    refine z_iload dL_law_1928 rfl ?_
    refine z_if_ne (tgt := 1945) dL_law_1930 (by decide) (fun c2 => absurd rfl c2) (fun _ => ?_)
    refine z_aload_n dL_law_1933 rfl ?_
    refine z_iconst (v := 0) dL_law_1934 (by decide) ?_
    refine z_lald dL_law_1935 hso (vp_in_nI (n := 0) (show 0 < 1 by decide) (by decide)) ?_
    refine z_iload dL_law_1936 rfl ?_
    refine z_i2l dL_law_1938 ?_
    refine z_lcmp dL_law_1939 ?_
    refine z_if_eq (tgt := 1945) dL_law_1940 (by decide) (fun _ => ?_) (fun c3 => absurd (zlcmp _) c3)
    refine z_goto (tgt := 2304) dL_law_1945 (by decide) ?_
    refine z_wid (k' := k + 32) (n' := n + 6400) (by omega) (by omega) ?_
    exact z_sub (lv' := [some (.ref (Γ.2.2.2.2 102)), some (.ref (ax 0)), some (.ref (am 0)), some (.ref ou), some (.ref od), some (.int (nI i)), none, none, none]) ⟨rfl, rfl, rfl, rfl, rfl, rfl, trivial⟩ (kk _ _ _ _ _ _ hD3 ((hW.line a1 a2 a3 hWr (by have := hL.m6 hs; have := zln_b hL hB hDi (by omega) hs (mm s2) (Nat.le_refl _); omega)).up (by omega)))
  · have hD2 := hD
    refine Or.inr ⟨_, 1, rfl, rfl, ?_⟩
    have hM2 := hD2.2.1
    refine z_istore dL_law_1903 (by decide) rfl ?_
    refine z_aload_n dL_law_1905 rfl ?_
    refine z_aload_n dL_law_1906 rfl ?_
    refine z_iload dL_law_1907 rfl ?_
    refine z_iconst (v := 1) dL_law_1909 (by decide) ?_
    refine z_iadd dL_law_1910 ?_
    refine z_sld dL_law_1911 (zscI (j := 1) (by omega) (by omega)) ?_
    refine z_V1 (mi' := mX11_line) dL_law_1912 lL_235 nX11_line kX11_line (Nat.le_of_ble_eq_true rfl) (Nat.le_of_ble_eq_true rfl) (by omega) (by omega) (hD2.2.1.1 0 (by decide)) rfl rfl ?_
    refine sX11_line hM2 hL hB hDi (by omega) (fun s2 hs2 e9 => absurd (by rw [e9, hL.n.1]; exact ⟨Int32.not_lt.mp (nI_pos (by omega)), (nI_ltI (by omega) (by omega)).mpr hs2⟩) h8) (fun h9 G2 hM3 hF3 => ?_)
    have hD3 := hD2.mod hM3 hF3
    refine z_istore dL_law_1915 (by decide) rfl ?_
    refine z_aload_n dL_law_1917 rfl ?_
    refine z_V0 (mi' := mX11_thrown) dL_law_1918 lL_139 nX11_thrown kX11_thrown (Nat.le_of_ble_eq_true rfl) (Nat.le_of_ble_eq_true rfl) (by omega) (by omega) (hD3.2.1.1 0 (by decide)) rfl rfl ?_
    refine sX11_thrown hD3.2.1 ?_
    rw [zu_s]
    refine z_iload dL_law_1921 rfl ?_
    refine z_icmp_eq (tgt := 1928) dL_law_1923 (by decide) (fun _ => ?_) (fun c1 => absurd rfl c1)
    refine z_iload dL_law_1928 rfl ?_
    refine z_if_ne (tgt := 1945) dL_law_1930 (by decide) (fun _ => ?_) (fun c2 => absurd c2 (by decide))
    refine z_goto (tgt := 2304) dL_law_1945 (by decide) ?_
    refine z_wid (k' := k + 32) (n' := n + 6400) (by omega) (by omega) ?_
    exact z_sub (lv' := [some (.ref (Γ.2.2.2.2 102)), some (.ref (ax 0)), some (.ref (am 0)), some (.ref ou), some (.ref od), some (.int (nI i)), none, none, none]) ⟨rfl, rfl, rfl, rfl, rfl, rfl, trivial⟩ (kk _ _ _ _ _ _ hD3 ((hW.seven 1).up (by omega)))
theorem zcx1 {σ σ8 σ9 : zSt} {E S : Nat} {l l9 : List (Int32 × List Int32)} {r : Int32 × Int32 × Nat} (e : l = l9) (h : zrun σ E S l 0 = (some r, σ8)) (h9 : zrun σ E S l9 0 = (none, σ9)) : False := by
  rw [e, h9] at h
  cases h
set_option maxHeartbeats 4000000 in
set_option maxRecDepth 10000 in
theorem sLaw_commands {Γ : zG} {G : zH} {Post : zP} {ax : Nat → Nat} {bq m : Nat} {ρ : Nat → zSt} {γ : zSt} {am : Nat → Nat} {μ : zSt} {ou od i k n MC MS : Nat} {Y : Int} (hD : zLd G ax bq m ρ γ am μ ou od) (hW : zWd ρ γ μ m Y) (hY : Y ≤ 1000000) (hi : i + 4 ≤ Γ.2.2.2.2 103) (hlen : Γ.2.2.2.2 103 ≤ 2048) (hk9 : k + 32 ≤ MC) (hn9 : n + 6400 ≤ MS) (kk : ∀ G1 bq1 m1 ρ1 γ1 μ1, zLd G1 ax bq1 m1 ρ1 γ1 am μ1 ou od → zWd ρ1 γ1 μ1 m1 (Y + 1260) → zX Γ mL_law 10 MC MS 2304 [some (.ref (Γ.2.2.2.2 102)), some (.ref (ax 0)), some (.ref (am 0)), some (.ref ou), some (.ref od), some (.int (nI i)), none, none, none] [] G1 (k + 32) (n + 6400) Post) : zX Γ mL_law 10 MC MS 1779 [some (.ref (Γ.2.2.2.2 102)), some (.ref (ax 0)), some (.ref (am 0)), some (.ref ou), some (.ref od), some (.int (nI i)), none, none, none] [] G k n Post := by
  obtain ⟨hC, hM, ⟨f0, hO⟩, ⟨f0d, hOd⟩, hSp⟩ := id hD
  obtain ⟨⟨S, F, E, K, mm, fl, hL, hB, hDi⟩, hW2, ⟨nx, ct, hX, hct, hring⟩, hW4, hW5, ⟨nt, hn1, hn2, hn60, htx, hch⟩, ⟨tx, hBt, hTx, h80⟩, hW0⟩ := id hW
  have hc8 := hX.2.2.2
  have hS6 := hL.S6
  have hF12 := hL.F12
  have hK3 := hL.K3
  refine z_aload_n dL_law_1779 rfl ?_
  refine z_aload_n dL_law_1780 rfl ?_
  refine z_callSW (mi' := mL_commands) (As := [.ref (ax 0), .ref ou]) (mc' := 1) (ms' := 6) (z := 2) dL_law_1781 lL_223 nL_commands kgL_commands9 (Nat.le_of_ble_eq_true rfl) rfl (Nat.le_of_ble_eq_true rfl) (by omega) (by omega) ?_
  refine sL_commands (hC.1 0 (by decide)) (fun P hP => ?_)
  refine sX10_commands hC hL.n hX hn1 hn60 rfl hch (fun q l hz hq G1 δ hC1 hF1 hδ => hP _ _ ?_) (fun l hz hwf hlen8 rn rd i8 σ8 hr G1 ρ8 δ hC1 hF1 hρ hδ => hP _ _ ?_) (fun l hz hwf hlen8 σ8 hr G1 δ hC1 hF1 hδ => hP _ _ ?_)
  · have hD2 := hD.cls hC1 hF1
    refine Or.inr ⟨_, 1, rfl, rfl, ?_⟩
    have hM2 := hD2.2.1
    refine z_istore dL_law_1784 (by decide) rfl ?_
    refine z_aload_n dL_law_1786 rfl ?_
    refine z_V0 (mi' := mX11_commands) dL_law_1787 lL_225 nX11_commands kX11_commands (Nat.le_of_ble_eq_true rfl) (Nat.le_of_ble_eq_true rfl) (by omega) (by omega) (hD2.2.1.1 0 (by decide)) rfl rfl ?_
    refine sX11_commands hM2 hL hB hDi hct hc8 hW0 (by omega) hn2 hn60 rfl (fun q9 l9 hz9 hq9 G2 ν hM3 hF3 hK hR h1 h6 h7 h13 h14 => ?_) (fun l9 hz9 => absurd (hz.symm.trans ((zscan_cg htx 60 0).trans hz9)) (by simp)) (fun l9 hz9 => absurd (hz.symm.trans ((zscan_cg htx 60 0).trans hz9)) (by simp))
    have hD3 := hD2.mod hM3 hF3
    refine z_istore dL_law_1790 (by decide) rfl ?_
    refine z_aload_n dL_law_1792 rfl ?_
    refine z_V0 (mi' := mX11_thrown) dL_law_1793 lL_139 nX11_thrown kX11_thrown (Nat.le_of_ble_eq_true rfl) (Nat.le_of_ble_eq_true rfl) (by omega) (by omega) (hD3.2.1.1 0 (by decide)) rfl rfl ?_
    refine sX11_thrown hD3.2.1 ?_
    rw [h7]
    refine z_iload dL_law_1796 rfl ?_
    refine z_icmp_eq (tgt := 1803) dL_law_1798 (by decide) (fun _ => ?_) (fun c1 => absurd rfl c1)
    refine z_iload dL_law_1803 rfl ?_
    refine z_if_ne (tgt := 1820) dL_law_1805 (by decide) (fun _ => ?_) (fun c2 => absurd c2 (by decide))
    refine z_goto (tgt := 2304) dL_law_1820 (by decide) ?_
    refine z_wid (k' := k + 32) (n' := n + 6400) (by omega) (by omega) ?_
    exact z_sub (lv' := [some (.ref (Γ.2.2.2.2 102)), some (.ref (ax 0)), some (.ref (am 0)), some (.ref ou), some (.ref od), some (.int (nI i)), none, none, none]) ⟨rfl, rfl, rfl, rfl, rfl, rfl, trivial⟩ (kk _ _ _ _ _ _ hD3 ((hW.cmdF hδ hK hR h1 h6 h13 (by rw [h14, Option.some.inj (congrArg Prod.fst (hz.symm.trans ((zscan_cg htx 60 0).trans hz9)))])).up (by omega)))
  · have hD2 := hD.cls hC1 hF1
    refine Or.inr ⟨_, 2, rfl, zcd_i2 (by decide), ?_⟩
    have hM2 := hD2.2.1
    refine z_istore dL_law_1784 (by decide) rfl ?_
    refine z_aload_n dL_law_1786 rfl ?_
    refine z_V0 (mi' := mX11_commands) dL_law_1787 lL_225 nX11_commands kX11_commands (Nat.le_of_ble_eq_true rfl) (Nat.le_of_ble_eq_true rfl) (by omega) (by omega) (hD2.2.1.1 0 (by decide)) rfl rfl ?_
    refine sX11_commands hM2 hL hB hDi hct hc8 hW0 (by omega) hn2 hn60 rfl (fun q9 l9 hz9 => absurd (hz.symm.trans ((zscan_cg htx 60 0).trans hz9)) (by simp)) (fun l9 hz9 hwf9 hlen9 rn9 rd9 i9 σ9 hr9 G2 ν hM3 hF3 hK v => ?_) (fun l9 hz9 hwf9 hlen9 σ9 hr9 => (zcx1 (congrArg Prod.snd (hz.symm.trans ((zscan_cg htx 60 0).trans hz9))) hr hr9).elim)
    obtain rfl : l = l9 := congrArg Prod.snd (hz.symm.trans ((zscan_cg htx 60 0).trans hz9))
    have hrr := Option.some.inj (congrArg Prod.fst (hr.symm.trans hr9))
    obtain ⟨rfl, rfl, rfl⟩ : rn = rn9 ∧ rd = rd9 ∧ i8 = i9 := ⟨congrArg Prod.fst hrr, congrArg (fun z => z.2.1) hrr, congrArg (fun z => z.2.2) hrr⟩
    have hD3 := hD2.mod hM3 hF3
    refine z_istore dL_law_1790 (by decide) rfl ?_
    refine z_aload_n dL_law_1792 rfl ?_
    refine z_V0 (mi' := mX11_thrown) dL_law_1793 lL_139 nX11_thrown kX11_thrown (Nat.le_of_ble_eq_true rfl) (Nat.le_of_ble_eq_true rfl) (by omega) (by omega) (hD3.2.1.1 0 (by decide)) rfl rfl ?_
    refine sX11_thrown hD3.2.1 ?_
    rw [hK.2.2.2.1]
    refine z_iload dL_law_1796 rfl ?_
    refine z_icmp_eq (tgt := 1803) dL_law_1798 (by decide) (fun _ => ?_) (fun c1 => absurd rfl c1)
    refine z_iload dL_law_1803 rfl ?_
    refine z_if_ne (tgt := 1820) dL_law_1805 (by decide) (fun _ => ?_) (fun c2 => absurd c2 (by decide))
    refine z_goto (tgt := 2304) dL_law_1820 (by decide) ?_
    refine z_wid (k' := k + 32) (n' := n + 6400) (by omega) (by omega) ?_
    exact z_sub (lv' := [some (.ref (Γ.2.2.2.2 102)), some (.ref (ax 0)), some (.ref (am 0)), some (.ref ou), some (.ref od), some (.int (nI i)), none, none, none]) ⟨rfl, rfl, rfl, rfl, rfl, rfl, trivial⟩ (kk _ _ _ _ _ _ hD3 ((hW.cmdR hρ hδ hK).up (by omega)))
  · have hD1 := hD.cls hC1 hF1
    obtain ⟨f1, hO1⟩ := hD1.2.2.1
    refine Or.inl ⟨_, f1, rfl, hO1, ?_⟩
    refine zX_out hD1 (fun hD2 => ?_)
    have hM2 := hD2.2.1
    refine z_istore dL_law_1784 (by decide) rfl ?_
    refine z_aload_n dL_law_1786 rfl ?_
    refine z_V0 (mi' := mX11_commands) dL_law_1787 lL_225 nX11_commands kX11_commands (Nat.le_of_ble_eq_true rfl) (Nat.le_of_ble_eq_true rfl) (by omega) (by omega) (hD2.2.1.1 0 (by decide)) rfl rfl ?_
    refine sX11_commands hM2 hL hB hDi hct hc8 hW0 (by omega) hn2 hn60 rfl (fun q9 l9 hz9 => absurd (hz.symm.trans ((zscan_cg htx 60 0).trans hz9)) (by simp)) (fun l9 hz9 hwf9 hlen9 rn9 rd9 i9 σ9 hr9 => (zcx1 (congrArg Prod.snd (hz.symm.trans ((zscan_cg htx 60 0).trans hz9))).symm hr9 hr).elim) (fun l9 hz9 hwf9 hlen9 σ9 hr9 G2 κ hM3 hF3 hK hT => ?_)
    obtain rfl : l = l9 := congrArg Prod.snd (hz.symm.trans ((zscan_cg htx 60 0).trans hz9))
    obtain rfl : σ8 = σ9 := congrArg Prod.snd (hr.symm.trans hr9)
    obtain ⟨mm9, fl9, hL9⟩ := hT
    have hb := zrunB l hL.n hB hDi (by omega) hr
    have hTT : zTie σ8 (κ 1) (Y + 1260) := ⟨S, F, E, K, mm9, fl9, hL9, hb.1.up (by omega), hb.2⟩
    have hD3 := hD2.mod hM3 hF3
    have hso := (hD2.seeO hF3).trans (zset_s _ _ _)
    refine z_istore dL_law_1790 (by decide) rfl ?_
    refine z_aload_n dL_law_1792 rfl ?_
    refine z_V0 (mi' := mX11_thrown) dL_law_1793 lL_139 nX11_thrown kX11_thrown (Nat.le_of_ble_eq_true rfl) (Nat.le_of_ble_eq_true rfl) (by omega) (by omega) (hD3.2.1.1 0 (by decide)) rfl rfl ?_
    refine sX11_thrown hD3.2.1 ?_
    rw [zmkeep_7]
    refine z_iload dL_law_1796 rfl ?_
    refine z_icmp_eq (tgt := 1803) dL_law_1798 (by decide) (fun _ => ?_) (fun c1 => absurd rfl c1)
    refine z_iload dL_law_1803 rfl ?_
    refine z_if_ne (tgt := 1820) dL_law_1805 (by decide) (fun c2 => absurd rfl c2) (fun _ => ?_)
    refine z_aload_n dL_law_1808 rfl ?_
    refine z_iconst (v := 0) dL_law_1809 (by decide) ?_
    refine z_lald dL_law_1810 hso (vp_in_nI (n := 0) (show 0 < 1 by decide) (by decide)) ?_
    refine z_iload dL_law_1811 rfl ?_
    refine z_i2l dL_law_1813 ?_
    refine z_lcmp dL_law_1814 ?_
    refine z_if_eq (tgt := 1820) dL_law_1815 (by decide) (fun _ => ?_) (fun c3 => absurd (zlcmp _) c3)
    refine z_goto (tgt := 2304) dL_law_1820 (by decide) ?_
    refine z_wid (k' := k + 32) (n' := n + 6400) (by omega) (by omega) ?_
    exact z_sub (lv' := [some (.ref (Γ.2.2.2.2 102)), some (.ref (ax 0)), some (.ref (am 0)), some (.ref ou), some (.ref od), some (.int (nI i)), none, none, none]) ⟨rfl, rfl, rfl, rfl, rfl, rfl, trivial⟩ (kk _ _ _ _ _ _ hD3 (hW.cmdO hX hδ hK hTT (by omega)))
