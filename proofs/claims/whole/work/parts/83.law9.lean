theorem zis_rises {σ : zSt} {E F : Nat} {x : Int32} : zisI [zIO] (zoRises σ E F x) := by
  unfold zoRises
  repeat' first | refine zisI_ite ?_ ?_ | exact zisI_v | exact zisI_e zcd_i1 (by decide)
/-- an answer: a double, or one of the exceptions that the law catches -/
def zisD (cs : List String) (o : zO) : Prop := (∃ v, o = .inl (some (.double v))) ∨ ∃ E c, o = .inr E ∧ zcd E cs 1 = some c ∧ c ≠ 0
theorem zis_estimate {σ : zSt} {E F S : Nat} {x : Int32} : zisD [zIO, zAE] (zoEst σ E F S x) := by
  unfold zoEst
  by_cases h1 : ¬ (0 ≤ x ∧ x < σ 13 2)
  · rw [if_pos h1]
    exact Or.inr ⟨_, 1, rfl, zcd_i1, by decide⟩
  · rw [if_neg h1]
    by_cases h2 : nI (zct (fun s => zmk σ s x.toNatClampNeg) 6) = 0
    · rw [if_pos h2]
      exact Or.inr ⟨_, 2, rfl, zcd_i2 (by decide), by decide⟩
    · rw [if_neg h2]
      exact Or.inl ⟨_, rfl⟩
theorem zfpM : ∀ n, n < 61 → ∀ c, c < 3 → vf_n64 (FP.f2d (FP.fdiv (FP.i2f (nI n)) (FP.i2f (nI (c + 1))))) ∧ Op.cmpValue (FP.dcmp (FP.f2d (FP.fdiv (FP.i2f (nI n)) (FP.i2f (nI (c + 1))))) (FP.f2d (FP.fdiv (FP.i2f (nI n)) (FP.i2f (nI (c + 1)))))) .l = 0 := by
  unfold vf_n64
  decide +kernel
theorem zis_meanEdge {σ : zSt} {S F E K : Nat} {Y : Int} (hB : zBnd σ S F E K Y) (hN : zN σ S F E K) : (∃ v, zoMean σ K = .inl (some (.float v)) ∧ vf_n64 (FP.f2d v) ∧ Op.cmpValue (FP.dcmp (FP.f2d v) (FP.f2d v)) .l = 0) ∨ (zoMean σ K = .inr zAE) := by
  unfold zoMean
  by_cases h2 : σ 13 4 = 0
  · rw [if_pos h2]
    exact Or.inr rfl
  · rw [if_neg h2]
    have hK3 := hN.2.2.2.2.2.2.2
    rw [hN.2.2.2.2.2.2.1] at h2 ⊢
    have hK0 : K ≠ 0 := fun z => h2 (by rw [z]; rfl)
    have hb := hB.edges hK3 K (Nat.le_refl K)
    obtain ⟨j, hj, ej⟩ := nI_of (x := zsumI (σ 9) K) (fun z => by have := Int32.lt_iff_toInt_lt.mp z; rw [z0I] at this; have := hb.1; omega)
    obtain ⟨c, rfl⟩ : ∃ c, K = c + 1 := ⟨K - 1, by omega⟩
    have hj6 : j < 61 := by have := nI_toInt hj; have h9 := hb.2; rw [ej] at h9; omega
    rw [ej]
    exact Or.inl ⟨_, rfl, zfpM j hj6 c (by omega)⟩
set_option maxHeartbeats 4000000 in
set_option maxRecDepth 10000 in
theorem sLaw_rises {Γ : zG} {G : zH} {Post : zP} {ax : Nat → Nat} {bq m : Nat} {ρ : Nat → zSt} {γ : zSt} {am : Nat → Nat} {μ : zSt} {ou od i k n MC MS : Nat} {Y : Int} (hD : zLd G ax bq m ρ γ am μ ou od) (hW : zWd ρ γ μ m Y) (hY : Y ≤ 1000000) (hi : i + 4 ≤ Γ.2.2.2.2 103) (hlen : Γ.2.2.2.2 103 ≤ 2048) (hk9 : k + 32 ≤ MC) (hn9 : n + 6400 ≤ MS) (kk : ∀ G1 bq1 m1 ρ1 γ1 μ1, zLd G1 ax bq1 m1 ρ1 γ1 am μ1 ou od → zWd ρ1 γ1 μ1 m1 (Y + 1260) → zX Γ mL_law 10 MC MS 2304 [some (.ref (Γ.2.2.2.2 102)), some (.ref (ax 0)), some (.ref (am 0)), some (.ref ou), some (.ref od), some (.int (nI i)), none, none, none] [] G1 (k + 32) (n + 6400) Post) : zX Γ mL_law 10 MC MS 1576 [some (.ref (Γ.2.2.2.2 102)), some (.ref (ax 0)), some (.ref (am 0)), some (.ref ou), some (.ref od), some (.int (nI i)), none, none, none] [] G k n Post := by
  obtain ⟨hC, hM, ⟨f0, hO⟩, ⟨f0d, hOd⟩, hSp⟩ := id hD
  obtain ⟨⟨S, F, E, K, mm, fl, hL, hB, hDi⟩, hW2, ⟨nx, ct, hX, hct, hring⟩, hW4, hW5, ⟨nt, hn1, hn2, hn60, htx, hch⟩, ⟨tx, hBt, hTx, h80⟩, hW0⟩ := id hW
  have hc8 := hX.2.2.2
  refine z_aload_n dL_law_1576 rfl ?_
  refine z_aload_n dL_law_1577 rfl ?_
  refine z_iload dL_law_1578 rfl ?_
  refine z_iconst (v := 1) dL_law_1580 (by decide) ?_
  refine z_iadd dL_law_1581 ?_
  refine z_sld dL_law_1582 (zscI (j := 1) (by omega) (by omega)) ?_
  refine z_aload_n dL_law_1583 rfl ?_
  refine z_callSW (mi' := mL_rises) (As := [.ref (ax 0), .int _, .ref ou]) (mc' := 1) (ms' := 6) (z := 3) dL_law_1584 lL_205 nL_rises kgL_rises9 (Nat.le_of_ble_eq_true rfl) rfl (Nat.le_of_ble_eq_true rfl) (by omega) (by omega) ?_
  refine sL_rises (hC.1 0 (by decide)) (fun P hP => ?_)
  refine sX10_rises hC hL.n (hP _ _ ?_)
  rcases zis_rises with ⟨v, e9⟩ | ⟨E9, c9, e9, hc9, hne9⟩
  · refine Or.inl ⟨v, f0, e9, hO, ?_⟩
    refine zX_out hD (fun hD2 => ?_)
    have hM2 := hD2.2.1
    refine z_istore dL_law_1587 (by decide) rfl ?_
    refine z_aload_n dL_law_1589 rfl ?_
    refine z_aload_n dL_law_1590 rfl ?_
    refine z_iload dL_law_1591 rfl ?_
    refine z_iconst (v := 1) dL_law_1593 (by decide) ?_
    refine z_iadd dL_law_1594 ?_
    refine z_sld dL_law_1595 (zscI (j := 1) (by omega) (by omega)) ?_
    refine z_V1 (mi' := mX11_rises) dL_law_1596 lL_207 nX11_rises kX11_rises (Nat.le_of_ble_eq_true rfl) (Nat.le_of_ble_eq_true rfl) (by omega) (by omega) (hD2.2.1.1 0 (by decide)) rfl rfl ?_
    refine sX11_rises hM2 hL hB (fun r c G2 hz hM3 hF3 => ?_)
    have hD3 := hD2.mod hM3 hF3
    rw [e9] at hz
    obtain ⟨rfl, rfl⟩ := hz
    have hso := (hD2.seeO hF3).trans (zset_s _ _ _)
    refine z_istore dL_law_1599 (by decide) rfl ?_
    refine z_aload_n dL_law_1601 rfl ?_
    refine z_V0 (mi' := mX11_thrown) dL_law_1602 lL_139 nX11_thrown kX11_thrown (Nat.le_of_ble_eq_true rfl) (Nat.le_of_ble_eq_true rfl) (by omega) (by omega) (hD3.2.1.1 0 (by decide)) rfl rfl ?_
    refine sX11_thrown hD3.2.1 ?_
    rw [zu_s]
    refine z_iload dL_law_1605 rfl ?_
    refine z_icmp_eq (tgt := 1612) dL_law_1607 (by decide) (fun _ => ?_) (fun c1 => absurd rfl c1)
    refine z_iload dL_law_1612 rfl ?_
    refine z_if_ne (tgt := 1636) dL_law_1614 (by decide) (fun c2 => absurd rfl c2) (fun _ => ?_)
    refine z_aload_n dL_law_1617 rfl ?_
    refine z_iconst (v := 0) dL_law_1618 (by decide) ?_
    refine z_lald dL_law_1619 hso (vp_in_nI (n := 0) (show 0 < 1 by decide) (by decide)) ?_
    refine z_iload dL_law_1620 rfl ?_
    refine z_if_eq (tgt := 1629) dL_law_1622 (by decide) (fun cv => ?_) (fun cv => ?_)
    · refine z_lconst (v := 0) dL_law_1629 (by decide) ?_
      refine z_lcmp dL_law_1630 ?_
      refine z_if_eq (tgt := 1636) dL_law_1631 (by decide) (fun _ => ?_) (fun c3 => absurd (by
          show lg_cmp (if _ = 0 then 0 else 1) _ = 0
          rw [if_pos cv]
          exact zlcmp _) c3)
      refine z_goto (tgt := 2304) dL_law_1636 (by decide) ?_
      refine z_wid (k' := k + 32) (n' := n + 6400) (by omega) (by omega) ?_
      exact z_sub (lv' := [some (.ref (Γ.2.2.2.2 102)), some (.ref (ax 0)), some (.ref (am 0)), some (.ref ou), some (.ref od), some (.int (nI i)), none, none, none]) ⟨rfl, rfl, rfl, rfl, rfl, rfl, trivial⟩ (kk _ _ _ _ _ _ hD3 ((hW.seven _).up (by omega)))
    · refine z_lconst (v := 1) dL_law_1625 (by decide) ?_
      refine z_goto (tgt := 1630) dL_law_1626 (by decide) ?_
      refine z_lcmp dL_law_1630 ?_
      refine z_if_eq (tgt := 1636) dL_law_1631 (by decide) (fun _ => ?_) (fun c3 => absurd (by
          show lg_cmp (if _ = 0 then 0 else 1) _ = 0
          rw [if_neg cv]
          exact zlcmp _) c3)
      refine z_goto (tgt := 2304) dL_law_1636 (by decide) ?_
      refine z_wid (k' := k + 32) (n' := n + 6400) (by omega) (by omega) ?_
      exact z_sub (lv' := [some (.ref (Γ.2.2.2.2 102)), some (.ref (ax 0)), some (.ref (am 0)), some (.ref ou), some (.ref od), some (.int (nI i)), none, none, none]) ⟨rfl, rfl, rfl, rfl, rfl, rfl, trivial⟩ (kk _ _ _ _ _ _ hD3 ((hW.seven _).up (by omega)))
  · refine Or.inr ⟨E9, c9, e9, hc9, ?_⟩
    have hD2 := hD
    have hM2 := hD2.2.1
    refine z_istore dL_law_1587 (by decide) rfl ?_
    refine z_aload_n dL_law_1589 rfl ?_
    refine z_aload_n dL_law_1590 rfl ?_
    refine z_iload dL_law_1591 rfl ?_
    refine z_iconst (v := 1) dL_law_1593 (by decide) ?_
    refine z_iadd dL_law_1594 ?_
    refine z_sld dL_law_1595 (zscI (j := 1) (by omega) (by omega)) ?_
    refine z_V1 (mi' := mX11_rises) dL_law_1596 lL_207 nX11_rises kX11_rises (Nat.le_of_ble_eq_true rfl) (Nat.le_of_ble_eq_true rfl) (by omega) (by omega) (hD2.2.1.1 0 (by decide)) rfl rfl ?_
    refine sX11_rises hM2 hL hB (fun r c G2 hz hM3 hF3 => ?_)
    have hD3 := hD2.mod hM3 hF3
    rw [e9] at hz
    obtain rfl : c = c9 := Option.some.inj (hz.symm.trans hc9)
    refine z_istore dL_law_1599 (by decide) rfl ?_
    refine z_aload_n dL_law_1601 rfl ?_
    refine z_V0 (mi' := mX11_thrown) dL_law_1602 lL_139 nX11_thrown kX11_thrown (Nat.le_of_ble_eq_true rfl) (Nat.le_of_ble_eq_true rfl) (by omega) (by omega) (hD3.2.1.1 0 (by decide)) rfl rfl ?_
    refine sX11_thrown hD3.2.1 ?_
    rw [zu_s]
    refine z_iload dL_law_1605 rfl ?_
    refine z_icmp_eq (tgt := 1612) dL_law_1607 (by decide) (fun _ => ?_) (fun c1 => absurd rfl c1)
    refine z_iload dL_law_1612 rfl ?_
    refine z_if_ne (tgt := 1636) dL_law_1614 (by decide) (fun _ => ?_) (fun c2 => absurd c2 hne9)
    refine z_goto (tgt := 2304) dL_law_1636 (by decide) ?_
    refine z_wid (k' := k + 32) (n' := n + 6400) (by omega) (by omega) ?_
    exact z_sub (lv' := [some (.ref (Γ.2.2.2.2 102)), some (.ref (ax 0)), some (.ref (am 0)), some (.ref ou), some (.ref od), some (.int (nI i)), none, none, none]) ⟨rfl, rfl, rfl, rfl, rfl, rfl, trivial⟩ (kk _ _ _ _ _ _ hD3 ((hW.seven _).up (by omega)))
theorem zX_outD {Γ : zG} {mi : zMI} {d mc ms pc k n : Nat} {lv : List (Option Value)} {st : List Value} {G : zH} {Post : zP} {ax : Nat → Nat} {bq m : Nat} {ρ : Nat → zSt} {γ : zSt} {am : Nat → Nat} {μ : zSt} {ou od : Nat} {f : Nat → UInt64} (h : zLd G ax bq m ρ γ am μ ou od) (kk : zLd (zset G od (.inl (.double, (1, .inr (.inr (.inr (.inl f))))))) ax bq m ρ γ am μ ou od → zX Γ mi d mc ms pc lv st (zset G od (.inl (.double, (1, .inr (.inr (.inr (.inl f))))))) k n Post) : zX Γ mi d mc ms pc lv st (zset G od (.inl (.double, (1, .inr (.inr (.inr (.inl f))))))) k n Post := kk (h.outD f)
set_option maxHeartbeats 4000000 in
set_option maxRecDepth 10000 in
theorem sLaw_estimate {Γ : zG} {G : zH} {Post : zP} {ax : Nat → Nat} {bq m : Nat} {ρ : Nat → zSt} {γ : zSt} {am : Nat → Nat} {μ : zSt} {ou od i k n MC MS : Nat} {Y : Int} (hD : zLd G ax bq m ρ γ am μ ou od) (hW : zWd ρ γ μ m Y) (hY : Y ≤ 1000000) (hi : i + 4 ≤ Γ.2.2.2.2 103) (hlen : Γ.2.2.2.2 103 ≤ 2048) (hk9 : k + 32 ≤ MC) (hn9 : n + 6400 ≤ MS) (kk : ∀ G1 bq1 m1 ρ1 γ1 μ1, zLd G1 ax bq1 m1 ρ1 γ1 am μ1 ou od → zWd ρ1 γ1 μ1 m1 (Y + 1260) → zX Γ mL_law 10 MC MS 2304 [some (.ref (Γ.2.2.2.2 102)), some (.ref (ax 0)), some (.ref (am 0)), some (.ref ou), some (.ref od), some (.int (nI i)), none, none, none] [] G1 (k + 32) (n + 6400) Post) : zX Γ mL_law 10 MC MS 2004 [some (.ref (Γ.2.2.2.2 102)), some (.ref (ax 0)), some (.ref (am 0)), some (.ref ou), some (.ref od), some (.int (nI i)), none, none, none] [] G k n Post := by
  obtain ⟨hC, hM, ⟨f0, hO⟩, ⟨f0d, hOd⟩, hSp⟩ := id hD
  obtain ⟨⟨S, F, E, K, mm, fl, hL, hB, hDi⟩, hW2, ⟨nx, ct, hX, hct, hring⟩, hW4, hW5, ⟨nt, hn1, hn2, hn60, htx, hch⟩, ⟨tx, hBt, hTx, h80⟩, hW0⟩ := id hW
  have hc8 := hX.2.2.2
  refine z_aload_n dL_law_2004 rfl ?_
  refine z_aload_n dL_law_2005 rfl ?_
  refine z_iload dL_law_2006 rfl ?_
  refine z_iconst (v := 1) dL_law_2008 (by decide) ?_
  refine z_iadd dL_law_2009 ?_
  refine z_sld dL_law_2010 (zscI (j := 1) (by omega) (by omega)) ?_
  refine z_aload dL_law_2011 rfl ?_
  refine z_callSW (mi' := mL_estimate) (As := [.ref (ax 0), .int _, .ref od]) (mc' := 1) (ms' := 6) (z := 3) dL_law_2013 lL_239 nL_estimate kgL_estimate9 (Nat.le_of_ble_eq_true rfl) rfl (Nat.le_of_ble_eq_true rfl) (by omega) (by omega) ?_
  refine sL_estimate (hC.1 0 (by decide)) (fun P hP => ?_)
  refine sX10_estimate hC hL.n hB (hP _ _ ?_)
  rcases zis_estimate with ⟨v, e9⟩ | ⟨E9, c9, e9, hc9, hne9⟩
  · refine Or.inl ⟨v, f0d, e9, hOd, ?_⟩
    refine zX_outD hD (fun hD2 => ?_)
    have hM2 := hD2.2.1
    refine z_istore dL_law_2016 (by decide) rfl ?_
    refine z_aload_n dL_law_2018 rfl ?_
    refine z_aload_n dL_law_2019 rfl ?_
    refine z_iload dL_law_2020 rfl ?_
    refine z_iconst (v := 1) dL_law_2022 (by decide) ?_
    refine z_iadd dL_law_2023 ?_
    refine z_sld dL_law_2024 (zscI (j := 1) (by omega) (by omega)) ?_
    refine z_V1 (mi' := mX11_estimate) dL_law_2025 lL_242 nX11_estimate kX11_estimate (Nat.le_of_ble_eq_true rfl) (Nat.le_of_ble_eq_true rfl) (by omega) (by omega) (hD2.2.1.1 0 (by decide)) rfl rfl ?_
    refine sX11_estimate hM2 hL hB (fun r c G2 hz hM3 hF3 => ?_)
    have hD3 := hD2.mod hM3 hF3
    rw [e9] at hz
    obtain ⟨rfl, rfl⟩ := hz
    have hso := (hD2.seeD hF3).trans (zset_s _ _ _)
    refine z_dstore dL_law_2028 (by decide) rfl ?_
    refine z_aload_n dL_law_2030 rfl ?_
    refine z_V0 (mi' := mX11_thrown) dL_law_2031 lL_139 nX11_thrown kX11_thrown (Nat.le_of_ble_eq_true rfl) (Nat.le_of_ble_eq_true rfl) (by omega) (by omega) (hD3.2.1.1 0 (by decide)) rfl rfl ?_
    refine sX11_thrown hD3.2.1 ?_
    rw [zu_s]
    refine z_iload dL_law_2034 rfl ?_
    refine z_icmp_eq (tgt := 2041) dL_law_2036 (by decide) (fun _ => ?_) (fun c1 => absurd rfl c1)
    refine z_iload dL_law_2041 rfl ?_
    refine z_if_ne (tgt := 2078) dL_law_2043 (by decide) (fun c2 => absurd rfl c2) (fun _ => ?_)
    refine z_aload dL_law_2046 rfl ?_
    refine z_iconst (v := 0) dL_law_2048 (by decide) ?_
    refine z_dald dL_law_2049 hso (vp_in_nI (n := 0) (show 0 < 1 by decide) (by decide)) ?_
    refine z_dload dL_law_2050 rfl ?_
    refine z_dcmp dL_law_2052 ?_
    refine z_if_eq (tgt := 2078) dL_law_2053 (by decide) (fun c3 => ?_) (fun c3 => ?_)
    · refine z_goto (tgt := 2304) dL_law_2078 (by decide) ?_
      refine z_wid (k' := k + 32) (n' := n + 6400) (by omega) (by omega) ?_
      exact z_sub (lv' := [some (.ref (Γ.2.2.2.2 102)), some (.ref (ax 0)), some (.ref (am 0)), some (.ref ou), some (.ref od), some (.int (nI i)), none, none, none]) ⟨rfl, rfl, rfl, rfl, rfl, rfl, trivial⟩ (kk _ _ _ _ _ _ hD3 ((hW.seven _).up (by omega)))
    · refine z_aload dL_law_2056 rfl ?_
      refine z_iconst (v := 0) dL_law_2058 (by decide) ?_
      refine z_dald dL_law_2059 hso (vp_in_nI (n := 0) (show 0 < 1 by decide) (by decide)) ?_
      refine z_aload dL_law_2060 rfl ?_
      refine z_iconst (v := 0) dL_law_2062 (by decide) ?_
      refine z_dald dL_law_2063 hso (vp_in_nI (n := 0) (show 0 < 1 by decide) (by decide)) ?_
      refine z_dcmp dL_law_2064 ?_
      refine z_if_eq (tgt := 2076) dL_law_2065 (by decide) (fun c4 => absurd c4 c3) (fun _ => ?_)
      refine z_dload dL_law_2068 rfl ?_
      refine z_dload dL_law_2070 rfl ?_
      refine z_dcmp dL_law_2072 ?_
      refine z_if_ne (tgt := 2078) dL_law_2073 (by decide) (fun _ => ?_) (fun c4 => absurd c4 c3)
      refine z_goto (tgt := 2304) dL_law_2078 (by decide) ?_
      refine z_wid (k' := k + 32) (n' := n + 6400) (by omega) (by omega) ?_
      exact z_sub (lv' := [some (.ref (Γ.2.2.2.2 102)), some (.ref (ax 0)), some (.ref (am 0)), some (.ref ou), some (.ref od), some (.int (nI i)), none, none, none]) ⟨rfl, rfl, rfl, rfl, rfl, rfl, trivial⟩ (kk _ _ _ _ _ _ hD3 ((hW.seven _).up (by omega)))
  · refine Or.inr ⟨E9, c9, e9, hc9, ?_⟩
    have hD2 := hD
    have hM2 := hD2.2.1
    refine z_istore dL_law_2016 (by decide) rfl ?_
    refine z_aload_n dL_law_2018 rfl ?_
    refine z_aload_n dL_law_2019 rfl ?_
    refine z_iload dL_law_2020 rfl ?_
    refine z_iconst (v := 1) dL_law_2022 (by decide) ?_
    refine z_iadd dL_law_2023 ?_
    refine z_sld dL_law_2024 (zscI (j := 1) (by omega) (by omega)) ?_
    refine z_V1 (mi' := mX11_estimate) dL_law_2025 lL_242 nX11_estimate kX11_estimate (Nat.le_of_ble_eq_true rfl) (Nat.le_of_ble_eq_true rfl) (by omega) (by omega) (hD2.2.1.1 0 (by decide)) rfl rfl ?_
    refine sX11_estimate hM2 hL hB (fun r c G2 hz hM3 hF3 => ?_)
    have hD3 := hD2.mod hM3 hF3
    rw [e9] at hz
    obtain rfl : c = c9 := Option.some.inj (hz.symm.trans hc9)
    refine z_dstore dL_law_2028 (by decide) rfl ?_
    refine z_aload_n dL_law_2030 rfl ?_
    refine z_V0 (mi' := mX11_thrown) dL_law_2031 lL_139 nX11_thrown kX11_thrown (Nat.le_of_ble_eq_true rfl) (Nat.le_of_ble_eq_true rfl) (by omega) (by omega) (hD3.2.1.1 0 (by decide)) rfl rfl ?_
    refine sX11_thrown hD3.2.1 ?_
    rw [zu_s]
    refine z_iload dL_law_2034 rfl ?_
    refine z_icmp_eq (tgt := 2041) dL_law_2036 (by decide) (fun _ => ?_) (fun c1 => absurd rfl c1)
    refine z_iload dL_law_2041 rfl ?_
    refine z_if_ne (tgt := 2078) dL_law_2043 (by decide) (fun _ => ?_) (fun c2 => absurd c2 hne9)
    refine z_goto (tgt := 2304) dL_law_2078 (by decide) ?_
    refine z_wid (k' := k + 32) (n' := n + 6400) (by omega) (by omega) ?_
    exact z_sub (lv' := [some (.ref (Γ.2.2.2.2 102)), some (.ref (ax 0)), some (.ref (am 0)), some (.ref ou), some (.ref od), some (.int (nI i)), none, none, none]) ⟨rfl, rfl, rfl, rfl, rfl, rfl, trivial⟩ (kk _ _ _ _ _ _ hD3 ((hW.seven _).up (by omega)))
set_option maxHeartbeats 4000000 in
set_option maxRecDepth 10000 in
theorem sLaw_meanEdge {Γ : zG} {G : zH} {Post : zP} {ax : Nat → Nat} {bq m : Nat} {ρ : Nat → zSt} {γ : zSt} {am : Nat → Nat} {μ : zSt} {ou od i k n MC MS : Nat} {Y : Int} (hD : zLd G ax bq m ρ γ am μ ou od) (hW : zWd ρ γ μ m Y) (hY : Y ≤ 1000000) (hi : i + 4 ≤ Γ.2.2.2.2 103) (hlen : Γ.2.2.2.2 103 ≤ 2048) (hk9 : k + 32 ≤ MC) (hn9 : n + 6400 ≤ MS) (kk : ∀ G1 bq1 m1 ρ1 γ1 μ1, zLd G1 ax bq1 m1 ρ1 γ1 am μ1 ou od → zWd ρ1 γ1 μ1 m1 (Y + 1260) → zX Γ mL_law 10 MC MS 2304 [some (.ref (Γ.2.2.2.2 102)), some (.ref (ax 0)), some (.ref (am 0)), some (.ref ou), some (.ref od), some (.int (nI i)), none, none, none] [] G1 (k + 32) (n + 6400) Post) : zX Γ mL_law 10 MC MS 2081 [some (.ref (Γ.2.2.2.2 102)), some (.ref (ax 0)), some (.ref (am 0)), some (.ref ou), some (.ref od), some (.int (nI i)), none, none, none] [] G k n Post := by
  obtain ⟨hC, hM, ⟨f0, hO⟩, ⟨f0d, hOd⟩, hSp⟩ := id hD
  obtain ⟨⟨S, F, E, K, mm, fl, hL, hB, hDi⟩, hW2, ⟨nx, ct, hX, hct, hring⟩, hW4, hW5, ⟨nt, hn1, hn2, hn60, htx, hch⟩, ⟨tx, hBt, hTx, h80⟩, hW0⟩ := id hW
  have hc8 := hX.2.2.2
  refine z_aload_n dL_law_2081 rfl ?_
  refine z_aload dL_law_2082 rfl ?_
  refine z_callSW (mi' := mL_meanEdge) (As := [.ref (ax 0), .ref od]) (mc' := 1) (ms' := 6) (z := 2) dL_law_2084 lL_243 nL_meanEdge kgL_meanEdge9 (Nat.le_of_ble_eq_true rfl) rfl (Nat.le_of_ble_eq_true rfl) (by omega) (by omega) ?_
  refine sL_meanEdge (hC.1 0 (by decide)) (fun P hP => ?_)
  refine sX10_meanEdge hC hL.n hB (hP _ _ ?_)
  rcases zis_meanEdge hB hL.n with ⟨v, e9, hnn, hcmp⟩ | e9
  · refine Or.inl ⟨v, f0d, e9, hOd, ?_, hnn⟩
    refine zX_outD hD (fun hD2 => ?_)
    have hM2 := hD2.2.1
    refine z_istore dL_law_2087 (by decide) rfl ?_
    refine z_aload_n dL_law_2089 rfl ?_
    refine z_V0 (mi' := mX11_meanEdge) dL_law_2090 lL_246 nX11_meanEdge kX11_meanEdge (Nat.le_of_ble_eq_true rfl) (Nat.le_of_ble_eq_true rfl) (by omega) (by omega) (hD2.2.1.1 0 (by decide)) rfl rfl ?_
    refine sX11_meanEdge hM2 hL hB (fun r c G2 hz hM3 hF3 => ?_)
    have hD3 := hD2.mod hM3 hF3
    rw [e9] at hz
    obtain ⟨rfl, rfl⟩ := hz
    have hso := (hD2.seeD hF3).trans (zset_s _ _ _)
    refine z_fstore dL_law_2093 (by decide) rfl ?_
    refine z_aload_n dL_law_2095 rfl ?_
    refine z_V0 (mi' := mX11_thrown) dL_law_2096 lL_139 nX11_thrown kX11_thrown (Nat.le_of_ble_eq_true rfl) (Nat.le_of_ble_eq_true rfl) (by omega) (by omega) (hD3.2.1.1 0 (by decide)) rfl rfl ?_
    refine sX11_thrown hD3.2.1 ?_
    rw [zu_s]
    refine z_iload dL_law_2099 rfl ?_
    refine z_icmp_eq (tgt := 2106) dL_law_2101 (by decide) (fun _ => ?_) (fun c1 => absurd rfl c1)
    refine z_iload dL_law_2106 rfl ?_
    refine z_if_ne (tgt := 2144) dL_law_2108 (by decide) (fun c2 => absurd rfl c2) (fun _ => ?_)
    refine z_aload dL_law_2111 rfl ?_
    refine z_iconst (v := 0) dL_law_2113 (by decide) ?_
    refine z_dald dL_law_2114 hso (vp_in_nI (n := 0) (show 0 < 1 by decide) (by decide)) ?_
    refine z_fload dL_law_2115 rfl ?_
    refine z_f2d dL_law_2117 hnn ?_
    refine z_dcmp dL_law_2118 ?_
    refine z_if_eq (tgt := 2144) dL_law_2119 (by decide) (fun _ => ?_) (fun c3 => absurd hcmp c3)
    refine z_goto (tgt := 2304) dL_law_2144 (by decide) ?_
    refine z_wid (k' := k + 32) (n' := n + 6400) (by omega) (by omega) ?_
    exact z_sub (lv' := [some (.ref (Γ.2.2.2.2 102)), some (.ref (ax 0)), some (.ref (am 0)), some (.ref ou), some (.ref od), some (.int (nI i)), none, none, none]) ⟨rfl, rfl, rfl, rfl, rfl, rfl, trivial⟩ (kk _ _ _ _ _ _ hD3 ((hW.seven _).up (by omega)))
  · refine Or.inr ⟨zAE, 1, e9, zcd_i1, ?_⟩
    have hD2 := hD
    have hM2 := hD2.2.1
    refine z_istore dL_law_2087 (by decide) rfl ?_
    refine z_aload_n dL_law_2089 rfl ?_
    refine z_V0 (mi' := mX11_meanEdge) dL_law_2090 lL_246 nX11_meanEdge kX11_meanEdge (Nat.le_of_ble_eq_true rfl) (Nat.le_of_ble_eq_true rfl) (by omega) (by omega) (hD2.2.1.1 0 (by decide)) rfl rfl ?_
    refine sX11_meanEdge hM2 hL hB (fun r c G2 hz hM3 hF3 => ?_)
    have hD3 := hD2.mod hM3 hF3
    rw [e9] at hz
    obtain rfl : c = 1 := Option.some.inj (hz.symm.trans zcd_i1)
    refine z_fstore dL_law_2093 (by decide) rfl ?_
    refine z_aload_n dL_law_2095 rfl ?_
    refine z_V0 (mi' := mX11_thrown) dL_law_2096 lL_139 nX11_thrown kX11_thrown (Nat.le_of_ble_eq_true rfl) (Nat.le_of_ble_eq_true rfl) (by omega) (by omega) (hD3.2.1.1 0 (by decide)) rfl rfl ?_
    refine sX11_thrown hD3.2.1 ?_
    rw [zu_s]
    refine z_iload dL_law_2099 rfl ?_
    refine z_icmp_eq (tgt := 2106) dL_law_2101 (by decide) (fun _ => ?_) (fun c1 => absurd rfl c1)
    refine z_iload dL_law_2106 rfl ?_
    refine z_if_ne (tgt := 2144) dL_law_2108 (by decide) (fun _ => ?_) (fun c2 => absurd c2 (by decide))
    refine z_goto (tgt := 2304) dL_law_2144 (by decide) ?_
    refine z_wid (k' := k + 32) (n' := n + 6400) (by omega) (by omega) ?_
    exact z_sub (lv' := [some (.ref (Γ.2.2.2.2 102)), some (.ref (ax 0)), some (.ref (am 0)), some (.ref ou), some (.ref od), some (.int (nI i)), none, none, none]) ⟨rfl, rfl, rfl, rfl, rfl, rfl, trivial⟩ (kk _ _ _ _ _ _ hD3 ((hW.seven _).up (by omega)))
