set_option maxHeartbeats 4000000 in
set_option maxRecDepth 10000 in
theorem sLaw_stoneOf {Γ : zG} {G : zH} {Post : zP} {ax : Nat → Nat} {bq m : Nat} {ρ : Nat → zSt} {γ : zSt} {am : Nat → Nat} {μ : zSt} {ou od i k n MC MS : Nat} {Y : Int} (hD : zLd G ax bq m ρ γ am μ ou od) (hW : zWd ρ γ μ m Y) (hY : Y ≤ 1000000) (hi : i + 4 ≤ Γ.2.2.2.2 103) (hlen : Γ.2.2.2.2 103 ≤ 2048) (hk9 : k + 32 ≤ MC) (hn9 : n + 6400 ≤ MS) (kk : ∀ G1 bq1 m1 ρ1 γ1 μ1, zLd G1 ax bq1 m1 ρ1 γ1 am μ1 ou od → zWd ρ1 γ1 μ1 m1 (Y + 1260) → zX Γ mL_law 10 MC MS 2304 [some (.ref (Γ.2.2.2.2 102)), some (.ref (ax 0)), some (.ref (am 0)), some (.ref ou), some (.ref od), some (.int (nI i)), none, none, none] [] G1 (k + 32) (n + 6400) Post) : zX Γ mL_law 10 MC MS 864 [some (.ref (Γ.2.2.2.2 102)), some (.ref (ax 0)), some (.ref (am 0)), some (.ref ou), some (.ref od), some (.int (nI i)), none, none, none] [] G k n Post := by
  obtain ⟨hC, hM, ⟨f0, hO⟩, ⟨f0d, hOd⟩, hSp⟩ := id hD
  obtain ⟨⟨S, F, E, K, mm, fl, hL, hB, hDi⟩, hW2, ⟨nx, ct, hX, hct, hring⟩, hW4, hW5, ⟨nt, hn1, hn2, hn60, htx, hch⟩, ⟨tx, hBt, hTx, h80⟩, hW0⟩ := id hW
  have hc8 := hX.2.2.2
  refine z_aload_n dL_law_864 rfl ?_
  refine z_aload_n dL_law_865 rfl ?_
  refine z_iload dL_law_866 rfl ?_
  refine z_iconst (v := 1) dL_law_868 (by decide) ?_
  refine z_iadd dL_law_869 ?_
  refine z_sld dL_law_870 (zscI (j := 1) (by omega) (by omega)) ?_
  refine z_aload_n dL_law_871 rfl ?_
  refine z_iload dL_law_872 rfl ?_
  refine z_iconst (v := 2) dL_law_874 (by decide) ?_
  refine z_iadd dL_law_875 ?_
  refine z_sld dL_law_876 (zscI (j := 2) (by omega) (by omega)) ?_
  refine z_aload_n dL_law_877 rfl ?_
  refine z_callSW (mi' := mL_stoneOf) (As := [.ref (ax 0), .int _, .int _, .ref ou]) (mc' := 1) (ms' := 6) (z := 4) dL_law_878 lL_172 nL_stoneOf kgL_stoneOf9 (Nat.le_of_ble_eq_true rfl) rfl (Nat.le_of_ble_eq_true rfl) (by omega) (by omega) ?_
  refine sL_stoneOf (hC.1 0 (by decide)) (fun P hP => ?_)
  refine sX10_stoneOf hC hL.n (hP _ _ ?_)
  rcases zis_stoneOf with ⟨v, e9⟩ | ⟨E9, c9, e9, hc9, hne9⟩
  · refine Or.inl ⟨v, f0, e9, hO, ?_⟩
    have hD2 := hD.out (vp_updL f0 0 v.toInt64)
    have hM2 := hD2.2.1
    refine z_istore dL_law_881 (by decide) rfl ?_
    refine z_aload_n dL_law_883 rfl ?_
    refine z_aload_n dL_law_884 rfl ?_
    refine z_iload dL_law_885 rfl ?_
    refine z_iconst (v := 1) dL_law_887 (by decide) ?_
    refine z_iadd dL_law_888 ?_
    refine z_sld dL_law_889 (zscI (j := 1) (by omega) (by omega)) ?_
    refine z_aload_n dL_law_890 rfl ?_
    refine z_iload dL_law_891 rfl ?_
    refine z_iconst (v := 2) dL_law_893 (by decide) ?_
    refine z_iadd dL_law_894 ?_
    refine z_sld dL_law_895 (zscI (j := 2) (by omega) (by omega)) ?_
    refine z_V2 (mi' := mX11_stoneOf) dL_law_896 lL_174 nX11_stoneOf kX11_stoneOf (Nat.le_of_ble_eq_true rfl) (Nat.le_of_ble_eq_true rfl) (by omega) (by omega) (hD2.2.1.1 0 (by decide)) rfl rfl ?_
    refine sX11_stoneOf hM2 hL hB (fun r c G2 hz hM3 hF3 => ?_)
    have hD3 := hD2.mod hM3 hF3
    rw [e9] at hz
    obtain ⟨rfl, rfl⟩ := hz
    have hso := (hD2.seeO hF3).trans (zset_s _ _ _)
    refine z_istore dL_law_899 (by decide) rfl ?_
    refine z_aload_n dL_law_901 rfl ?_
    refine z_V0 (mi' := mX11_thrown) dL_law_902 lL_139 nX11_thrown kX11_thrown (Nat.le_of_ble_eq_true rfl) (Nat.le_of_ble_eq_true rfl) (by omega) (by omega) (hD3.2.1.1 0 (by decide)) rfl rfl ?_
    refine sX11_thrown hD3.2.1 ?_
    rw [zu_s]
    refine z_iload dL_law_905 rfl ?_
    refine z_icmp_eq (tgt := 912) dL_law_907 (by decide) (fun _ => ?_) (fun c1 => absurd rfl c1)
    refine z_iload dL_law_912 rfl ?_
    refine z_if_ne (tgt := 929) dL_law_914 (by decide) (fun c2 => absurd rfl c2) (fun _ => ?_)
    refine z_aload_n dL_law_917 rfl ?_
    refine z_iconst (v := 0) dL_law_918 (by decide) ?_
    refine z_lald dL_law_919 hso (vp_in_nI (n := 0) (show 0 < 1 by decide) (by decide)) ?_
    refine z_iload dL_law_920 rfl ?_
    refine z_i2l dL_law_922 ?_
    refine z_lcmp dL_law_923 ?_
    refine z_if_eq (tgt := 929) dL_law_924 (by decide) (fun _ => ?_) (fun c3 => absurd (zlcmp _) c3)
    refine z_goto (tgt := 2304) dL_law_929 (by decide) ?_
    refine z_wid (k' := k + 32) (n' := n + 6400) (by omega) (by omega) ?_
    exact z_sub (lv' := [some (.ref (Γ.2.2.2.2 102)), some (.ref (ax 0)), some (.ref (am 0)), some (.ref ou), some (.ref od), some (.int (nI i)), none, none, none]) ⟨rfl, rfl, rfl, rfl, rfl, rfl, trivial⟩ (kk _ _ _ _ _ _ hD3 ((hW.seven 0).up (by omega)))
  · refine Or.inr ⟨E9, c9, e9, hc9, ?_⟩
    have hD2 := hD
    have hM2 := hD2.2.1
    refine z_istore dL_law_881 (by decide) rfl ?_
    refine z_aload_n dL_law_883 rfl ?_
    refine z_aload_n dL_law_884 rfl ?_
    refine z_iload dL_law_885 rfl ?_
    refine z_iconst (v := 1) dL_law_887 (by decide) ?_
    refine z_iadd dL_law_888 ?_
    refine z_sld dL_law_889 (zscI (j := 1) (by omega) (by omega)) ?_
    refine z_aload_n dL_law_890 rfl ?_
    refine z_iload dL_law_891 rfl ?_
    refine z_iconst (v := 2) dL_law_893 (by decide) ?_
    refine z_iadd dL_law_894 ?_
    refine z_sld dL_law_895 (zscI (j := 2) (by omega) (by omega)) ?_
    refine z_V2 (mi' := mX11_stoneOf) dL_law_896 lL_174 nX11_stoneOf kX11_stoneOf (Nat.le_of_ble_eq_true rfl) (Nat.le_of_ble_eq_true rfl) (by omega) (by omega) (hD2.2.1.1 0 (by decide)) rfl rfl ?_
    refine sX11_stoneOf hM2 hL hB (fun r c G2 hz hM3 hF3 => ?_)
    have hD3 := hD2.mod hM3 hF3
    rw [e9] at hz
    obtain rfl : c = c9 := Option.some.inj (hz.symm.trans hc9)
    refine z_istore dL_law_899 (by decide) rfl ?_
    refine z_aload_n dL_law_901 rfl ?_
    refine z_V0 (mi' := mX11_thrown) dL_law_902 lL_139 nX11_thrown kX11_thrown (Nat.le_of_ble_eq_true rfl) (Nat.le_of_ble_eq_true rfl) (by omega) (by omega) (hD3.2.1.1 0 (by decide)) rfl rfl ?_
    refine sX11_thrown hD3.2.1 ?_
    rw [zu_s]
    refine z_iload dL_law_905 rfl ?_
    refine z_icmp_eq (tgt := 912) dL_law_907 (by decide) (fun _ => ?_) (fun c1 => absurd rfl c1)
    refine z_iload dL_law_912 rfl ?_
    refine z_if_ne (tgt := 929) dL_law_914 (by decide) (fun _ => ?_) (fun c2 => absurd c2 hne9)
    refine z_goto (tgt := 2304) dL_law_929 (by decide) ?_
    refine z_wid (k' := k + 32) (n' := n + 6400) (by omega) (by omega) ?_
    exact z_sub (lv' := [some (.ref (Γ.2.2.2.2 102)), some (.ref (ax 0)), some (.ref (am 0)), some (.ref ou), some (.ref od), some (.int (nI i)), none, none, none]) ⟨rfl, rfl, rfl, rfl, rfl, rfl, trivial⟩ (kk _ _ _ _ _ _ hD3 ((hW.seven _).up (by omega)))
set_option maxHeartbeats 4000000 in
set_option maxRecDepth 10000 in
theorem sLaw_floodOf {Γ : zG} {G : zH} {Post : zP} {ax : Nat → Nat} {bq m : Nat} {ρ : Nat → zSt} {γ : zSt} {am : Nat → Nat} {μ : zSt} {ou od i k n MC MS : Nat} {Y : Int} (hD : zLd G ax bq m ρ γ am μ ou od) (hW : zWd ρ γ μ m Y) (hY : Y ≤ 1000000) (hi : i + 4 ≤ Γ.2.2.2.2 103) (hlen : Γ.2.2.2.2 103 ≤ 2048) (hk9 : k + 32 ≤ MC) (hn9 : n + 6400 ≤ MS) (kk : ∀ G1 bq1 m1 ρ1 γ1 μ1, zLd G1 ax bq1 m1 ρ1 γ1 am μ1 ou od → zWd ρ1 γ1 μ1 m1 (Y + 1260) → zX Γ mL_law 10 MC MS 2304 [some (.ref (Γ.2.2.2.2 102)), some (.ref (ax 0)), some (.ref (am 0)), some (.ref ou), some (.ref od), some (.int (nI i)), none, none, none] [] G1 (k + 32) (n + 6400) Post) : zX Γ mL_law 10 MC MS 932 [some (.ref (Γ.2.2.2.2 102)), some (.ref (ax 0)), some (.ref (am 0)), some (.ref ou), some (.ref od), some (.int (nI i)), none, none, none] [] G k n Post := by
  obtain ⟨hC, hM, ⟨f0, hO⟩, ⟨f0d, hOd⟩, hSp⟩ := id hD
  obtain ⟨⟨S, F, E, K, mm, fl, hL, hB, hDi⟩, hW2, ⟨nx, ct, hX, hct, hring⟩, hW4, hW5, ⟨nt, hn1, hn2, hn60, htx, hch⟩, ⟨tx, hBt, hTx, h80⟩, hW0⟩ := id hW
  have hc8 := hX.2.2.2
  refine z_aload_n dL_law_932 rfl ?_
  refine z_aload_n dL_law_933 rfl ?_
  refine z_iload dL_law_934 rfl ?_
  refine z_iconst (v := 1) dL_law_936 (by decide) ?_
  refine z_iadd dL_law_937 ?_
  refine z_sld dL_law_938 (zscI (j := 1) (by omega) (by omega)) ?_
  refine z_aload_n dL_law_939 rfl ?_
  refine z_iload dL_law_940 rfl ?_
  refine z_iconst (v := 2) dL_law_942 (by decide) ?_
  refine z_iadd dL_law_943 ?_
  refine z_sld dL_law_944 (zscI (j := 2) (by omega) (by omega)) ?_
  refine z_aload_n dL_law_945 rfl ?_
  refine z_callSW (mi' := mL_floodOf) (As := [.ref (ax 0), .int _, .int _, .ref ou]) (mc' := 1) (ms' := 6) (z := 4) dL_law_946 lL_175 nL_floodOf kgL_floodOf9 (Nat.le_of_ble_eq_true rfl) rfl (Nat.le_of_ble_eq_true rfl) (by omega) (by omega) ?_
  refine sL_floodOf (hC.1 0 (by decide)) (fun P hP => ?_)
  refine sX10_floodOf hC hL.n (hP _ _ ?_)
  rcases zis_floodOf with ⟨v, e9⟩ | ⟨E9, c9, e9, hc9, hne9⟩
  · refine Or.inl ⟨v, f0, e9, hO, ?_⟩
    have hD2 := hD.out (vp_updL f0 0 v.toInt64)
    have hM2 := hD2.2.1
    refine z_istore dL_law_949 (by decide) rfl ?_
    refine z_aload_n dL_law_951 rfl ?_
    refine z_aload_n dL_law_952 rfl ?_
    refine z_iload dL_law_953 rfl ?_
    refine z_iconst (v := 1) dL_law_955 (by decide) ?_
    refine z_iadd dL_law_956 ?_
    refine z_sld dL_law_957 (zscI (j := 1) (by omega) (by omega)) ?_
    refine z_aload_n dL_law_958 rfl ?_
    refine z_iload dL_law_959 rfl ?_
    refine z_iconst (v := 2) dL_law_961 (by decide) ?_
    refine z_iadd dL_law_962 ?_
    refine z_sld dL_law_963 (zscI (j := 2) (by omega) (by omega)) ?_
    refine z_V2 (mi' := mX11_floodOf) dL_law_964 lL_177 nX11_floodOf kX11_floodOf (Nat.le_of_ble_eq_true rfl) (Nat.le_of_ble_eq_true rfl) (by omega) (by omega) (hD2.2.1.1 0 (by decide)) rfl rfl ?_
    refine sX11_floodOf hM2 hL hB (fun r c G2 hz hM3 hF3 => ?_)
    have hD3 := hD2.mod hM3 hF3
    rw [e9] at hz
    obtain ⟨rfl, rfl⟩ := hz
    have hso := (hD2.seeO hF3).trans (zset_s _ _ _)
    refine z_istore dL_law_967 (by decide) rfl ?_
    refine z_aload_n dL_law_969 rfl ?_
    refine z_V0 (mi' := mX11_thrown) dL_law_970 lL_139 nX11_thrown kX11_thrown (Nat.le_of_ble_eq_true rfl) (Nat.le_of_ble_eq_true rfl) (by omega) (by omega) (hD3.2.1.1 0 (by decide)) rfl rfl ?_
    refine sX11_thrown hD3.2.1 ?_
    rw [zu_s]
    refine z_iload dL_law_973 rfl ?_
    refine z_icmp_eq (tgt := 980) dL_law_975 (by decide) (fun _ => ?_) (fun c1 => absurd rfl c1)
    refine z_iload dL_law_980 rfl ?_
    refine z_if_ne (tgt := 997) dL_law_982 (by decide) (fun c2 => absurd rfl c2) (fun _ => ?_)
    refine z_aload_n dL_law_985 rfl ?_
    refine z_iconst (v := 0) dL_law_986 (by decide) ?_
    refine z_lald dL_law_987 hso (vp_in_nI (n := 0) (show 0 < 1 by decide) (by decide)) ?_
    refine z_iload dL_law_988 rfl ?_
    refine z_i2l dL_law_990 ?_
    refine z_lcmp dL_law_991 ?_
    refine z_if_eq (tgt := 997) dL_law_992 (by decide) (fun _ => ?_) (fun c3 => absurd (zlcmp _) c3)
    refine z_goto (tgt := 2304) dL_law_997 (by decide) ?_
    refine z_wid (k' := k + 32) (n' := n + 6400) (by omega) (by omega) ?_
    exact z_sub (lv' := [some (.ref (Γ.2.2.2.2 102)), some (.ref (ax 0)), some (.ref (am 0)), some (.ref ou), some (.ref od), some (.int (nI i)), none, none, none]) ⟨rfl, rfl, rfl, rfl, rfl, rfl, trivial⟩ (kk _ _ _ _ _ _ hD3 ((hW.seven 0).up (by omega)))
  · refine Or.inr ⟨E9, c9, e9, hc9, ?_⟩
    have hD2 := hD
    have hM2 := hD2.2.1
    refine z_istore dL_law_949 (by decide) rfl ?_
    refine z_aload_n dL_law_951 rfl ?_
    refine z_aload_n dL_law_952 rfl ?_
    refine z_iload dL_law_953 rfl ?_
    refine z_iconst (v := 1) dL_law_955 (by decide) ?_
    refine z_iadd dL_law_956 ?_
    refine z_sld dL_law_957 (zscI (j := 1) (by omega) (by omega)) ?_
    refine z_aload_n dL_law_958 rfl ?_
    refine z_iload dL_law_959 rfl ?_
    refine z_iconst (v := 2) dL_law_961 (by decide) ?_
    refine z_iadd dL_law_962 ?_
    refine z_sld dL_law_963 (zscI (j := 2) (by omega) (by omega)) ?_
    refine z_V2 (mi' := mX11_floodOf) dL_law_964 lL_177 nX11_floodOf kX11_floodOf (Nat.le_of_ble_eq_true rfl) (Nat.le_of_ble_eq_true rfl) (by omega) (by omega) (hD2.2.1.1 0 (by decide)) rfl rfl ?_
    refine sX11_floodOf hM2 hL hB (fun r c G2 hz hM3 hF3 => ?_)
    have hD3 := hD2.mod hM3 hF3
    rw [e9] at hz
    obtain rfl : c = c9 := Option.some.inj (hz.symm.trans hc9)
    refine z_istore dL_law_967 (by decide) rfl ?_
    refine z_aload_n dL_law_969 rfl ?_
    refine z_V0 (mi' := mX11_thrown) dL_law_970 lL_139 nX11_thrown kX11_thrown (Nat.le_of_ble_eq_true rfl) (Nat.le_of_ble_eq_true rfl) (by omega) (by omega) (hD3.2.1.1 0 (by decide)) rfl rfl ?_
    refine sX11_thrown hD3.2.1 ?_
    rw [zu_s]
    refine z_iload dL_law_973 rfl ?_
    refine z_icmp_eq (tgt := 980) dL_law_975 (by decide) (fun _ => ?_) (fun c1 => absurd rfl c1)
    refine z_iload dL_law_980 rfl ?_
    refine z_if_ne (tgt := 997) dL_law_982 (by decide) (fun _ => ?_) (fun c2 => absurd c2 hne9)
    refine z_goto (tgt := 2304) dL_law_997 (by decide) ?_
    refine z_wid (k' := k + 32) (n' := n + 6400) (by omega) (by omega) ?_
    exact z_sub (lv' := [some (.ref (Γ.2.2.2.2 102)), some (.ref (ax 0)), some (.ref (am 0)), some (.ref ou), some (.ref od), some (.int (nI i)), none, none, none]) ⟨rfl, rfl, rfl, rfl, rfl, rfl, trivial⟩ (kk _ _ _ _ _ _ hD3 ((hW.seven _).up (by omega)))
set_option maxHeartbeats 4000000 in
set_option maxRecDepth 10000 in
theorem sLaw_floodIn {Γ : zG} {G : zH} {Post : zP} {ax : Nat → Nat} {bq m : Nat} {ρ : Nat → zSt} {γ : zSt} {am : Nat → Nat} {μ : zSt} {ou od i k n MC MS : Nat} {Y : Int} (hD : zLd G ax bq m ρ γ am μ ou od) (hW : zWd ρ γ μ m Y) (hY : Y ≤ 1000000) (hi : i + 4 ≤ Γ.2.2.2.2 103) (hlen : Γ.2.2.2.2 103 ≤ 2048) (hk9 : k + 32 ≤ MC) (hn9 : n + 6400 ≤ MS) (kk : ∀ G1 bq1 m1 ρ1 γ1 μ1, zLd G1 ax bq1 m1 ρ1 γ1 am μ1 ou od → zWd ρ1 γ1 μ1 m1 (Y + 1260) → zX Γ mL_law 10 MC MS 2304 [some (.ref (Γ.2.2.2.2 102)), some (.ref (ax 0)), some (.ref (am 0)), some (.ref ou), some (.ref od), some (.int (nI i)), none, none, none] [] G1 (k + 32) (n + 6400) Post) : zX Γ mL_law 10 MC MS 1000 [some (.ref (Γ.2.2.2.2 102)), some (.ref (ax 0)), some (.ref (am 0)), some (.ref ou), some (.ref od), some (.int (nI i)), none, none, none] [] G k n Post := by
  obtain ⟨hC, hM, ⟨f0, hO⟩, ⟨f0d, hOd⟩, hSp⟩ := id hD
  obtain ⟨⟨S, F, E, K, mm, fl, hL, hB, hDi⟩, hW2, ⟨nx, ct, hX, hct, hring⟩, hW4, hW5, ⟨nt, hn1, hn2, hn60, htx, hch⟩, ⟨tx, hBt, hTx, h80⟩, hW0⟩ := id hW
  have hc8 := hX.2.2.2
  refine z_aload_n dL_law_1000 rfl ?_
  refine z_aload_n dL_law_1001 rfl ?_
  refine z_iload dL_law_1002 rfl ?_
  refine z_iconst (v := 1) dL_law_1004 (by decide) ?_
  refine z_iadd dL_law_1005 ?_
  refine z_sld dL_law_1006 (zscI (j := 1) (by omega) (by omega)) ?_
  refine z_aload_n dL_law_1007 rfl ?_
  refine z_callSW (mi' := mL_floodIn) (As := [.ref (ax 0), .int _, .ref ou]) (mc' := 1) (ms' := 6) (z := 3) dL_law_1008 lL_178 nL_floodIn kgL_floodIn9 (Nat.le_of_ble_eq_true rfl) rfl (Nat.le_of_ble_eq_true rfl) (by omega) (by omega) ?_
  refine sL_floodIn (hC.1 0 (by decide)) (fun P hP => ?_)
  refine sX10_floodIn hC hL.n (hP _ _ ?_)
  rcases zis_floodIn with ⟨v, e9⟩ | ⟨E9, c9, e9, hc9, hne9⟩
  · refine Or.inl ⟨v, f0, e9, hO, ?_⟩
    have hD2 := hD.out (vp_updL f0 0 v.toInt64)
    have hM2 := hD2.2.1
    refine z_istore dL_law_1011 (by decide) rfl ?_
    refine z_aload_n dL_law_1013 rfl ?_
    refine z_aload_n dL_law_1014 rfl ?_
    refine z_iload dL_law_1015 rfl ?_
    refine z_iconst (v := 1) dL_law_1017 (by decide) ?_
    refine z_iadd dL_law_1018 ?_
    refine z_sld dL_law_1019 (zscI (j := 1) (by omega) (by omega)) ?_
    refine z_V1 (mi' := mX11_floodIn) dL_law_1020 lL_180 nX11_floodIn kX11_floodIn (Nat.le_of_ble_eq_true rfl) (Nat.le_of_ble_eq_true rfl) (by omega) (by omega) (hD2.2.1.1 0 (by decide)) rfl rfl ?_
    refine sX11_floodIn hM2 hL (fun r c G2 hz hM3 hF3 => ?_)
    have hD3 := hD2.mod hM3 hF3
    rw [e9] at hz
    obtain ⟨rfl, rfl⟩ := hz
    have hso := (hD2.seeO hF3).trans (zset_s _ _ _)
    refine z_istore dL_law_1023 (by decide) rfl ?_
    refine z_aload_n dL_law_1025 rfl ?_
    refine z_V0 (mi' := mX11_thrown) dL_law_1026 lL_139 nX11_thrown kX11_thrown (Nat.le_of_ble_eq_true rfl) (Nat.le_of_ble_eq_true rfl) (by omega) (by omega) (hD3.2.1.1 0 (by decide)) rfl rfl ?_
    refine sX11_thrown hD3.2.1 ?_
    rw [zu_s]
    refine z_iload dL_law_1029 rfl ?_
    refine z_icmp_eq (tgt := 1036) dL_law_1031 (by decide) (fun _ => ?_) (fun c1 => absurd rfl c1)
    refine z_iload dL_law_1036 rfl ?_
    refine z_if_ne (tgt := 1053) dL_law_1038 (by decide) (fun c2 => absurd rfl c2) (fun _ => ?_)
    refine z_aload_n dL_law_1041 rfl ?_
    refine z_iconst (v := 0) dL_law_1042 (by decide) ?_
    refine z_lald dL_law_1043 hso (vp_in_nI (n := 0) (show 0 < 1 by decide) (by decide)) ?_
    refine z_iload dL_law_1044 rfl ?_
    refine z_i2l dL_law_1046 ?_
    refine z_lcmp dL_law_1047 ?_
    refine z_if_eq (tgt := 1053) dL_law_1048 (by decide) (fun _ => ?_) (fun c3 => absurd (zlcmp _) c3)
    refine z_goto (tgt := 2304) dL_law_1053 (by decide) ?_
    refine z_wid (k' := k + 32) (n' := n + 6400) (by omega) (by omega) ?_
    exact z_sub (lv' := [some (.ref (Γ.2.2.2.2 102)), some (.ref (ax 0)), some (.ref (am 0)), some (.ref ou), some (.ref od), some (.int (nI i)), none, none, none]) ⟨rfl, rfl, rfl, rfl, rfl, rfl, trivial⟩ (kk _ _ _ _ _ _ hD3 ((hW.seven 0).up (by omega)))
  · refine Or.inr ⟨E9, c9, e9, hc9, ?_⟩
    have hD2 := hD
    have hM2 := hD2.2.1
    refine z_istore dL_law_1011 (by decide) rfl ?_
    refine z_aload_n dL_law_1013 rfl ?_
    refine z_aload_n dL_law_1014 rfl ?_
    refine z_iload dL_law_1015 rfl ?_
    refine z_iconst (v := 1) dL_law_1017 (by decide) ?_
    refine z_iadd dL_law_1018 ?_
    refine z_sld dL_law_1019 (zscI (j := 1) (by omega) (by omega)) ?_
    refine z_V1 (mi' := mX11_floodIn) dL_law_1020 lL_180 nX11_floodIn kX11_floodIn (Nat.le_of_ble_eq_true rfl) (Nat.le_of_ble_eq_true rfl) (by omega) (by omega) (hD2.2.1.1 0 (by decide)) rfl rfl ?_
    refine sX11_floodIn hM2 hL (fun r c G2 hz hM3 hF3 => ?_)
    have hD3 := hD2.mod hM3 hF3
    rw [e9] at hz
    obtain rfl : c = c9 := Option.some.inj (hz.symm.trans hc9)
    refine z_istore dL_law_1023 (by decide) rfl ?_
    refine z_aload_n dL_law_1025 rfl ?_
    refine z_V0 (mi' := mX11_thrown) dL_law_1026 lL_139 nX11_thrown kX11_thrown (Nat.le_of_ble_eq_true rfl) (Nat.le_of_ble_eq_true rfl) (by omega) (by omega) (hD3.2.1.1 0 (by decide)) rfl rfl ?_
    refine sX11_thrown hD3.2.1 ?_
    rw [zu_s]
    refine z_iload dL_law_1029 rfl ?_
    refine z_icmp_eq (tgt := 1036) dL_law_1031 (by decide) (fun _ => ?_) (fun c1 => absurd rfl c1)
    refine z_iload dL_law_1036 rfl ?_
    refine z_if_ne (tgt := 1053) dL_law_1038 (by decide) (fun _ => ?_) (fun c2 => absurd c2 hne9)
    refine z_goto (tgt := 2304) dL_law_1053 (by decide) ?_
    refine z_wid (k' := k + 32) (n' := n + 6400) (by omega) (by omega) ?_
    exact z_sub (lv' := [some (.ref (Γ.2.2.2.2 102)), some (.ref (ax 0)), some (.ref (am 0)), some (.ref ou), some (.ref od), some (.int (nI i)), none, none, none]) ⟨rfl, rfl, rfl, rfl, rfl, rfl, trivial⟩ (kk _ _ _ _ _ _ hD3 ((hW.seven _).up (by omega)))
set_option maxHeartbeats 4000000 in
set_option maxRecDepth 10000 in
theorem sLaw_before {Γ : zG} {G : zH} {Post : zP} {ax : Nat → Nat} {bq m : Nat} {ρ : Nat → zSt} {γ : zSt} {am : Nat → Nat} {μ : zSt} {ou od i k n MC MS : Nat} {Y : Int} (hD : zLd G ax bq m ρ γ am μ ou od) (hW : zWd ρ γ μ m Y) (hY : Y ≤ 1000000) (hi : i + 4 ≤ Γ.2.2.2.2 103) (hlen : Γ.2.2.2.2 103 ≤ 2048) (hk9 : k + 32 ≤ MC) (hn9 : n + 6400 ≤ MS) (kk : ∀ G1 bq1 m1 ρ1 γ1 μ1, zLd G1 ax bq1 m1 ρ1 γ1 am μ1 ou od → zWd ρ1 γ1 μ1 m1 (Y + 1260) → zX Γ mL_law 10 MC MS 2304 [some (.ref (Γ.2.2.2.2 102)), some (.ref (ax 0)), some (.ref (am 0)), some (.ref ou), some (.ref od), some (.int (nI i)), none, none, none] [] G1 (k + 32) (n + 6400) Post) : zX Γ mL_law 10 MC MS 1056 [some (.ref (Γ.2.2.2.2 102)), some (.ref (ax 0)), some (.ref (am 0)), some (.ref ou), some (.ref od), some (.int (nI i)), none, none, none] [] G k n Post := by
  obtain ⟨hC, hM, ⟨f0, hO⟩, ⟨f0d, hOd⟩, hSp⟩ := id hD
  obtain ⟨⟨S, F, E, K, mm, fl, hL, hB, hDi⟩, hW2, ⟨nx, ct, hX, hct, hring⟩, hW4, hW5, ⟨nt, hn1, hn2, hn60, htx, hch⟩, ⟨tx, hBt, hTx, h80⟩, hW0⟩ := id hW
  have hc8 := hX.2.2.2
  refine z_aload_n dL_law_1056 rfl ?_
  refine z_aload_n dL_law_1057 rfl ?_
  refine z_iload dL_law_1058 rfl ?_
  refine z_iconst (v := 1) dL_law_1060 (by decide) ?_
  refine z_iadd dL_law_1061 ?_
  refine z_sld dL_law_1062 (zscI (j := 1) (by omega) (by omega)) ?_
  refine z_aload_n dL_law_1063 rfl ?_
  refine z_callSW (mi' := mL_before) (As := [.ref (ax 0), .int _, .ref ou]) (mc' := 1) (ms' := 6) (z := 3) dL_law_1064 lL_181 nL_before kgL_before9 (Nat.le_of_ble_eq_true rfl) rfl (Nat.le_of_ble_eq_true rfl) (by omega) (by omega) ?_
  refine sL_before (hC.1 0 (by decide)) (fun P hP => ?_)
  refine sX10_before hC hL.n (hP _ _ ?_)
  rcases zis_before with ⟨v, e9⟩ | ⟨E9, c9, e9, hc9, hne9⟩
  · refine Or.inl ⟨v, f0, e9, hO, ?_⟩
    have hD2 := hD.out (vp_updL f0 0 v.toInt64)
    have hM2 := hD2.2.1
    refine z_istore dL_law_1067 (by decide) rfl ?_
    refine z_aload_n dL_law_1069 rfl ?_
    refine z_aload_n dL_law_1070 rfl ?_
    refine z_iload dL_law_1071 rfl ?_
    refine z_iconst (v := 1) dL_law_1073 (by decide) ?_
    refine z_iadd dL_law_1074 ?_
    refine z_sld dL_law_1075 (zscI (j := 1) (by omega) (by omega)) ?_
    refine z_V1 (mi' := mX11_before) dL_law_1076 lL_183 nX11_before kX11_before (Nat.le_of_ble_eq_true rfl) (Nat.le_of_ble_eq_true rfl) (by omega) (by omega) (hD2.2.1.1 0 (by decide)) rfl rfl ?_
    refine sX11_before hM2 hL (fun r c G2 hz hM3 hF3 => ?_)
    have hD3 := hD2.mod hM3 hF3
    rw [e9] at hz
    obtain ⟨rfl, rfl⟩ := hz
    have hso := (hD2.seeO hF3).trans (zset_s _ _ _)
    refine z_istore dL_law_1079 (by decide) rfl ?_
    refine z_aload_n dL_law_1081 rfl ?_
    refine z_V0 (mi' := mX11_thrown) dL_law_1082 lL_139 nX11_thrown kX11_thrown (Nat.le_of_ble_eq_true rfl) (Nat.le_of_ble_eq_true rfl) (by omega) (by omega) (hD3.2.1.1 0 (by decide)) rfl rfl ?_
    refine sX11_thrown hD3.2.1 ?_
    rw [zu_s]
    refine z_iload dL_law_1085 rfl ?_
    refine z_icmp_eq (tgt := 1092) dL_law_1087 (by decide) (fun _ => ?_) (fun c1 => absurd rfl c1)
    refine z_iload dL_law_1092 rfl ?_
    refine z_if_ne (tgt := 1109) dL_law_1094 (by decide) (fun c2 => absurd rfl c2) (fun _ => ?_)
    refine z_aload_n dL_law_1097 rfl ?_
    refine z_iconst (v := 0) dL_law_1098 (by decide) ?_
    refine z_lald dL_law_1099 hso (vp_in_nI (n := 0) (show 0 < 1 by decide) (by decide)) ?_
    refine z_iload dL_law_1100 rfl ?_
    refine z_i2l dL_law_1102 ?_
    refine z_lcmp dL_law_1103 ?_
    refine z_if_eq (tgt := 1109) dL_law_1104 (by decide) (fun _ => ?_) (fun c3 => absurd (zlcmp _) c3)
    refine z_goto (tgt := 2304) dL_law_1109 (by decide) ?_
    refine z_wid (k' := k + 32) (n' := n + 6400) (by omega) (by omega) ?_
    exact z_sub (lv' := [some (.ref (Γ.2.2.2.2 102)), some (.ref (ax 0)), some (.ref (am 0)), some (.ref ou), some (.ref od), some (.int (nI i)), none, none, none]) ⟨rfl, rfl, rfl, rfl, rfl, rfl, trivial⟩ (kk _ _ _ _ _ _ hD3 ((hW.seven 0).up (by omega)))
  · refine Or.inr ⟨E9, c9, e9, hc9, ?_⟩
    have hD2 := hD
    have hM2 := hD2.2.1
    refine z_istore dL_law_1067 (by decide) rfl ?_
    refine z_aload_n dL_law_1069 rfl ?_
    refine z_aload_n dL_law_1070 rfl ?_
    refine z_iload dL_law_1071 rfl ?_
    refine z_iconst (v := 1) dL_law_1073 (by decide) ?_
    refine z_iadd dL_law_1074 ?_
    refine z_sld dL_law_1075 (zscI (j := 1) (by omega) (by omega)) ?_
    refine z_V1 (mi' := mX11_before) dL_law_1076 lL_183 nX11_before kX11_before (Nat.le_of_ble_eq_true rfl) (Nat.le_of_ble_eq_true rfl) (by omega) (by omega) (hD2.2.1.1 0 (by decide)) rfl rfl ?_
    refine sX11_before hM2 hL (fun r c G2 hz hM3 hF3 => ?_)
    have hD3 := hD2.mod hM3 hF3
    rw [e9] at hz
    obtain rfl : c = c9 := Option.some.inj (hz.symm.trans hc9)
    refine z_istore dL_law_1079 (by decide) rfl ?_
    refine z_aload_n dL_law_1081 rfl ?_
    refine z_V0 (mi' := mX11_thrown) dL_law_1082 lL_139 nX11_thrown kX11_thrown (Nat.le_of_ble_eq_true rfl) (Nat.le_of_ble_eq_true rfl) (by omega) (by omega) (hD3.2.1.1 0 (by decide)) rfl rfl ?_
    refine sX11_thrown hD3.2.1 ?_
    rw [zu_s]
    refine z_iload dL_law_1085 rfl ?_
    refine z_icmp_eq (tgt := 1092) dL_law_1087 (by decide) (fun _ => ?_) (fun c1 => absurd rfl c1)
    refine z_iload dL_law_1092 rfl ?_
    refine z_if_ne (tgt := 1109) dL_law_1094 (by decide) (fun _ => ?_) (fun c2 => absurd c2 hne9)
    refine z_goto (tgt := 2304) dL_law_1109 (by decide) ?_
    refine z_wid (k' := k + 32) (n' := n + 6400) (by omega) (by omega) ?_
    exact z_sub (lv' := [some (.ref (Γ.2.2.2.2 102)), some (.ref (ax 0)), some (.ref (am 0)), some (.ref ou), some (.ref od), some (.int (nI i)), none, none, none]) ⟨rfl, rfl, rfl, rfl, rfl, rfl, trivial⟩ (kk _ _ _ _ _ _ hD3 ((hW.seven _).up (by omega)))
set_option maxHeartbeats 4000000 in
set_option maxRecDepth 10000 in
theorem sLaw_edge {Γ : zG} {G : zH} {Post : zP} {ax : Nat → Nat} {bq m : Nat} {ρ : Nat → zSt} {γ : zSt} {am : Nat → Nat} {μ : zSt} {ou od i k n MC MS : Nat} {Y : Int} (hD : zLd G ax bq m ρ γ am μ ou od) (hW : zWd ρ γ μ m Y) (hY : Y ≤ 1000000) (hi : i + 4 ≤ Γ.2.2.2.2 103) (hlen : Γ.2.2.2.2 103 ≤ 2048) (hk9 : k + 32 ≤ MC) (hn9 : n + 6400 ≤ MS) (kk : ∀ G1 bq1 m1 ρ1 γ1 μ1, zLd G1 ax bq1 m1 ρ1 γ1 am μ1 ou od → zWd ρ1 γ1 μ1 m1 (Y + 1260) → zX Γ mL_law 10 MC MS 2304 [some (.ref (Γ.2.2.2.2 102)), some (.ref (ax 0)), some (.ref (am 0)), some (.ref ou), some (.ref od), some (.int (nI i)), none, none, none] [] G1 (k + 32) (n + 6400) Post) : zX Γ mL_law 10 MC MS 1112 [some (.ref (Γ.2.2.2.2 102)), some (.ref (ax 0)), some (.ref (am 0)), some (.ref ou), some (.ref od), some (.int (nI i)), none, none, none] [] G k n Post := by
  obtain ⟨hC, hM, ⟨f0, hO⟩, ⟨f0d, hOd⟩, hSp⟩ := id hD
  obtain ⟨⟨S, F, E, K, mm, fl, hL, hB, hDi⟩, hW2, ⟨nx, ct, hX, hct, hring⟩, hW4, hW5, ⟨nt, hn1, hn2, hn60, htx, hch⟩, ⟨tx, hBt, hTx, h80⟩, hW0⟩ := id hW
  have hc8 := hX.2.2.2
  refine z_aload_n dL_law_1112 rfl ?_
  refine z_aload_n dL_law_1113 rfl ?_
  refine z_iload dL_law_1114 rfl ?_
  refine z_iconst (v := 1) dL_law_1116 (by decide) ?_
  refine z_iadd dL_law_1117 ?_
  refine z_sld dL_law_1118 (zscI (j := 1) (by omega) (by omega)) ?_
  refine z_aload_n dL_law_1119 rfl ?_
  refine z_callSW (mi' := mL_edge) (As := [.ref (ax 0), .int _, .ref ou]) (mc' := 1) (ms' := 6) (z := 3) dL_law_1120 lL_184 nL_edge kgL_edge9 (Nat.le_of_ble_eq_true rfl) rfl (Nat.le_of_ble_eq_true rfl) (by omega) (by omega) ?_
  refine sL_edge (hC.1 0 (by decide)) (fun P hP => ?_)
  refine sX10_edge hC hL.n (hP _ _ ?_)
  rcases zis_edge with ⟨v, e9⟩ | ⟨E9, c9, e9, hc9, hne9⟩
  · refine Or.inl ⟨v, f0, e9, hO, ?_⟩
    have hD2 := hD.out (vp_updL f0 0 v.toInt64)
    have hM2 := hD2.2.1
    refine z_istore dL_law_1123 (by decide) rfl ?_
    refine z_aload_n dL_law_1125 rfl ?_
    refine z_aload_n dL_law_1126 rfl ?_
    refine z_iload dL_law_1127 rfl ?_
    refine z_iconst (v := 1) dL_law_1129 (by decide) ?_
    refine z_iadd dL_law_1130 ?_
    refine z_sld dL_law_1131 (zscI (j := 1) (by omega) (by omega)) ?_
    refine z_V1 (mi' := mX11_edge) dL_law_1132 lL_186 nX11_edge kX11_edge (Nat.le_of_ble_eq_true rfl) (Nat.le_of_ble_eq_true rfl) (by omega) (by omega) (hD2.2.1.1 0 (by decide)) rfl rfl ?_
    refine sX11_edge hM2 hL (fun r c G2 hz hM3 hF3 => ?_)
    have hD3 := hD2.mod hM3 hF3
    rw [e9] at hz
    obtain ⟨rfl, rfl⟩ := hz
    have hso := (hD2.seeO hF3).trans (zset_s _ _ _)
    refine z_istore dL_law_1135 (by decide) rfl ?_
    refine z_aload_n dL_law_1137 rfl ?_
    refine z_V0 (mi' := mX11_thrown) dL_law_1138 lL_139 nX11_thrown kX11_thrown (Nat.le_of_ble_eq_true rfl) (Nat.le_of_ble_eq_true rfl) (by omega) (by omega) (hD3.2.1.1 0 (by decide)) rfl rfl ?_
    refine sX11_thrown hD3.2.1 ?_
    rw [zu_s]
    refine z_iload dL_law_1141 rfl ?_
    refine z_icmp_eq (tgt := 1148) dL_law_1143 (by decide) (fun _ => ?_) (fun c1 => absurd rfl c1)
    refine z_iload dL_law_1148 rfl ?_
    refine z_if_ne (tgt := 1165) dL_law_1150 (by decide) (fun c2 => absurd rfl c2) (fun _ => ?_)
    refine z_aload_n dL_law_1153 rfl ?_
    refine z_iconst (v := 0) dL_law_1154 (by decide) ?_
    refine z_lald dL_law_1155 hso (vp_in_nI (n := 0) (show 0 < 1 by decide) (by decide)) ?_
    refine z_iload dL_law_1156 rfl ?_
    refine z_i2l dL_law_1158 ?_
    refine z_lcmp dL_law_1159 ?_
    refine z_if_eq (tgt := 1165) dL_law_1160 (by decide) (fun _ => ?_) (fun c3 => absurd (zlcmp _) c3)
    refine z_goto (tgt := 2304) dL_law_1165 (by decide) ?_
    refine z_wid (k' := k + 32) (n' := n + 6400) (by omega) (by omega) ?_
    exact z_sub (lv' := [some (.ref (Γ.2.2.2.2 102)), some (.ref (ax 0)), some (.ref (am 0)), some (.ref ou), some (.ref od), some (.int (nI i)), none, none, none]) ⟨rfl, rfl, rfl, rfl, rfl, rfl, trivial⟩ (kk _ _ _ _ _ _ hD3 ((hW.seven 0).up (by omega)))
  · refine Or.inr ⟨E9, c9, e9, hc9, ?_⟩
    have hD2 := hD
    have hM2 := hD2.2.1
    refine z_istore dL_law_1123 (by decide) rfl ?_
    refine z_aload_n dL_law_1125 rfl ?_
    refine z_aload_n dL_law_1126 rfl ?_
    refine z_iload dL_law_1127 rfl ?_
    refine z_iconst (v := 1) dL_law_1129 (by decide) ?_
    refine z_iadd dL_law_1130 ?_
    refine z_sld dL_law_1131 (zscI (j := 1) (by omega) (by omega)) ?_
    refine z_V1 (mi' := mX11_edge) dL_law_1132 lL_186 nX11_edge kX11_edge (Nat.le_of_ble_eq_true rfl) (Nat.le_of_ble_eq_true rfl) (by omega) (by omega) (hD2.2.1.1 0 (by decide)) rfl rfl ?_
    refine sX11_edge hM2 hL (fun r c G2 hz hM3 hF3 => ?_)
    have hD3 := hD2.mod hM3 hF3
    rw [e9] at hz
    obtain rfl : c = c9 := Option.some.inj (hz.symm.trans hc9)
    refine z_istore dL_law_1135 (by decide) rfl ?_
    refine z_aload_n dL_law_1137 rfl ?_
    refine z_V0 (mi' := mX11_thrown) dL_law_1138 lL_139 nX11_thrown kX11_thrown (Nat.le_of_ble_eq_true rfl) (Nat.le_of_ble_eq_true rfl) (by omega) (by omega) (hD3.2.1.1 0 (by decide)) rfl rfl ?_
    refine sX11_thrown hD3.2.1 ?_
    rw [zu_s]
    refine z_iload dL_law_1141 rfl ?_
    refine z_icmp_eq (tgt := 1148) dL_law_1143 (by decide) (fun _ => ?_) (fun c1 => absurd rfl c1)
    refine z_iload dL_law_1148 rfl ?_
    refine z_if_ne (tgt := 1165) dL_law_1150 (by decide) (fun _ => ?_) (fun c2 => absurd c2 hne9)
    refine z_goto (tgt := 2304) dL_law_1165 (by decide) ?_
    refine z_wid (k' := k + 32) (n' := n + 6400) (by omega) (by omega) ?_
    exact z_sub (lv' := [some (.ref (Γ.2.2.2.2 102)), some (.ref (ax 0)), some (.ref (am 0)), some (.ref ou), some (.ref od), some (.int (nI i)), none, none, none]) ⟨rfl, rfl, rfl, rfl, rfl, rfl, trivial⟩ (kk _ _ _ _ _ _ hD3 ((hW.seven _).up (by omega)))
set_option maxHeartbeats 4000000 in
set_option maxRecDepth 10000 in
theorem sLaw_markOf {Γ : zG} {G : zH} {Post : zP} {ax : Nat → Nat} {bq m : Nat} {ρ : Nat → zSt} {γ : zSt} {am : Nat → Nat} {μ : zSt} {ou od i k n MC MS : Nat} {Y : Int} (hD : zLd G ax bq m ρ γ am μ ou od) (hW : zWd ρ γ μ m Y) (hY : Y ≤ 1000000) (hi : i + 4 ≤ Γ.2.2.2.2 103) (hlen : Γ.2.2.2.2 103 ≤ 2048) (hk9 : k + 32 ≤ MC) (hn9 : n + 6400 ≤ MS) (kk : ∀ G1 bq1 m1 ρ1 γ1 μ1, zLd G1 ax bq1 m1 ρ1 γ1 am μ1 ou od → zWd ρ1 γ1 μ1 m1 (Y + 1260) → zX Γ mL_law 10 MC MS 2304 [some (.ref (Γ.2.2.2.2 102)), some (.ref (ax 0)), some (.ref (am 0)), some (.ref ou), some (.ref od), some (.int (nI i)), none, none, none] [] G1 (k + 32) (n + 6400) Post) : zX Γ mL_law 10 MC MS 1168 [some (.ref (Γ.2.2.2.2 102)), some (.ref (ax 0)), some (.ref (am 0)), some (.ref ou), some (.ref od), some (.int (nI i)), none, none, none] [] G k n Post := by
  obtain ⟨hC, hM, ⟨f0, hO⟩, ⟨f0d, hOd⟩, hSp⟩ := id hD
  obtain ⟨⟨S, F, E, K, mm, fl, hL, hB, hDi⟩, hW2, ⟨nx, ct, hX, hct, hring⟩, hW4, hW5, ⟨nt, hn1, hn2, hn60, htx, hch⟩, ⟨tx, hBt, hTx, h80⟩, hW0⟩ := id hW
  have hc8 := hX.2.2.2
  refine z_aload_n dL_law_1168 rfl ?_
  refine z_aload_n dL_law_1169 rfl ?_
  refine z_iload dL_law_1170 rfl ?_
  refine z_iconst (v := 1) dL_law_1172 (by decide) ?_
  refine z_iadd dL_law_1173 ?_
  refine z_sld dL_law_1174 (zscI (j := 1) (by omega) (by omega)) ?_
  refine z_aload_n dL_law_1175 rfl ?_
  refine z_iload dL_law_1176 rfl ?_
  refine z_iconst (v := 2) dL_law_1178 (by decide) ?_
  refine z_iadd dL_law_1179 ?_
  refine z_sld dL_law_1180 (zscI (j := 2) (by omega) (by omega)) ?_
  refine z_aload_n dL_law_1181 rfl ?_
  refine z_iload dL_law_1182 rfl ?_
  refine z_iconst (v := 3) dL_law_1184 (by decide) ?_
  refine z_iadd dL_law_1185 ?_
  refine z_sld dL_law_1186 (zscI (j := 3) (by omega) (by omega)) ?_
  refine z_aload_n dL_law_1187 rfl ?_
  refine z_callSW (mi' := mL_markOf) (As := [.ref (ax 0), .int _, .int _, .int _, .ref ou]) (mc' := 1) (ms' := 6) (z := 5) dL_law_1188 lL_187 nL_markOf kgL_markOf9 (Nat.le_of_ble_eq_true rfl) rfl (Nat.le_of_ble_eq_true rfl) (by omega) (by omega) ?_
  refine sL_markOf (hC.1 0 (by decide)) (fun P hP => ?_)
  refine sX10_markOf hC hL.n (hP _ _ ?_)
  rcases zis_markOf with ⟨v, e9⟩ | ⟨E9, c9, e9, hc9, hne9⟩
  · refine Or.inl ⟨v, f0, e9, hO, ?_⟩
    have hD2 := hD.out (vp_updL f0 0 v.toInt64)
    have hM2 := hD2.2.1
    refine z_istore dL_law_1191 (by decide) rfl ?_
    refine z_aload_n dL_law_1193 rfl ?_
    refine z_aload_n dL_law_1194 rfl ?_
    refine z_iload dL_law_1195 rfl ?_
    refine z_iconst (v := 1) dL_law_1197 (by decide) ?_
    refine z_iadd dL_law_1198 ?_
    refine z_sld dL_law_1199 (zscI (j := 1) (by omega) (by omega)) ?_
    refine z_aload_n dL_law_1200 rfl ?_
    refine z_iload dL_law_1201 rfl ?_
    refine z_iconst (v := 2) dL_law_1203 (by decide) ?_
    refine z_iadd dL_law_1204 ?_
    refine z_sld dL_law_1205 (zscI (j := 2) (by omega) (by omega)) ?_
    refine z_aload_n dL_law_1206 rfl ?_
    refine z_iload dL_law_1207 rfl ?_
    refine z_iconst (v := 3) dL_law_1209 (by decide) ?_
    refine z_iadd dL_law_1210 ?_
    refine z_sld dL_law_1211 (zscI (j := 3) (by omega) (by omega)) ?_
    refine z_V3 (mi' := mX11_markOf) dL_law_1212 lL_189 nX11_markOf kX11_markOf (Nat.le_of_ble_eq_true rfl) (Nat.le_of_ble_eq_true rfl) (by omega) (by omega) (hD2.2.1.1 0 (by decide)) rfl rfl ?_
    refine sX11_markOf hM2 hL (fun r c G2 hz hM3 hF3 => ?_)
    have hD3 := hD2.mod hM3 hF3
    rw [e9] at hz
    obtain ⟨rfl, rfl⟩ := hz
    have hso := (hD2.seeO hF3).trans (zset_s _ _ _)
    refine z_istore dL_law_1215 (by decide) rfl ?_
    refine z_aload_n dL_law_1217 rfl ?_
    refine z_V0 (mi' := mX11_thrown) dL_law_1218 lL_139 nX11_thrown kX11_thrown (Nat.le_of_ble_eq_true rfl) (Nat.le_of_ble_eq_true rfl) (by omega) (by omega) (hD3.2.1.1 0 (by decide)) rfl rfl ?_
    refine sX11_thrown hD3.2.1 ?_
    rw [zu_s]
    refine z_iload dL_law_1221 rfl ?_
    refine z_icmp_eq (tgt := 1228) dL_law_1223 (by decide) (fun _ => ?_) (fun c1 => absurd rfl c1)
    refine z_iload dL_law_1228 rfl ?_
    refine z_if_ne (tgt := 1245) dL_law_1230 (by decide) (fun c2 => absurd rfl c2) (fun _ => ?_)
    refine z_aload_n dL_law_1233 rfl ?_
    refine z_iconst (v := 0) dL_law_1234 (by decide) ?_
    refine z_lald dL_law_1235 hso (vp_in_nI (n := 0) (show 0 < 1 by decide) (by decide)) ?_
    refine z_iload dL_law_1236 rfl ?_
    refine z_i2l dL_law_1238 ?_
    refine z_lcmp dL_law_1239 ?_
    refine z_if_eq (tgt := 1245) dL_law_1240 (by decide) (fun _ => ?_) (fun c3 => absurd (zlcmp _) c3)
    refine z_goto (tgt := 2304) dL_law_1245 (by decide) ?_
    refine z_wid (k' := k + 32) (n' := n + 6400) (by omega) (by omega) ?_
    exact z_sub (lv' := [some (.ref (Γ.2.2.2.2 102)), some (.ref (ax 0)), some (.ref (am 0)), some (.ref ou), some (.ref od), some (.int (nI i)), none, none, none]) ⟨rfl, rfl, rfl, rfl, rfl, rfl, trivial⟩ (kk _ _ _ _ _ _ hD3 ((hW.seven 0).up (by omega)))
  · refine Or.inr ⟨E9, c9, e9, hc9, ?_⟩
    have hD2 := hD
    have hM2 := hD2.2.1
    refine z_istore dL_law_1191 (by decide) rfl ?_
    refine z_aload_n dL_law_1193 rfl ?_
    refine z_aload_n dL_law_1194 rfl ?_
    refine z_iload dL_law_1195 rfl ?_
    refine z_iconst (v := 1) dL_law_1197 (by decide) ?_
    refine z_iadd dL_law_1198 ?_
    refine z_sld dL_law_1199 (zscI (j := 1) (by omega) (by omega)) ?_
    refine z_aload_n dL_law_1200 rfl ?_
    refine z_iload dL_law_1201 rfl ?_
    refine z_iconst (v := 2) dL_law_1203 (by decide) ?_
    refine z_iadd dL_law_1204 ?_
    refine z_sld dL_law_1205 (zscI (j := 2) (by omega) (by omega)) ?_
    refine z_aload_n dL_law_1206 rfl ?_
    refine z_iload dL_law_1207 rfl ?_
    refine z_iconst (v := 3) dL_law_1209 (by decide) ?_
    refine z_iadd dL_law_1210 ?_
    refine z_sld dL_law_1211 (zscI (j := 3) (by omega) (by omega)) ?_
    refine z_V3 (mi' := mX11_markOf) dL_law_1212 lL_189 nX11_markOf kX11_markOf (Nat.le_of_ble_eq_true rfl) (Nat.le_of_ble_eq_true rfl) (by omega) (by omega) (hD2.2.1.1 0 (by decide)) rfl rfl ?_
    refine sX11_markOf hM2 hL (fun r c G2 hz hM3 hF3 => ?_)
    have hD3 := hD2.mod hM3 hF3
    rw [e9] at hz
    obtain rfl : c = c9 := Option.some.inj (hz.symm.trans hc9)
    refine z_istore dL_law_1215 (by decide) rfl ?_
    refine z_aload_n dL_law_1217 rfl ?_
    refine z_V0 (mi' := mX11_thrown) dL_law_1218 lL_139 nX11_thrown kX11_thrown (Nat.le_of_ble_eq_true rfl) (Nat.le_of_ble_eq_true rfl) (by omega) (by omega) (hD3.2.1.1 0 (by decide)) rfl rfl ?_
    refine sX11_thrown hD3.2.1 ?_
    rw [zu_s]
    refine z_iload dL_law_1221 rfl ?_
    refine z_icmp_eq (tgt := 1228) dL_law_1223 (by decide) (fun _ => ?_) (fun c1 => absurd rfl c1)
    refine z_iload dL_law_1228 rfl ?_
    refine z_if_ne (tgt := 1245) dL_law_1230 (by decide) (fun _ => ?_) (fun c2 => absurd c2 hne9)
    refine z_goto (tgt := 2304) dL_law_1245 (by decide) ?_
    refine z_wid (k' := k + 32) (n' := n + 6400) (by omega) (by omega) ?_
    exact z_sub (lv' := [some (.ref (Γ.2.2.2.2 102)), some (.ref (ax 0)), some (.ref (am 0)), some (.ref ou), some (.ref od), some (.int (nI i)), none, none, none]) ⟨rfl, rfl, rfl, rfl, rfl, rfl, trivial⟩ (kk _ _ _ _ _ _ hD3 ((hW.seven _).up (by omega)))
set_option maxHeartbeats 4000000 in
set_option maxRecDepth 10000 in
theorem sLaw_mark {Γ : zG} {G : zH} {Post : zP} {ax : Nat → Nat} {bq m : Nat} {ρ : Nat → zSt} {γ : zSt} {am : Nat → Nat} {μ : zSt} {ou od i k n MC MS : Nat} {Y : Int} (hD : zLd G ax bq m ρ γ am μ ou od) (hW : zWd ρ γ μ m Y) (hY : Y ≤ 1000000) (hi : i + 4 ≤ Γ.2.2.2.2 103) (hlen : Γ.2.2.2.2 103 ≤ 2048) (hk9 : k + 32 ≤ MC) (hn9 : n + 6400 ≤ MS) (kk : ∀ G1 bq1 m1 ρ1 γ1 μ1, zLd G1 ax bq1 m1 ρ1 γ1 am μ1 ou od → zWd ρ1 γ1 μ1 m1 (Y + 1260) → zX Γ mL_law 10 MC MS 2304 [some (.ref (Γ.2.2.2.2 102)), some (.ref (ax 0)), some (.ref (am 0)), some (.ref ou), some (.ref od), some (.int (nI i)), none, none, none] [] G1 (k + 32) (n + 6400) Post) : zX Γ mL_law 10 MC MS 1248 [some (.ref (Γ.2.2.2.2 102)), some (.ref (ax 0)), some (.ref (am 0)), some (.ref ou), some (.ref od), some (.int (nI i)), none, none, none] [] G k n Post := by
  obtain ⟨hC, hM, ⟨f0, hO⟩, ⟨f0d, hOd⟩, hSp⟩ := id hD
  obtain ⟨⟨S, F, E, K, mm, fl, hL, hB, hDi⟩, hW2, ⟨nx, ct, hX, hct, hring⟩, hW4, hW5, ⟨nt, hn1, hn2, hn60, htx, hch⟩, ⟨tx, hBt, hTx, h80⟩, hW0⟩ := id hW
  have hc8 := hX.2.2.2
  refine z_aload_n dL_law_1248 rfl ?_
  refine z_aload_n dL_law_1249 rfl ?_
  refine z_iload dL_law_1250 rfl ?_
  refine z_iconst (v := 1) dL_law_1252 (by decide) ?_
  refine z_iadd dL_law_1253 ?_
  refine z_sld dL_law_1254 (zscI (j := 1) (by omega) (by omega)) ?_
  refine z_aload_n dL_law_1255 rfl ?_
  refine z_iload dL_law_1256 rfl ?_
  refine z_iconst (v := 2) dL_law_1258 (by decide) ?_
  refine z_iadd dL_law_1259 ?_
  refine z_sld dL_law_1260 (zscI (j := 2) (by omega) (by omega)) ?_
  refine z_aload_n dL_law_1261 rfl ?_
  refine z_callSW (mi' := mL_mark) (As := [.ref (ax 0), .int _, .int _, .ref ou]) (mc' := 1) (ms' := 6) (z := 4) dL_law_1262 lL_190 nL_mark kgL_mark9 (Nat.le_of_ble_eq_true rfl) rfl (Nat.le_of_ble_eq_true rfl) (by omega) (by omega) ?_
  refine sL_mark (hC.1 0 (by decide)) (fun P hP => ?_)
  refine sX10_mark hC hL.n (hP _ _ ?_)
  rcases zis_mark with ⟨v, e9⟩ | ⟨E9, c9, e9, hc9, hne9⟩
  · refine Or.inl ⟨v, f0, e9, hO, ?_⟩
    have hD2 := hD.out (vp_updL f0 0 v.toInt64)
    have hM2 := hD2.2.1
    refine z_istore dL_law_1265 (by decide) rfl ?_
    refine z_aload_n dL_law_1267 rfl ?_
    refine z_aload_n dL_law_1268 rfl ?_
    refine z_iload dL_law_1269 rfl ?_
    refine z_iconst (v := 1) dL_law_1271 (by decide) ?_
    refine z_iadd dL_law_1272 ?_
    refine z_sld dL_law_1273 (zscI (j := 1) (by omega) (by omega)) ?_
    refine z_aload_n dL_law_1274 rfl ?_
    refine z_iload dL_law_1275 rfl ?_
    refine z_iconst (v := 2) dL_law_1277 (by decide) ?_
    refine z_iadd dL_law_1278 ?_
    refine z_sld dL_law_1279 (zscI (j := 2) (by omega) (by omega)) ?_
    refine z_V2 (mi' := mX11_mark) dL_law_1280 lL_192 nX11_mark kX11_mark (Nat.le_of_ble_eq_true rfl) (Nat.le_of_ble_eq_true rfl) (by omega) (by omega) (hD2.2.1.1 0 (by decide)) rfl rfl ?_
    refine sX11_mark hM2 hL hDi (fun r c G2 hz hM3 hF3 => ?_)
    have hD3 := hD2.mod hM3 hF3
    rw [e9] at hz
    obtain ⟨rfl, rfl⟩ := hz
    have hso := (hD2.seeO hF3).trans (zset_s _ _ _)
    refine z_istore dL_law_1283 (by decide) rfl ?_
    refine z_aload_n dL_law_1285 rfl ?_
    refine z_V0 (mi' := mX11_thrown) dL_law_1286 lL_139 nX11_thrown kX11_thrown (Nat.le_of_ble_eq_true rfl) (Nat.le_of_ble_eq_true rfl) (by omega) (by omega) (hD3.2.1.1 0 (by decide)) rfl rfl ?_
    refine sX11_thrown hD3.2.1 ?_
    rw [zu_s]
    refine z_iload dL_law_1289 rfl ?_
    refine z_icmp_eq (tgt := 1296) dL_law_1291 (by decide) (fun _ => ?_) (fun c1 => absurd rfl c1)
    refine z_iload dL_law_1296 rfl ?_
    refine z_if_ne (tgt := 1313) dL_law_1298 (by decide) (fun c2 => absurd rfl c2) (fun _ => ?_)
    refine z_aload_n dL_law_1301 rfl ?_
    refine z_iconst (v := 0) dL_law_1302 (by decide) ?_
    refine z_lald dL_law_1303 hso (vp_in_nI (n := 0) (show 0 < 1 by decide) (by decide)) ?_
    refine z_iload dL_law_1304 rfl ?_
    refine z_i2l dL_law_1306 ?_
    refine z_lcmp dL_law_1307 ?_
    refine z_if_eq (tgt := 1313) dL_law_1308 (by decide) (fun _ => ?_) (fun c3 => absurd (zlcmp _) c3)
    refine z_goto (tgt := 2304) dL_law_1313 (by decide) ?_
    refine z_wid (k' := k + 32) (n' := n + 6400) (by omega) (by omega) ?_
    exact z_sub (lv' := [some (.ref (Γ.2.2.2.2 102)), some (.ref (ax 0)), some (.ref (am 0)), some (.ref ou), some (.ref od), some (.int (nI i)), none, none, none]) ⟨rfl, rfl, rfl, rfl, rfl, rfl, trivial⟩ (kk _ _ _ _ _ _ hD3 ((hW.seven 0).up (by omega)))
  · refine Or.inr ⟨E9, c9, e9, hc9, ?_⟩
    have hD2 := hD
    have hM2 := hD2.2.1
    refine z_istore dL_law_1265 (by decide) rfl ?_
    refine z_aload_n dL_law_1267 rfl ?_
    refine z_aload_n dL_law_1268 rfl ?_
    refine z_iload dL_law_1269 rfl ?_
    refine z_iconst (v := 1) dL_law_1271 (by decide) ?_
    refine z_iadd dL_law_1272 ?_
    refine z_sld dL_law_1273 (zscI (j := 1) (by omega) (by omega)) ?_
    refine z_aload_n dL_law_1274 rfl ?_
    refine z_iload dL_law_1275 rfl ?_
    refine z_iconst (v := 2) dL_law_1277 (by decide) ?_
    refine z_iadd dL_law_1278 ?_
    refine z_sld dL_law_1279 (zscI (j := 2) (by omega) (by omega)) ?_
    refine z_V2 (mi' := mX11_mark) dL_law_1280 lL_192 nX11_mark kX11_mark (Nat.le_of_ble_eq_true rfl) (Nat.le_of_ble_eq_true rfl) (by omega) (by omega) (hD2.2.1.1 0 (by decide)) rfl rfl ?_
    refine sX11_mark hM2 hL hDi (fun r c G2 hz hM3 hF3 => ?_)
    have hD3 := hD2.mod hM3 hF3
    rw [e9] at hz
    obtain rfl : c = c9 := Option.some.inj (hz.symm.trans hc9)
    refine z_istore dL_law_1283 (by decide) rfl ?_
    refine z_aload_n dL_law_1285 rfl ?_
    refine z_V0 (mi' := mX11_thrown) dL_law_1286 lL_139 nX11_thrown kX11_thrown (Nat.le_of_ble_eq_true rfl) (Nat.le_of_ble_eq_true rfl) (by omega) (by omega) (hD3.2.1.1 0 (by decide)) rfl rfl ?_
    refine sX11_thrown hD3.2.1 ?_
    rw [zu_s]
    refine z_iload dL_law_1289 rfl ?_
    refine z_icmp_eq (tgt := 1296) dL_law_1291 (by decide) (fun _ => ?_) (fun c1 => absurd rfl c1)
    refine z_iload dL_law_1296 rfl ?_
    refine z_if_ne (tgt := 1313) dL_law_1298 (by decide) (fun _ => ?_) (fun c2 => absurd c2 hne9)
    refine z_goto (tgt := 2304) dL_law_1313 (by decide) ?_
    refine z_wid (k' := k + 32) (n' := n + 6400) (by omega) (by omega) ?_
    exact z_sub (lv' := [some (.ref (Γ.2.2.2.2 102)), some (.ref (ax 0)), some (.ref (am 0)), some (.ref ou), some (.ref od), some (.int (nI i)), none, none, none]) ⟨rfl, rfl, rfl, rfl, rfl, rfl, trivial⟩ (kk _ _ _ _ _ _ hD3 ((hW.seven _).up (by omega)))
set_option maxHeartbeats 4000000 in
set_option maxRecDepth 10000 in
theorem sLaw_level {Γ : zG} {G : zH} {Post : zP} {ax : Nat → Nat} {bq m : Nat} {ρ : Nat → zSt} {γ : zSt} {am : Nat → Nat} {μ : zSt} {ou od i k n MC MS : Nat} {Y : Int} (hD : zLd G ax bq m ρ γ am μ ou od) (hW : zWd ρ γ μ m Y) (hY : Y ≤ 1000000) (hi : i + 4 ≤ Γ.2.2.2.2 103) (hlen : Γ.2.2.2.2 103 ≤ 2048) (hk9 : k + 32 ≤ MC) (hn9 : n + 6400 ≤ MS) (kk : ∀ G1 bq1 m1 ρ1 γ1 μ1, zLd G1 ax bq1 m1 ρ1 γ1 am μ1 ou od → zWd ρ1 γ1 μ1 m1 (Y + 1260) → zX Γ mL_law 10 MC MS 2304 [some (.ref (Γ.2.2.2.2 102)), some (.ref (ax 0)), some (.ref (am 0)), some (.ref ou), some (.ref od), some (.int (nI i)), none, none, none] [] G1 (k + 32) (n + 6400) Post) : zX Γ mL_law 10 MC MS 1316 [some (.ref (Γ.2.2.2.2 102)), some (.ref (ax 0)), some (.ref (am 0)), some (.ref ou), some (.ref od), some (.int (nI i)), none, none, none] [] G k n Post := by
  obtain ⟨hC, hM, ⟨f0, hO⟩, ⟨f0d, hOd⟩, hSp⟩ := id hD
  obtain ⟨⟨S, F, E, K, mm, fl, hL, hB, hDi⟩, hW2, ⟨nx, ct, hX, hct, hring⟩, hW4, hW5, ⟨nt, hn1, hn2, hn60, htx, hch⟩, ⟨tx, hBt, hTx, h80⟩, hW0⟩ := id hW
  have hc8 := hX.2.2.2
  refine z_aload_n dL_law_1316 rfl ?_
  refine z_aload_n dL_law_1317 rfl ?_
  refine z_iload dL_law_1318 rfl ?_
  refine z_iconst (v := 1) dL_law_1320 (by decide) ?_
  refine z_iadd dL_law_1321 ?_
  refine z_sld dL_law_1322 (zscI (j := 1) (by omega) (by omega)) ?_
  refine z_aload_n dL_law_1323 rfl ?_
  refine z_iload dL_law_1324 rfl ?_
  refine z_iconst (v := 2) dL_law_1326 (by decide) ?_
  refine z_iadd dL_law_1327 ?_
  refine z_sld dL_law_1328 (zscI (j := 2) (by omega) (by omega)) ?_
  refine z_aload_n dL_law_1329 rfl ?_
  refine z_callSW (mi' := mL_level) (As := [.ref (ax 0), .int _, .int _, .ref ou]) (mc' := 1) (ms' := 6) (z := 4) dL_law_1330 lL_193 nL_level kgL_level9 (Nat.le_of_ble_eq_true rfl) rfl (Nat.le_of_ble_eq_true rfl) (by omega) (by omega) ?_
  refine sL_level (hC.1 0 (by decide)) (fun P hP => ?_)
  refine sX10_level hC hL.n (hP _ _ ?_)
  rcases zis_level with ⟨v, e9⟩ | ⟨E9, c9, e9, hc9, hne9⟩
  · refine Or.inl ⟨v, f0, e9, hO, ?_⟩
    have hD2 := hD.out (vp_updL f0 0 v.toInt64)
    have hM2 := hD2.2.1
    refine z_istore dL_law_1333 (by decide) rfl ?_
    refine z_aload_n dL_law_1335 rfl ?_
    refine z_aload_n dL_law_1336 rfl ?_
    refine z_iload dL_law_1337 rfl ?_
    refine z_iconst (v := 1) dL_law_1339 (by decide) ?_
    refine z_iadd dL_law_1340 ?_
    refine z_sld dL_law_1341 (zscI (j := 1) (by omega) (by omega)) ?_
    refine z_aload_n dL_law_1342 rfl ?_
    refine z_iload dL_law_1343 rfl ?_
    refine z_iconst (v := 2) dL_law_1345 (by decide) ?_
    refine z_iadd dL_law_1346 ?_
    refine z_sld dL_law_1347 (zscI (j := 2) (by omega) (by omega)) ?_
    refine z_V2 (mi' := mX11_level) dL_law_1348 lL_195 nX11_level kX11_level (Nat.le_of_ble_eq_true rfl) (Nat.le_of_ble_eq_true rfl) (by omega) (by omega) (hD2.2.1.1 0 (by decide)) rfl rfl ?_
    refine sX11_level hM2 hL (fun r c G2 hz hM3 hF3 => ?_)
    have hD3 := hD2.mod hM3 hF3
    rw [e9] at hz
    obtain ⟨rfl, rfl⟩ := hz
    have hso := (hD2.seeO hF3).trans (zset_s _ _ _)
    refine z_istore dL_law_1351 (by decide) rfl ?_
    refine z_aload_n dL_law_1353 rfl ?_
    refine z_V0 (mi' := mX11_thrown) dL_law_1354 lL_139 nX11_thrown kX11_thrown (Nat.le_of_ble_eq_true rfl) (Nat.le_of_ble_eq_true rfl) (by omega) (by omega) (hD3.2.1.1 0 (by decide)) rfl rfl ?_
    refine sX11_thrown hD3.2.1 ?_
    rw [zu_s]
    refine z_iload dL_law_1357 rfl ?_
    refine z_icmp_eq (tgt := 1364) dL_law_1359 (by decide) (fun _ => ?_) (fun c1 => absurd rfl c1)
    refine z_iload dL_law_1364 rfl ?_
    refine z_if_ne (tgt := 1381) dL_law_1366 (by decide) (fun c2 => absurd rfl c2) (fun _ => ?_)
    refine z_aload_n dL_law_1369 rfl ?_
    refine z_iconst (v := 0) dL_law_1370 (by decide) ?_
    refine z_lald dL_law_1371 hso (vp_in_nI (n := 0) (show 0 < 1 by decide) (by decide)) ?_
    refine z_iload dL_law_1372 rfl ?_
    refine z_i2l dL_law_1374 ?_
    refine z_lcmp dL_law_1375 ?_
    refine z_if_eq (tgt := 1381) dL_law_1376 (by decide) (fun _ => ?_) (fun c3 => absurd (zlcmp _) c3)
    refine z_goto (tgt := 2304) dL_law_1381 (by decide) ?_
    refine z_wid (k' := k + 32) (n' := n + 6400) (by omega) (by omega) ?_
    exact z_sub (lv' := [some (.ref (Γ.2.2.2.2 102)), some (.ref (ax 0)), some (.ref (am 0)), some (.ref ou), some (.ref od), some (.int (nI i)), none, none, none]) ⟨rfl, rfl, rfl, rfl, rfl, rfl, trivial⟩ (kk _ _ _ _ _ _ hD3 ((hW.seven 0).up (by omega)))
  · refine Or.inr ⟨E9, c9, e9, hc9, ?_⟩
    have hD2 := hD
    have hM2 := hD2.2.1
    refine z_istore dL_law_1333 (by decide) rfl ?_
    refine z_aload_n dL_law_1335 rfl ?_
    refine z_aload_n dL_law_1336 rfl ?_
    refine z_iload dL_law_1337 rfl ?_
    refine z_iconst (v := 1) dL_law_1339 (by decide) ?_
    refine z_iadd dL_law_1340 ?_
    refine z_sld dL_law_1341 (zscI (j := 1) (by omega) (by omega)) ?_
    refine z_aload_n dL_law_1342 rfl ?_
    refine z_iload dL_law_1343 rfl ?_
    refine z_iconst (v := 2) dL_law_1345 (by decide) ?_
    refine z_iadd dL_law_1346 ?_
    refine z_sld dL_law_1347 (zscI (j := 2) (by omega) (by omega)) ?_
    refine z_V2 (mi' := mX11_level) dL_law_1348 lL_195 nX11_level kX11_level (Nat.le_of_ble_eq_true rfl) (Nat.le_of_ble_eq_true rfl) (by omega) (by omega) (hD2.2.1.1 0 (by decide)) rfl rfl ?_
    refine sX11_level hM2 hL (fun r c G2 hz hM3 hF3 => ?_)
    have hD3 := hD2.mod hM3 hF3
    rw [e9] at hz
    obtain rfl : c = c9 := Option.some.inj (hz.symm.trans hc9)
    refine z_istore dL_law_1351 (by decide) rfl ?_
    refine z_aload_n dL_law_1353 rfl ?_
    refine z_V0 (mi' := mX11_thrown) dL_law_1354 lL_139 nX11_thrown kX11_thrown (Nat.le_of_ble_eq_true rfl) (Nat.le_of_ble_eq_true rfl) (by omega) (by omega) (hD3.2.1.1 0 (by decide)) rfl rfl ?_
    refine sX11_thrown hD3.2.1 ?_
    rw [zu_s]
    refine z_iload dL_law_1357 rfl ?_
    refine z_icmp_eq (tgt := 1364) dL_law_1359 (by decide) (fun _ => ?_) (fun c1 => absurd rfl c1)
    refine z_iload dL_law_1364 rfl ?_
    refine z_if_ne (tgt := 1381) dL_law_1366 (by decide) (fun _ => ?_) (fun c2 => absurd c2 hne9)
    refine z_goto (tgt := 2304) dL_law_1381 (by decide) ?_
    refine z_wid (k' := k + 32) (n' := n + 6400) (by omega) (by omega) ?_
    exact z_sub (lv' := [some (.ref (Γ.2.2.2.2 102)), some (.ref (ax 0)), some (.ref (am 0)), some (.ref ou), some (.ref od), some (.int (nI i)), none, none, none]) ⟨rfl, rfl, rfl, rfl, rfl, rfl, trivial⟩ (kk _ _ _ _ _ _ hD3 ((hW.seven _).up (by omega)))
set_option maxHeartbeats 4000000 in
set_option maxRecDepth 10000 in
theorem sLaw_reads {Γ : zG} {G : zH} {Post : zP} {ax : Nat → Nat} {bq m : Nat} {ρ : Nat → zSt} {γ : zSt} {am : Nat → Nat} {μ : zSt} {ou od i k n MC MS : Nat} {Y : Int} (hD : zLd G ax bq m ρ γ am μ ou od) (hW : zWd ρ γ μ m Y) (hY : Y ≤ 1000000) (hi : i + 4 ≤ Γ.2.2.2.2 103) (hlen : Γ.2.2.2.2 103 ≤ 2048) (hk9 : k + 32 ≤ MC) (hn9 : n + 6400 ≤ MS) (kk : ∀ G1 bq1 m1 ρ1 γ1 μ1, zLd G1 ax bq1 m1 ρ1 γ1 am μ1 ou od → zWd ρ1 γ1 μ1 m1 (Y + 1260) → zX Γ mL_law 10 MC MS 2304 [some (.ref (Γ.2.2.2.2 102)), some (.ref (ax 0)), some (.ref (am 0)), some (.ref ou), some (.ref od), some (.int (nI i)), none, none, none] [] G1 (k + 32) (n + 6400) Post) : zX Γ mL_law 10 MC MS 1384 [some (.ref (Γ.2.2.2.2 102)), some (.ref (ax 0)), some (.ref (am 0)), some (.ref ou), some (.ref od), some (.int (nI i)), none, none, none] [] G k n Post := by
  obtain ⟨hC, hM, ⟨f0, hO⟩, ⟨f0d, hOd⟩, hSp⟩ := id hD
  obtain ⟨⟨S, F, E, K, mm, fl, hL, hB, hDi⟩, hW2, ⟨nx, ct, hX, hct, hring⟩, hW4, hW5, ⟨nt, hn1, hn2, hn60, htx, hch⟩, ⟨tx, hBt, hTx, h80⟩, hW0⟩ := id hW
  have hc8 := hX.2.2.2
  refine z_aload_n dL_law_1384 rfl ?_
  refine z_aload_n dL_law_1385 rfl ?_
  refine z_iload dL_law_1386 rfl ?_
  refine z_iconst (v := 1) dL_law_1388 (by decide) ?_
  refine z_iadd dL_law_1389 ?_
  refine z_sld dL_law_1390 (zscI (j := 1) (by omega) (by omega)) ?_
  refine z_aload_n dL_law_1391 rfl ?_
  refine z_iload dL_law_1392 rfl ?_
  refine z_iconst (v := 2) dL_law_1394 (by decide) ?_
  refine z_iadd dL_law_1395 ?_
  refine z_sld dL_law_1396 (zscI (j := 2) (by omega) (by omega)) ?_
  refine z_aload_n dL_law_1397 rfl ?_
  refine z_callSW (mi' := mL_reads) (As := [.ref (ax 0), .int _, .int _, .ref ou]) (mc' := 1) (ms' := 6) (z := 4) dL_law_1398 lL_196 nL_reads kgL_reads9 (Nat.le_of_ble_eq_true rfl) rfl (Nat.le_of_ble_eq_true rfl) (by omega) (by omega) ?_
  refine sL_reads (hC.1 0 (by decide)) (fun P hP => ?_)
  refine sX10_reads hC hL.n (hP _ _ ?_)
  rcases zis_reads with ⟨v, e9⟩ | ⟨E9, c9, e9, hc9, hne9⟩
  · refine Or.inl ⟨v, f0, e9, hO, ?_⟩
    have hD2 := hD.out (vp_updL f0 0 v.toInt64)
    have hM2 := hD2.2.1
    refine z_istore dL_law_1401 (by decide) rfl ?_
    refine z_aload_n dL_law_1403 rfl ?_
    refine z_aload_n dL_law_1404 rfl ?_
    refine z_iload dL_law_1405 rfl ?_
    refine z_iconst (v := 1) dL_law_1407 (by decide) ?_
    refine z_iadd dL_law_1408 ?_
    refine z_sld dL_law_1409 (zscI (j := 1) (by omega) (by omega)) ?_
    refine z_aload_n dL_law_1410 rfl ?_
    refine z_iload dL_law_1411 rfl ?_
    refine z_iconst (v := 2) dL_law_1413 (by decide) ?_
    refine z_iadd dL_law_1414 ?_
    refine z_sld dL_law_1415 (zscI (j := 2) (by omega) (by omega)) ?_
    refine z_V2 (mi' := mX11_reads) dL_law_1416 lL_198 nX11_reads kX11_reads (Nat.le_of_ble_eq_true rfl) (Nat.le_of_ble_eq_true rfl) (by omega) (by omega) (hD2.2.1.1 0 (by decide)) rfl rfl ?_
    refine sX11_reads hM2 hL (fun r c G2 hz hM3 hF3 => ?_)
    have hD3 := hD2.mod hM3 hF3
    rw [e9] at hz
    obtain ⟨rfl, rfl⟩ := hz
    have hso := (hD2.seeO hF3).trans (zset_s _ _ _)
    refine z_istore dL_law_1419 (by decide) rfl ?_
    refine z_aload_n dL_law_1421 rfl ?_
    refine z_V0 (mi' := mX11_thrown) dL_law_1422 lL_139 nX11_thrown kX11_thrown (Nat.le_of_ble_eq_true rfl) (Nat.le_of_ble_eq_true rfl) (by omega) (by omega) (hD3.2.1.1 0 (by decide)) rfl rfl ?_
    refine sX11_thrown hD3.2.1 ?_
    rw [zu_s]
    refine z_iload dL_law_1425 rfl ?_
    refine z_icmp_eq (tgt := 1432) dL_law_1427 (by decide) (fun _ => ?_) (fun c1 => absurd rfl c1)
    refine z_iload dL_law_1432 rfl ?_
    refine z_if_ne (tgt := 1449) dL_law_1434 (by decide) (fun c2 => absurd rfl c2) (fun _ => ?_)
    refine z_aload_n dL_law_1437 rfl ?_
    refine z_iconst (v := 0) dL_law_1438 (by decide) ?_
    refine z_lald dL_law_1439 hso (vp_in_nI (n := 0) (show 0 < 1 by decide) (by decide)) ?_
    refine z_iload dL_law_1440 rfl ?_
    refine z_i2l dL_law_1442 ?_
    refine z_lcmp dL_law_1443 ?_
    refine z_if_eq (tgt := 1449) dL_law_1444 (by decide) (fun _ => ?_) (fun c3 => absurd (zlcmp _) c3)
    refine z_goto (tgt := 2304) dL_law_1449 (by decide) ?_
    refine z_wid (k' := k + 32) (n' := n + 6400) (by omega) (by omega) ?_
    exact z_sub (lv' := [some (.ref (Γ.2.2.2.2 102)), some (.ref (ax 0)), some (.ref (am 0)), some (.ref ou), some (.ref od), some (.int (nI i)), none, none, none]) ⟨rfl, rfl, rfl, rfl, rfl, rfl, trivial⟩ (kk _ _ _ _ _ _ hD3 ((hW.seven 0).up (by omega)))
  · refine Or.inr ⟨E9, c9, e9, hc9, ?_⟩
    have hD2 := hD
    have hM2 := hD2.2.1
    refine z_istore dL_law_1401 (by decide) rfl ?_
    refine z_aload_n dL_law_1403 rfl ?_
    refine z_aload_n dL_law_1404 rfl ?_
    refine z_iload dL_law_1405 rfl ?_
    refine z_iconst (v := 1) dL_law_1407 (by decide) ?_
    refine z_iadd dL_law_1408 ?_
    refine z_sld dL_law_1409 (zscI (j := 1) (by omega) (by omega)) ?_
    refine z_aload_n dL_law_1410 rfl ?_
    refine z_iload dL_law_1411 rfl ?_
    refine z_iconst (v := 2) dL_law_1413 (by decide) ?_
    refine z_iadd dL_law_1414 ?_
    refine z_sld dL_law_1415 (zscI (j := 2) (by omega) (by omega)) ?_
    refine z_V2 (mi' := mX11_reads) dL_law_1416 lL_198 nX11_reads kX11_reads (Nat.le_of_ble_eq_true rfl) (Nat.le_of_ble_eq_true rfl) (by omega) (by omega) (hD2.2.1.1 0 (by decide)) rfl rfl ?_
    refine sX11_reads hM2 hL (fun r c G2 hz hM3 hF3 => ?_)
    have hD3 := hD2.mod hM3 hF3
    rw [e9] at hz
    obtain rfl : c = c9 := Option.some.inj (hz.symm.trans hc9)
    refine z_istore dL_law_1419 (by decide) rfl ?_
    refine z_aload_n dL_law_1421 rfl ?_
    refine z_V0 (mi' := mX11_thrown) dL_law_1422 lL_139 nX11_thrown kX11_thrown (Nat.le_of_ble_eq_true rfl) (Nat.le_of_ble_eq_true rfl) (by omega) (by omega) (hD3.2.1.1 0 (by decide)) rfl rfl ?_
    refine sX11_thrown hD3.2.1 ?_
    rw [zu_s]
    refine z_iload dL_law_1425 rfl ?_
    refine z_icmp_eq (tgt := 1432) dL_law_1427 (by decide) (fun _ => ?_) (fun c1 => absurd rfl c1)
    refine z_iload dL_law_1432 rfl ?_
    refine z_if_ne (tgt := 1449) dL_law_1434 (by decide) (fun _ => ?_) (fun c2 => absurd c2 hne9)
    refine z_goto (tgt := 2304) dL_law_1449 (by decide) ?_
    refine z_wid (k' := k + 32) (n' := n + 6400) (by omega) (by omega) ?_
    exact z_sub (lv' := [some (.ref (Γ.2.2.2.2 102)), some (.ref (ax 0)), some (.ref (am 0)), some (.ref ou), some (.ref od), some (.int (nI i)), none, none, none]) ⟨rfl, rfl, rfl, rfl, rfl, rfl, trivial⟩ (kk _ _ _ _ _ _ hD3 ((hW.seven _).up (by omega)))
set_option maxHeartbeats 4000000 in
set_option maxRecDepth 10000 in
theorem sLaw_shift {Γ : zG} {G : zH} {Post : zP} {ax : Nat → Nat} {bq m : Nat} {ρ : Nat → zSt} {γ : zSt} {am : Nat → Nat} {μ : zSt} {ou od i k n MC MS : Nat} {Y : Int} (hD : zLd G ax bq m ρ γ am μ ou od) (hW : zWd ρ γ μ m Y) (hY : Y ≤ 1000000) (hi : i + 4 ≤ Γ.2.2.2.2 103) (hlen : Γ.2.2.2.2 103 ≤ 2048) (hk9 : k + 32 ≤ MC) (hn9 : n + 6400 ≤ MS) (kk : ∀ G1 bq1 m1 ρ1 γ1 μ1, zLd G1 ax bq1 m1 ρ1 γ1 am μ1 ou od → zWd ρ1 γ1 μ1 m1 (Y + 1260) → zX Γ mL_law 10 MC MS 2304 [some (.ref (Γ.2.2.2.2 102)), some (.ref (ax 0)), some (.ref (am 0)), some (.ref ou), some (.ref od), some (.int (nI i)), none, none, none] [] G1 (k + 32) (n + 6400) Post) : zX Γ mL_law 10 MC MS 1452 [some (.ref (Γ.2.2.2.2 102)), some (.ref (ax 0)), some (.ref (am 0)), some (.ref ou), some (.ref od), some (.int (nI i)), none, none, none] [] G k n Post := by
  obtain ⟨hC, hM, ⟨f0, hO⟩, ⟨f0d, hOd⟩, hSp⟩ := id hD
  obtain ⟨⟨S, F, E, K, mm, fl, hL, hB, hDi⟩, hW2, ⟨nx, ct, hX, hct, hring⟩, hW4, hW5, ⟨nt, hn1, hn2, hn60, htx, hch⟩, ⟨tx, hBt, hTx, h80⟩, hW0⟩ := id hW
  have hc8 := hX.2.2.2
  refine z_aload_n dL_law_1452 rfl ?_
  refine z_aload_n dL_law_1453 rfl ?_
  refine z_iload dL_law_1454 rfl ?_
  refine z_iconst (v := 1) dL_law_1456 (by decide) ?_
  refine z_iadd dL_law_1457 ?_
  refine z_sld dL_law_1458 (zscI (j := 1) (by omega) (by omega)) ?_
  refine z_aload_n dL_law_1459 rfl ?_
  refine z_callSW (mi' := mL_shift) (As := [.ref (ax 0), .int _, .ref ou]) (mc' := 1) (ms' := 6) (z := 3) dL_law_1460 lL_199 nL_shift kgL_shift9 (Nat.le_of_ble_eq_true rfl) rfl (Nat.le_of_ble_eq_true rfl) (by omega) (by omega) ?_
  refine sL_shift (hC.1 0 (by decide)) (fun P hP => ?_)
  refine sX10_shift hC hL.n (hP _ _ ?_)
  rcases zis_shift with ⟨v, e9⟩ | ⟨E9, c9, e9, hc9, hne9⟩
  · refine Or.inl ⟨v, f0, e9, hO, ?_⟩
    have hD2 := hD.out (vp_updL f0 0 v.toInt64)
    have hM2 := hD2.2.1
    refine z_istore dL_law_1463 (by decide) rfl ?_
    refine z_aload_n dL_law_1465 rfl ?_
    refine z_aload_n dL_law_1466 rfl ?_
    refine z_iload dL_law_1467 rfl ?_
    refine z_iconst (v := 1) dL_law_1469 (by decide) ?_
    refine z_iadd dL_law_1470 ?_
    refine z_sld dL_law_1471 (zscI (j := 1) (by omega) (by omega)) ?_
    refine z_V1 (mi' := mX11_shift) dL_law_1472 lL_201 nX11_shift kX11_shift (Nat.le_of_ble_eq_true rfl) (Nat.le_of_ble_eq_true rfl) (by omega) (by omega) (hD2.2.1.1 0 (by decide)) rfl rfl ?_
    refine sX11_shift hM2 hL (fun r c G2 hz hM3 hF3 => ?_)
    have hD3 := hD2.mod hM3 hF3
    rw [e9] at hz
    obtain ⟨rfl, rfl⟩ := hz
    have hso := (hD2.seeO hF3).trans (zset_s _ _ _)
    refine z_istore dL_law_1475 (by decide) rfl ?_
    refine z_aload_n dL_law_1477 rfl ?_
    refine z_V0 (mi' := mX11_thrown) dL_law_1478 lL_139 nX11_thrown kX11_thrown (Nat.le_of_ble_eq_true rfl) (Nat.le_of_ble_eq_true rfl) (by omega) (by omega) (hD3.2.1.1 0 (by decide)) rfl rfl ?_
    refine sX11_thrown hD3.2.1 ?_
    rw [zu_s]
    refine z_iload dL_law_1481 rfl ?_
    refine z_icmp_eq (tgt := 1488) dL_law_1483 (by decide) (fun _ => ?_) (fun c1 => absurd rfl c1)
    refine z_iload dL_law_1488 rfl ?_
    refine z_if_ne (tgt := 1505) dL_law_1490 (by decide) (fun c2 => absurd rfl c2) (fun _ => ?_)
    refine z_aload_n dL_law_1493 rfl ?_
    refine z_iconst (v := 0) dL_law_1494 (by decide) ?_
    refine z_lald dL_law_1495 hso (vp_in_nI (n := 0) (show 0 < 1 by decide) (by decide)) ?_
    refine z_iload dL_law_1496 rfl ?_
    refine z_i2l dL_law_1498 ?_
    refine z_lcmp dL_law_1499 ?_
    refine z_if_eq (tgt := 1505) dL_law_1500 (by decide) (fun _ => ?_) (fun c3 => absurd (zlcmp _) c3)
    refine z_goto (tgt := 2304) dL_law_1505 (by decide) ?_
    refine z_wid (k' := k + 32) (n' := n + 6400) (by omega) (by omega) ?_
    exact z_sub (lv' := [some (.ref (Γ.2.2.2.2 102)), some (.ref (ax 0)), some (.ref (am 0)), some (.ref ou), some (.ref od), some (.int (nI i)), none, none, none]) ⟨rfl, rfl, rfl, rfl, rfl, rfl, trivial⟩ (kk _ _ _ _ _ _ hD3 ((hW.seven 0).up (by omega)))
  · refine Or.inr ⟨E9, c9, e9, hc9, ?_⟩
    have hD2 := hD
    have hM2 := hD2.2.1
    refine z_istore dL_law_1463 (by decide) rfl ?_
    refine z_aload_n dL_law_1465 rfl ?_
    refine z_aload_n dL_law_1466 rfl ?_
    refine z_iload dL_law_1467 rfl ?_
    refine z_iconst (v := 1) dL_law_1469 (by decide) ?_
    refine z_iadd dL_law_1470 ?_
    refine z_sld dL_law_1471 (zscI (j := 1) (by omega) (by omega)) ?_
    refine z_V1 (mi' := mX11_shift) dL_law_1472 lL_201 nX11_shift kX11_shift (Nat.le_of_ble_eq_true rfl) (Nat.le_of_ble_eq_true rfl) (by omega) (by omega) (hD2.2.1.1 0 (by decide)) rfl rfl ?_
    refine sX11_shift hM2 hL (fun r c G2 hz hM3 hF3 => ?_)
    have hD3 := hD2.mod hM3 hF3
    rw [e9] at hz
    obtain rfl : c = c9 := Option.some.inj (hz.symm.trans hc9)
    refine z_istore dL_law_1475 (by decide) rfl ?_
    refine z_aload_n dL_law_1477 rfl ?_
    refine z_V0 (mi' := mX11_thrown) dL_law_1478 lL_139 nX11_thrown kX11_thrown (Nat.le_of_ble_eq_true rfl) (Nat.le_of_ble_eq_true rfl) (by omega) (by omega) (hD3.2.1.1 0 (by decide)) rfl rfl ?_
    refine sX11_thrown hD3.2.1 ?_
    rw [zu_s]
    refine z_iload dL_law_1481 rfl ?_
    refine z_icmp_eq (tgt := 1488) dL_law_1483 (by decide) (fun _ => ?_) (fun c1 => absurd rfl c1)
    refine z_iload dL_law_1488 rfl ?_
    refine z_if_ne (tgt := 1505) dL_law_1490 (by decide) (fun _ => ?_) (fun c2 => absurd c2 hne9)
    refine z_goto (tgt := 2304) dL_law_1505 (by decide) ?_
    refine z_wid (k' := k + 32) (n' := n + 6400) (by omega) (by omega) ?_
    exact z_sub (lv' := [some (.ref (Γ.2.2.2.2 102)), some (.ref (ax 0)), some (.ref (am 0)), some (.ref ou), some (.ref od), some (.int (nI i)), none, none, none]) ⟨rfl, rfl, rfl, rfl, rfl, rfl, trivial⟩ (kk _ _ _ _ _ _ hD3 ((hW.seven _).up (by omega)))
set_option maxHeartbeats 4000000 in
set_option maxRecDepth 10000 in
theorem sLaw_errorIn {Γ : zG} {G : zH} {Post : zP} {ax : Nat → Nat} {bq m : Nat} {ρ : Nat → zSt} {γ : zSt} {am : Nat → Nat} {μ : zSt} {ou od i k n MC MS : Nat} {Y : Int} (hD : zLd G ax bq m ρ γ am μ ou od) (hW : zWd ρ γ μ m Y) (hY : Y ≤ 1000000) (hi : i + 4 ≤ Γ.2.2.2.2 103) (hlen : Γ.2.2.2.2 103 ≤ 2048) (hk9 : k + 32 ≤ MC) (hn9 : n + 6400 ≤ MS) (kk : ∀ G1 bq1 m1 ρ1 γ1 μ1, zLd G1 ax bq1 m1 ρ1 γ1 am μ1 ou od → zWd ρ1 γ1 μ1 m1 (Y + 1260) → zX Γ mL_law 10 MC MS 2304 [some (.ref (Γ.2.2.2.2 102)), some (.ref (ax 0)), some (.ref (am 0)), some (.ref ou), some (.ref od), some (.int (nI i)), none, none, none] [] G1 (k + 32) (n + 6400) Post) : zX Γ mL_law 10 MC MS 1508 [some (.ref (Γ.2.2.2.2 102)), some (.ref (ax 0)), some (.ref (am 0)), some (.ref ou), some (.ref od), some (.int (nI i)), none, none, none] [] G k n Post := by
  obtain ⟨hC, hM, ⟨f0, hO⟩, ⟨f0d, hOd⟩, hSp⟩ := id hD
  obtain ⟨⟨S, F, E, K, mm, fl, hL, hB, hDi⟩, hW2, ⟨nx, ct, hX, hct, hring⟩, hW4, hW5, ⟨nt, hn1, hn2, hn60, htx, hch⟩, ⟨tx, hBt, hTx, h80⟩, hW0⟩ := id hW
  have hc8 := hX.2.2.2
  refine z_aload_n dL_law_1508 rfl ?_
  refine z_aload_n dL_law_1509 rfl ?_
  refine z_iload dL_law_1510 rfl ?_
  refine z_iconst (v := 1) dL_law_1512 (by decide) ?_
  refine z_iadd dL_law_1513 ?_
  refine z_sld dL_law_1514 (zscI (j := 1) (by omega) (by omega)) ?_
  refine z_aload_n dL_law_1515 rfl ?_
  refine z_iload dL_law_1516 rfl ?_
  refine z_iconst (v := 2) dL_law_1518 (by decide) ?_
  refine z_iadd dL_law_1519 ?_
  refine z_sld dL_law_1520 (zscI (j := 2) (by omega) (by omega)) ?_
  refine z_aload_n dL_law_1521 rfl ?_
  refine z_callSW (mi' := mL_errorIn) (As := [.ref (ax 0), .int _, .int _, .ref ou]) (mc' := 1) (ms' := 6) (z := 4) dL_law_1522 lL_202 nL_errorIn kgL_errorIn9 (Nat.le_of_ble_eq_true rfl) rfl (Nat.le_of_ble_eq_true rfl) (by omega) (by omega) ?_
  refine sL_errorIn (hC.1 0 (by decide)) (fun P hP => ?_)
  refine sX10_errorIn hC hL.n (hP _ _ ?_)
  rcases zis_errorIn with ⟨v, e9⟩ | ⟨E9, c9, e9, hc9, hne9⟩
  · refine Or.inl ⟨v, f0, e9, hO, ?_⟩
    have hD2 := hD.out (vp_updL f0 0 v.toInt64)
    have hM2 := hD2.2.1
    refine z_istore dL_law_1525 (by decide) rfl ?_
    refine z_aload_n dL_law_1527 rfl ?_
    refine z_aload_n dL_law_1528 rfl ?_
    refine z_iload dL_law_1529 rfl ?_
    refine z_iconst (v := 1) dL_law_1531 (by decide) ?_
    refine z_iadd dL_law_1532 ?_
    refine z_sld dL_law_1533 (zscI (j := 1) (by omega) (by omega)) ?_
    refine z_aload_n dL_law_1534 rfl ?_
    refine z_iload dL_law_1535 rfl ?_
    refine z_iconst (v := 2) dL_law_1537 (by decide) ?_
    refine z_iadd dL_law_1538 ?_
    refine z_sld dL_law_1539 (zscI (j := 2) (by omega) (by omega)) ?_
    refine z_V2 (mi' := mX11_errorIn) dL_law_1540 lL_204 nX11_errorIn kX11_errorIn (Nat.le_of_ble_eq_true rfl) (Nat.le_of_ble_eq_true rfl) (by omega) (by omega) (hD2.2.1.1 0 (by decide)) rfl rfl ?_
    refine sX11_errorIn hM2 hL hB hY (fun r c G2 hz hM3 hF3 => ?_)
    have hD3 := hD2.mod hM3 hF3
    rw [e9] at hz
    obtain ⟨rfl, rfl⟩ := hz
    have hso := (hD2.seeO hF3).trans (zset_s _ _ _)
    refine z_istore dL_law_1543 (by decide) rfl ?_
    refine z_aload_n dL_law_1545 rfl ?_
    refine z_V0 (mi' := mX11_thrown) dL_law_1546 lL_139 nX11_thrown kX11_thrown (Nat.le_of_ble_eq_true rfl) (Nat.le_of_ble_eq_true rfl) (by omega) (by omega) (hD3.2.1.1 0 (by decide)) rfl rfl ?_
    refine sX11_thrown hD3.2.1 ?_
    rw [zu_s]
    refine z_iload dL_law_1549 rfl ?_
    refine z_icmp_eq (tgt := 1556) dL_law_1551 (by decide) (fun _ => ?_) (fun c1 => absurd rfl c1)
    refine z_iload dL_law_1556 rfl ?_
    refine z_if_ne (tgt := 1573) dL_law_1558 (by decide) (fun c2 => absurd rfl c2) (fun _ => ?_)
    refine z_aload_n dL_law_1561 rfl ?_
    refine z_iconst (v := 0) dL_law_1562 (by decide) ?_
    refine z_lald dL_law_1563 hso (vp_in_nI (n := 0) (show 0 < 1 by decide) (by decide)) ?_
    refine z_iload dL_law_1564 rfl ?_
    refine z_i2l dL_law_1566 ?_
    refine z_lcmp dL_law_1567 ?_
    refine z_if_eq (tgt := 1573) dL_law_1568 (by decide) (fun _ => ?_) (fun c3 => absurd (zlcmp _) c3)
    refine z_goto (tgt := 2304) dL_law_1573 (by decide) ?_
    refine z_wid (k' := k + 32) (n' := n + 6400) (by omega) (by omega) ?_
    exact z_sub (lv' := [some (.ref (Γ.2.2.2.2 102)), some (.ref (ax 0)), some (.ref (am 0)), some (.ref ou), some (.ref od), some (.int (nI i)), none, none, none]) ⟨rfl, rfl, rfl, rfl, rfl, rfl, trivial⟩ (kk _ _ _ _ _ _ hD3 ((hW.seven 0).up (by omega)))
  · refine Or.inr ⟨E9, c9, e9, hc9, ?_⟩
    have hD2 := hD
    have hM2 := hD2.2.1
    refine z_istore dL_law_1525 (by decide) rfl ?_
    refine z_aload_n dL_law_1527 rfl ?_
    refine z_aload_n dL_law_1528 rfl ?_
    refine z_iload dL_law_1529 rfl ?_
    refine z_iconst (v := 1) dL_law_1531 (by decide) ?_
    refine z_iadd dL_law_1532 ?_
    refine z_sld dL_law_1533 (zscI (j := 1) (by omega) (by omega)) ?_
    refine z_aload_n dL_law_1534 rfl ?_
    refine z_iload dL_law_1535 rfl ?_
    refine z_iconst (v := 2) dL_law_1537 (by decide) ?_
    refine z_iadd dL_law_1538 ?_
    refine z_sld dL_law_1539 (zscI (j := 2) (by omega) (by omega)) ?_
    refine z_V2 (mi' := mX11_errorIn) dL_law_1540 lL_204 nX11_errorIn kX11_errorIn (Nat.le_of_ble_eq_true rfl) (Nat.le_of_ble_eq_true rfl) (by omega) (by omega) (hD2.2.1.1 0 (by decide)) rfl rfl ?_
    refine sX11_errorIn hM2 hL hB hY (fun r c G2 hz hM3 hF3 => ?_)
    have hD3 := hD2.mod hM3 hF3
    rw [e9] at hz
    obtain rfl : c = c9 := Option.some.inj (hz.symm.trans hc9)
    refine z_istore dL_law_1543 (by decide) rfl ?_
    refine z_aload_n dL_law_1545 rfl ?_
    refine z_V0 (mi' := mX11_thrown) dL_law_1546 lL_139 nX11_thrown kX11_thrown (Nat.le_of_ble_eq_true rfl) (Nat.le_of_ble_eq_true rfl) (by omega) (by omega) (hD3.2.1.1 0 (by decide)) rfl rfl ?_
    refine sX11_thrown hD3.2.1 ?_
    rw [zu_s]
    refine z_iload dL_law_1549 rfl ?_
    refine z_icmp_eq (tgt := 1556) dL_law_1551 (by decide) (fun _ => ?_) (fun c1 => absurd rfl c1)
    refine z_iload dL_law_1556 rfl ?_
    refine z_if_ne (tgt := 1573) dL_law_1558 (by decide) (fun _ => ?_) (fun c2 => absurd c2 hne9)
    refine z_goto (tgt := 2304) dL_law_1573 (by decide) ?_
    refine z_wid (k' := k + 32) (n' := n + 6400) (by omega) (by omega) ?_
    exact z_sub (lv' := [some (.ref (Γ.2.2.2.2 102)), some (.ref (ax 0)), some (.ref (am 0)), some (.ref ou), some (.ref od), some (.int (nI i)), none, none, none]) ⟨rfl, rfl, rfl, rfl, rfl, rfl, trivial⟩ (kk _ _ _ _ _ _ hD3 ((hW.seven _).up (by omega)))
set_option maxHeartbeats 4000000 in
set_option maxRecDepth 10000 in
theorem sLaw_reason {Γ : zG} {G : zH} {Post : zP} {ax : Nat → Nat} {bq m : Nat} {ρ : Nat → zSt} {γ : zSt} {am : Nat → Nat} {μ : zSt} {ou od i k n MC MS : Nat} {Y : Int} (hD : zLd G ax bq m ρ γ am μ ou od) (hW : zWd ρ γ μ m Y) (hY : Y ≤ 1000000) (hi : i + 4 ≤ Γ.2.2.2.2 103) (hlen : Γ.2.2.2.2 103 ≤ 2048) (hk9 : k + 32 ≤ MC) (hn9 : n + 6400 ≤ MS) (kk : ∀ G1 bq1 m1 ρ1 γ1 μ1, zLd G1 ax bq1 m1 ρ1 γ1 am μ1 ou od → zWd ρ1 γ1 μ1 m1 (Y + 1260) → zX Γ mL_law 10 MC MS 2304 [some (.ref (Γ.2.2.2.2 102)), some (.ref (ax 0)), some (.ref (am 0)), some (.ref ou), some (.ref od), some (.int (nI i)), none, none, none] [] G1 (k + 32) (n + 6400) Post) : zX Γ mL_law 10 MC MS 1836 [some (.ref (Γ.2.2.2.2 102)), some (.ref (ax 0)), some (.ref (am 0)), some (.ref ou), some (.ref od), some (.int (nI i)), none, none, none] [] G k n Post := by
  obtain ⟨hC, hM, ⟨f0, hO⟩, ⟨f0d, hOd⟩, hSp⟩ := id hD
  obtain ⟨⟨S, F, E, K, mm, fl, hL, hB, hDi⟩, hW2, ⟨nx, ct, hX, hct, hring⟩, hW4, hW5, ⟨nt, hn1, hn2, hn60, htx, hch⟩, ⟨tx, hBt, hTx, h80⟩, hW0⟩ := id hW
  have hc8 := hX.2.2.2
  refine z_aload_n dL_law_1836 rfl ?_
  refine z_aload_n dL_law_1837 rfl ?_
  refine z_iload dL_law_1838 rfl ?_
  refine z_iconst (v := 1) dL_law_1840 (by decide) ?_
  refine z_iadd dL_law_1841 ?_
  refine z_sld dL_law_1842 (zscI (j := 1) (by omega) (by omega)) ?_
  refine z_aload_n dL_law_1843 rfl ?_
  refine z_callSW (mi' := mL_reason) (As := [.ref (ax 0), .int _, .ref ou]) (mc' := 1) (ms' := 6) (z := 3) dL_law_1844 lL_230 nL_reason kgL_reason9 (Nat.le_of_ble_eq_true rfl) rfl (Nat.le_of_ble_eq_true rfl) (by omega) (by omega) ?_
  refine sL_reason (hC.1 0 (by decide)) (fun P hP => ?_)
  refine sX10_reason hC hL.n (hP _ _ ?_)
  rcases zis_reason with ⟨v, e9⟩ | ⟨E9, c9, e9, hc9, hne9⟩
  · refine Or.inl ⟨v, f0, e9, hO, ?_⟩
    have hD2 := hD.out (vp_updL f0 0 v.toInt64)
    have hM2 := hD2.2.1
    refine z_istore dL_law_1847 (by decide) rfl ?_
    refine z_aload_n dL_law_1849 rfl ?_
    refine z_aload_n dL_law_1850 rfl ?_
    refine z_iload dL_law_1851 rfl ?_
    refine z_iconst (v := 1) dL_law_1853 (by decide) ?_
    refine z_iadd dL_law_1854 ?_
    refine z_sld dL_law_1855 (zscI (j := 1) (by omega) (by omega)) ?_
    refine z_V1 (mi' := mX11_reason) dL_law_1856 lL_232 nX11_reason kX11_reason (Nat.le_of_ble_eq_true rfl) (Nat.le_of_ble_eq_true rfl) (by omega) (by omega) (hD2.2.1.1 0 (by decide)) rfl rfl ?_
    refine sX11_reason hM2 hW4 (fun r c G2 hz hM3 hF3 => ?_)
    have hD3 := hD2.mod hM3 hF3
    rw [e9] at hz
    obtain ⟨rfl, rfl⟩ := hz
    have hso := (hD2.seeO hF3).trans (zset_s _ _ _)
    refine z_istore dL_law_1859 (by decide) rfl ?_
    refine z_aload_n dL_law_1861 rfl ?_
    refine z_V0 (mi' := mX11_thrown) dL_law_1862 lL_139 nX11_thrown kX11_thrown (Nat.le_of_ble_eq_true rfl) (Nat.le_of_ble_eq_true rfl) (by omega) (by omega) (hD3.2.1.1 0 (by decide)) rfl rfl ?_
    refine sX11_thrown hD3.2.1 ?_
    rw [zu_s]
    refine z_iload dL_law_1865 rfl ?_
    refine z_icmp_eq (tgt := 1872) dL_law_1867 (by decide) (fun _ => ?_) (fun c1 => absurd rfl c1)
    refine z_iload dL_law_1872 rfl ?_
    refine z_if_ne (tgt := 1889) dL_law_1874 (by decide) (fun c2 => absurd rfl c2) (fun _ => ?_)
    refine z_aload_n dL_law_1877 rfl ?_
    refine z_iconst (v := 0) dL_law_1878 (by decide) ?_
    refine z_lald dL_law_1879 hso (vp_in_nI (n := 0) (show 0 < 1 by decide) (by decide)) ?_
    refine z_iload dL_law_1880 rfl ?_
    refine z_i2l dL_law_1882 ?_
    refine z_lcmp dL_law_1883 ?_
    refine z_if_eq (tgt := 1889) dL_law_1884 (by decide) (fun _ => ?_) (fun c3 => absurd (zlcmp _) c3)
    refine z_goto (tgt := 2304) dL_law_1889 (by decide) ?_
    refine z_wid (k' := k + 32) (n' := n + 6400) (by omega) (by omega) ?_
    exact z_sub (lv' := [some (.ref (Γ.2.2.2.2 102)), some (.ref (ax 0)), some (.ref (am 0)), some (.ref ou), some (.ref od), some (.int (nI i)), none, none, none]) ⟨rfl, rfl, rfl, rfl, rfl, rfl, trivial⟩ (kk _ _ _ _ _ _ hD3 ((hW.seven 0).up (by omega)))
  · refine Or.inr ⟨E9, c9, e9, hc9, ?_⟩
    have hD2 := hD
    have hM2 := hD2.2.1
    refine z_istore dL_law_1847 (by decide) rfl ?_
    refine z_aload_n dL_law_1849 rfl ?_
    refine z_aload_n dL_law_1850 rfl ?_
    refine z_iload dL_law_1851 rfl ?_
    refine z_iconst (v := 1) dL_law_1853 (by decide) ?_
    refine z_iadd dL_law_1854 ?_
    refine z_sld dL_law_1855 (zscI (j := 1) (by omega) (by omega)) ?_
    refine z_V1 (mi' := mX11_reason) dL_law_1856 lL_232 nX11_reason kX11_reason (Nat.le_of_ble_eq_true rfl) (Nat.le_of_ble_eq_true rfl) (by omega) (by omega) (hD2.2.1.1 0 (by decide)) rfl rfl ?_
    refine sX11_reason hM2 hW4 (fun r c G2 hz hM3 hF3 => ?_)
    have hD3 := hD2.mod hM3 hF3
    rw [e9] at hz
    obtain rfl : c = c9 := Option.some.inj (hz.symm.trans hc9)
    refine z_istore dL_law_1859 (by decide) rfl ?_
    refine z_aload_n dL_law_1861 rfl ?_
    refine z_V0 (mi' := mX11_thrown) dL_law_1862 lL_139 nX11_thrown kX11_thrown (Nat.le_of_ble_eq_true rfl) (Nat.le_of_ble_eq_true rfl) (by omega) (by omega) (hD3.2.1.1 0 (by decide)) rfl rfl ?_
    refine sX11_thrown hD3.2.1 ?_
    rw [zu_s]
    refine z_iload dL_law_1865 rfl ?_
    refine z_icmp_eq (tgt := 1872) dL_law_1867 (by decide) (fun _ => ?_) (fun c1 => absurd rfl c1)
    refine z_iload dL_law_1872 rfl ?_
    refine z_if_ne (tgt := 1889) dL_law_1874 (by decide) (fun _ => ?_) (fun c2 => absurd c2 hne9)
    refine z_goto (tgt := 2304) dL_law_1889 (by decide) ?_
    refine z_wid (k' := k + 32) (n' := n + 6400) (by omega) (by omega) ?_
    exact z_sub (lv' := [some (.ref (Γ.2.2.2.2 102)), some (.ref (ax 0)), some (.ref (am 0)), some (.ref ou), some (.ref od), some (.int (nI i)), none, none, none]) ⟨rfl, rfl, rfl, rfl, rfl, rfl, trivial⟩ (kk _ _ _ _ _ _ hD3 ((hW.seven _).up (by omega)))
set_option maxHeartbeats 4000000 in
set_option maxRecDepth 10000 in
theorem sLaw_account {Γ : zG} {G : zH} {Post : zP} {ax : Nat → Nat} {bq m : Nat} {ρ : Nat → zSt} {γ : zSt} {am : Nat → Nat} {μ : zSt} {ou od i k n MC MS : Nat} {Y : Int} (hD : zLd G ax bq m ρ γ am μ ou od) (hW : zWd ρ γ μ m Y) (hY : Y ≤ 1000000) (hi : i + 4 ≤ Γ.2.2.2.2 103) (hlen : Γ.2.2.2.2 103 ≤ 2048) (hk9 : k + 32 ≤ MC) (hn9 : n + 6400 ≤ MS) (kk : ∀ G1 bq1 m1 ρ1 γ1 μ1, zLd G1 ax bq1 m1 ρ1 γ1 am μ1 ou od → zWd ρ1 γ1 μ1 m1 (Y + 1260) → zX Γ mL_law 10 MC MS 2304 [some (.ref (Γ.2.2.2.2 102)), some (.ref (ax 0)), some (.ref (am 0)), some (.ref ou), some (.ref od), some (.int (nI i)), none, none, none] [] G1 (k + 32) (n + 6400) Post) : zX Γ mL_law 10 MC MS 2147 [some (.ref (Γ.2.2.2.2 102)), some (.ref (ax 0)), some (.ref (am 0)), some (.ref ou), some (.ref od), some (.int (nI i)), none, none, none] [] G k n Post := by
  obtain ⟨hC, hM, ⟨f0, hO⟩, ⟨f0d, hOd⟩, hSp⟩ := id hD
  obtain ⟨⟨S, F, E, K, mm, fl, hL, hB, hDi⟩, hW2, ⟨nx, ct, hX, hct, hring⟩, hW4, hW5, ⟨nt, hn1, hn2, hn60, htx, hch⟩, ⟨tx, hBt, hTx, h80⟩, hW0⟩ := id hW
  have hc8 := hX.2.2.2
  refine z_aload_n dL_law_2147 rfl ?_
  refine z_aload_n dL_law_2148 rfl ?_
  refine z_iload dL_law_2149 rfl ?_
  refine z_iconst (v := 1) dL_law_2151 (by decide) ?_
  refine z_iadd dL_law_2152 ?_
  refine z_sld dL_law_2153 (zscI (j := 1) (by omega) (by omega)) ?_
  refine z_aload_n dL_law_2154 rfl ?_
  refine z_callSW (mi' := mL_account) (As := [.ref (ax 0), .int _, .ref ou]) (mc' := 1) (ms' := 6) (z := 3) dL_law_2155 lL_247 nL_account kgL_account9 (Nat.le_of_ble_eq_true rfl) rfl (Nat.le_of_ble_eq_true rfl) (by omega) (by omega) ?_
  refine sL_account (hC.1 0 (by decide)) (fun P hP => ?_)
  refine sX10_account hC hL.n (hP _ _ ?_)
  rcases zis_account with ⟨v, e9⟩ | ⟨E9, c9, e9, hc9, hne9⟩
  · refine Or.inl ⟨v, f0, e9, hO, ?_⟩
    have hD2 := hD.out (vp_updL f0 0 v.toInt64)
    have hM2 := hD2.2.1
    refine z_istore dL_law_2158 (by decide) rfl ?_
    refine z_aload_n dL_law_2160 rfl ?_
    refine z_aload_n dL_law_2161 rfl ?_
    refine z_iload dL_law_2162 rfl ?_
    refine z_iconst (v := 1) dL_law_2164 (by decide) ?_
    refine z_iadd dL_law_2165 ?_
    refine z_sld dL_law_2166 (zscI (j := 1) (by omega) (by omega)) ?_
    refine z_V1 (mi' := mX11_account) dL_law_2167 lL_249 nX11_account kX11_account (Nat.le_of_ble_eq_true rfl) (Nat.le_of_ble_eq_true rfl) (by omega) (by omega) (hD2.2.1.1 0 (by decide)) rfl rfl ?_
    refine sX11_account hM2 hL hB ⟨hX.2.2.1.trans hct.symm, hn1.trans hn2.symm⟩ (fun r c G2 hz hM3 hF3 => ?_)
    have hD3 := hD2.mod hM3 hF3
    rw [e9] at hz
    obtain ⟨rfl, rfl⟩ := hz
    have hso := (hD2.seeO hF3).trans (zset_s _ _ _)
    refine z_istore dL_law_2170 (by decide) rfl ?_
    refine z_aload_n dL_law_2172 rfl ?_
    refine z_V0 (mi' := mX11_thrown) dL_law_2173 lL_139 nX11_thrown kX11_thrown (Nat.le_of_ble_eq_true rfl) (Nat.le_of_ble_eq_true rfl) (by omega) (by omega) (hD3.2.1.1 0 (by decide)) rfl rfl ?_
    refine sX11_thrown hD3.2.1 ?_
    rw [zu_s]
    refine z_iload dL_law_2176 rfl ?_
    refine z_icmp_eq (tgt := 2183) dL_law_2178 (by decide) (fun _ => ?_) (fun c1 => absurd rfl c1)
    refine z_iload dL_law_2183 rfl ?_
    refine z_if_ne (tgt := 2200) dL_law_2185 (by decide) (fun c2 => absurd rfl c2) (fun _ => ?_)
    refine z_aload_n dL_law_2188 rfl ?_
    refine z_iconst (v := 0) dL_law_2189 (by decide) ?_
    refine z_lald dL_law_2190 hso (vp_in_nI (n := 0) (show 0 < 1 by decide) (by decide)) ?_
    refine z_iload dL_law_2191 rfl ?_
    refine z_i2l dL_law_2193 ?_
    refine z_lcmp dL_law_2194 ?_
    refine z_if_eq (tgt := 2200) dL_law_2195 (by decide) (fun _ => ?_) (fun c3 => absurd (zlcmp _) c3)
    refine z_goto (tgt := 2304) dL_law_2200 (by decide) ?_
    refine z_wid (k' := k + 32) (n' := n + 6400) (by omega) (by omega) ?_
    exact z_sub (lv' := [some (.ref (Γ.2.2.2.2 102)), some (.ref (ax 0)), some (.ref (am 0)), some (.ref ou), some (.ref od), some (.int (nI i)), none, none, none]) ⟨rfl, rfl, rfl, rfl, rfl, rfl, trivial⟩ (kk _ _ _ _ _ _ hD3 ((hW.seven 0).up (by omega)))
  · refine Or.inr ⟨E9, c9, e9, hc9, ?_⟩
    have hD2 := hD
    have hM2 := hD2.2.1
    refine z_istore dL_law_2158 (by decide) rfl ?_
    refine z_aload_n dL_law_2160 rfl ?_
    refine z_aload_n dL_law_2161 rfl ?_
    refine z_iload dL_law_2162 rfl ?_
    refine z_iconst (v := 1) dL_law_2164 (by decide) ?_
    refine z_iadd dL_law_2165 ?_
    refine z_sld dL_law_2166 (zscI (j := 1) (by omega) (by omega)) ?_
    refine z_V1 (mi' := mX11_account) dL_law_2167 lL_249 nX11_account kX11_account (Nat.le_of_ble_eq_true rfl) (Nat.le_of_ble_eq_true rfl) (by omega) (by omega) (hD2.2.1.1 0 (by decide)) rfl rfl ?_
    refine sX11_account hM2 hL hB ⟨hX.2.2.1.trans hct.symm, hn1.trans hn2.symm⟩ (fun r c G2 hz hM3 hF3 => ?_)
    have hD3 := hD2.mod hM3 hF3
    rw [e9] at hz
    obtain rfl : c = c9 := Option.some.inj (hz.symm.trans hc9)
    refine z_istore dL_law_2170 (by decide) rfl ?_
    refine z_aload_n dL_law_2172 rfl ?_
    refine z_V0 (mi' := mX11_thrown) dL_law_2173 lL_139 nX11_thrown kX11_thrown (Nat.le_of_ble_eq_true rfl) (Nat.le_of_ble_eq_true rfl) (by omega) (by omega) (hD3.2.1.1 0 (by decide)) rfl rfl ?_
    refine sX11_thrown hD3.2.1 ?_
    rw [zu_s]
    refine z_iload dL_law_2176 rfl ?_
    refine z_icmp_eq (tgt := 2183) dL_law_2178 (by decide) (fun _ => ?_) (fun c1 => absurd rfl c1)
    refine z_iload dL_law_2183 rfl ?_
    refine z_if_ne (tgt := 2200) dL_law_2185 (by decide) (fun _ => ?_) (fun c2 => absurd c2 hne9)
    refine z_goto (tgt := 2304) dL_law_2200 (by decide) ?_
    refine z_wid (k' := k + 32) (n' := n + 6400) (by omega) (by omega) ?_
    exact z_sub (lv' := [some (.ref (Γ.2.2.2.2 102)), some (.ref (ax 0)), some (.ref (am 0)), some (.ref ou), some (.ref od), some (.int (nI i)), none, none, none]) ⟨rfl, rfl, rfl, rfl, rfl, rfl, trivial⟩ (kk _ _ _ _ _ _ hD3 ((hW.seven _).up (by omega)))
