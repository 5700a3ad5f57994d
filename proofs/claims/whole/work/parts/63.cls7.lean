theorem zN_13 {σ τ : zSt} {S F E K : Nat} (h : zN σ S F E K) (he : ∀ j, j = 1 ∨ j = 2 ∨ j = 3 ∨ j = 4 → τ 13 j = σ 13 j) : zN τ S F E K := by
  obtain ⟨h1, h2, h3, h4, h5, h6, h7, h8⟩ := h
  exact ⟨(he 1 (by omega)).trans h1, h2, (he 2 (by omega)).trans h3, h4, (he 3 (by omega)).trans h5, h6, (he 4 (by omega)).trans h7, h8⟩
theorem zN_nx {σ : zSt} {S F E K : Nat} (h : zN σ S F E K) (x : Int32 × List Int32) : zN (znx σ E S x) S F E K := by
  unfold znx
  split
  · refine zN_13 h (fun j hj => ?_)
    rw [zcut, zu_r (by decide), zu_j (by omega), zu_r (by decide), zu_r (by decide), zu_r (by decide)]
  · split
    · exact zN_13 h (fun j hj => by rw [zu_j (by omega), zu_r (by decide)])
    · split
      · exact zN_13 h (fun j hj => by rw [zu_r (by decide)])
      · split
        · exact zN_13 h (fun j hj => by rw [zu_r (by decide)])
        · split
          · exact zN_13 h (fun j hj => by rw [zu_r (by decide)])
          · exact zyrs_N h _
theorem zrv_rv {ρ : Nat → zSt} {r : Nat} {a b : zSt} : zrv (zrv ρ r a) r b = zrv ρ r b := funext fun r' => by
  unfold zrv
  by_cases e : r' = r
  · rw [if_pos e, if_pos e]
  · rw [if_neg e, if_neg e, if_neg e]
theorem zXN.cg {γ δ : zSt} {nx ct : Nat} (h : zXN γ nx ct) (h2 : δ 0 2 = γ 0 2) (h3 : δ 0 3 = γ 0 3) : zXN δ nx ct := ⟨h2.trans h.1, h.2.1, h3.trans h.2.2.1, h.2.2.2⟩
set_option maxHeartbeats 4000000 in
set_option maxRecDepth 10000 in
theorem sX9_scan {Γ : zG} {d : Nat} {G : zH} {ax : Nat → Nat} {bq m : Nat} {ρ : Nat → zSt} {γ : zSt} (hC : zCls G ax bq m ρ γ) {Post : zV} {c : Nat → Int32} {n : Nat} (hn : γ 0 7 = nI n) (hn60 : n ≤ 60) (hc : γ 1 = c) (hch : ∀ j, j < 60 → narrow FieldType.char (.int (c j)) = .int (c j)) (hFl : ∀ q l, zscan c n 60 0 = (some q, l) → q ≤ n → ∀ G1 δ, zCls G1 ax bq m ρ δ → zFC G G1 ax bq → zTs γ δ → Post (some (.int (nI q))) G1) (hTr : ∀ l, zscan c n 60 0 = (none, l) → ∀ G1 δ, zCls G1 ax bq m ρ δ → zFC G G1 ax bq → zTs γ δ → δ 0 9 = nI l.length → zTolC (δ 2) (δ 3) l → (∀ x, x ∈ l → zwf x) → l.length ≤ 20 → Post (some (.int (-1))) G1) : zM Γ (d + 6) mX9_scan 0 0 [.ref (ax 4)] G Post := by
  refine zM_of pnX9 rfl (Nat.le_of_ble_eq_true rfl) rfl ?_
  have hQ : zFC G G ax bq := zFC.rf
  have key : ∀ (r : Nat) (q : Nat) (G1 : zH) (δ : zSt) (l0 : List (Int32 × List Int32)), q ≤ n → n < q + r → zCls G1 ax bq m ρ δ → zFC G G1 ax bq → zTs γ δ → zTa δ c n q → zTolC (δ 2) (δ 3) l0 → zSc c n q l0 → zX Γ mX9_scan (d + 6) 0 0 12 [some (.ref (ax 4)), some (.int (nI l0.length))] [] G1 0 0 (zlift Post) := by
    intro r
    induction r with
    | zero =>
      intro q G1 δ l0 hi1 hi2 hC hQ hS hA hTo hSc
      exact absurd hi2 (by omega)
    | succ r ih =>
      intro q G1 δ l0 hi1 hi2 hC hQ hS hA hTo hSc
      have hn60 := hA.2.1
      have h3l := hSc.2.2
      refine z_iload_n dX9_scan_12 rfl ?_
      refine z_bipush (v := 60) dX9_scan_13 (by decide) ?_
      refine z_icmp_ge (tgt := 81) dX9_scan_15 (by decide) (fun c1 => ?_) (fun c1 => ?_)
      · exact absurd ((nI_leI (by decide) (by omega)).mp (show nI 60 ≤ nI l0.length from c1)) (by omega)
      · refine z_aload_n dX9_scan_18 rfl ?_
        refine z_iload_n dX9_scan_19 rfl ?_
        refine z_V1 (mi' := mX9_readCommand) dX9_scan_20 lX9_36 nX9_readCommand kX9_readCommand (by decide) (Nat.le_of_ble_eq_true rfl) (Nat.le_refl _) (Nat.le_refl _) (hC.1 _ (by decide)) rfl rfl ?_
        refine sX9_readCommand hC hA (k := l0.length) (by omega) (fun q2 ns hz G2 δ2 hC hF hS2 hA2 => ?_) (fun q2 ns hz G2 δ2 hC hF hS2 hA2 hk2 hk3 hk4 hk5 hk6 => ?_)
        · have hQ := hQ.tr hF
          refine z_if_ne (tgt := 31) dX9_scan_23 (by decide) (fun c2 => ?_) (fun c2 => ?_)
          · exact absurd rfl c2
          · refine z_aload_n dX9_scan_26 rfl ?_
            refine z_get dX9_scan_27 fX9_27.r (hC.1 _ (by decide)) rfl ?_
            rw [hA2.2.2.1]
            exact z_ireturn (mi := mX9_scan) dX9_scan_30 rfl rfl (Nat.le_refl _) (Nat.le_refl _) (hFl q2 l0 (hSc.F hi1 hn60 hz) hA2.2.2.2.1 _ _ hC hQ (hS.tr hS2))
        · have hQ := hQ.tr hF
          have hq2 := zcmd_len hz
          have hTo2 : zTolC (δ2 2) (δ2 3) (l0 ++ [(c q, ns)]) := hTo.snoc (fun j hj => zwf_3 (zwf_all hSc.2.1 j hj)) hk3 hk5 hk2 hk4
          refine z_if_ne (tgt := 31) dX9_scan_23 (by decide) (fun c3 => ?_) (fun c3 => ?_)
          · refine z_aload_n dX9_scan_31 rfl ?_
            refine z_get dX9_scan_32 fX9_27.r (hC.1 _ (by decide)) rfl ?_
            refine z_aload_n dX9_scan_35 rfl ?_
            refine z_get dX9_scan_36 fX9_13.r (hC.1 _ (by decide)) rfl ?_
            rw [hA2.2.2.1, hA2.1]
            refine z_icmp_lt (tgt := 51) dX9_scan_39 (by decide) (fun c4 => ?_) (fun c4 => ?_)
            · have hlt : q2 < n := (nI_ltI (by omega) (by omega)).mp c4
              refine z_aload_n dX9_scan_51 rfl ?_
              refine z_V0 (mi' := mX9_signHere) dX9_scan_52 lX9_40 nX9_signHere kX9_signHere (by decide) (Nat.le_of_ble_eq_true rfl) (Nat.le_refl _) (Nat.le_refl _) (hC.1 _ (by decide)) rfl rfl ?_
              refine sX9_signHere hC hA2 ?_
              refine z_bipush (v := 59) dX9_scan_55 (by decide) ?_
              refine z_icmp_eq (tgt := 65) dX9_scan_57 (by decide) (fun c5 => ?_) (fun c5 => ?_)
              · have h59 : c q2 = 59 := (zlit_t ((zsg_l (by decide)).mp c5)).2
                refine z_aload_n dX9_scan_65 rfl ?_
                refine z_dup dX9_scan_66 rfl ?_
                refine z_get dX9_scan_67 fX9_27.r (hC.1 _ (by decide)) rfl ?_
                refine z_iconst (v := 1) dX9_scan_70 (by decide) ?_
                rw [hA2.2.2.1]
                refine z_iadd dX9_scan_71 ?_
                rw [nI_1]
                refine z_put dX9_scan_72 fX9_27 (hC.1 _ (by decide)) rfl rfl (Nat.le_of_ble_eq_true rfl) ?_
                refine z_cnum hC 8 (nI (q2 + 1)) (by decide) rfl (fun _ hC hF => ?_)
                have hQ := hQ.tr hF
                refine z_iinc dX9_scan_75 rfl rfl (by decide) rfl ?_
                refine z_goto (tgt := 12) dX9_scan_78 (by decide) ?_
                exact z_sub (lv' := [some (.ref (ax 4)), some (.int (nI (l0 ++ [(c q, ns)]).length))]) ⟨rfl, zsl ((zinc _).trans (by rw [List.length_append, List.length_singleton])), trivial⟩ (ih (q2 + 1) _ _ _ (by omega) (by omega) hC hQ (hS.tr (hS2.tr (zTs.p _))) (hA2.p (by omega)) (by rw [zu_r (show (2 : Nat) ≠ 0 by decide), zu_r (show (3 : Nat) ≠ 0 by decide)]; exact hTo2) (hSc.S hi1 hn60 hz (by omega) h59))
              · have h59 : ¬ c q2 = 59 := fun q9 => c5 ((zsg_l (by decide)).mpr (decide_eq_true ⟨hlt, q9⟩))
                refine z_aload_n dX9_scan_60 rfl ?_
                refine z_get dX9_scan_61 fX9_27.r (hC.1 _ (by decide)) rfl ?_
                rw [hA2.2.2.1]
                exact z_ireturn (mi := mX9_scan) dX9_scan_64 rfl rfl (Nat.le_refl _) (Nat.le_refl _) (hFl q2 l0 (hSc.B hi1 hn60 hz (by omega) h59) hA2.2.2.2.1 _ _ hC hQ (hS.tr hS2))
            · have hge : n ≤ q2 := Nat.le_of_not_lt fun q9 => c4 ((nI_ltI (by omega) (by omega)).mpr q9)
              refine z_aload_n dX9_scan_42 rfl ?_
              refine z_iload_n dX9_scan_43 rfl ?_
              refine z_iconst (v := 1) dX9_scan_44 (by decide) ?_
              refine z_iadd dX9_scan_45 ?_
              rw [nI_1]
              refine z_put dX9_scan_46 fX9_24 (hC.1 _ (by decide)) rfl rfl (Nat.le_of_ble_eq_true rfl) ?_
              refine z_cnum hC 9 (nI (l0.length + 1)) (by decide) rfl (fun _ hC hF => ?_)
              have hQ := hQ.tr hF
              refine z_iconst (v := (-1)) dX9_scan_49 (by decide) ?_
              exact z_ireturn (mi := mX9_scan) dX9_scan_50 rfl rfl (Nat.le_refl _) (Nat.le_refl _) (hTr (l0 ++ [(c q, ns)]) (hSc.E hi1 hn60 hz hge) _ _ hC hQ (hS.tr (hS2.tr (zTs.f _))) ((zu_s _ _ _ _).trans (by rw [List.length_append, List.length_singleton])) (by rw [zu_r (show (2 : Nat) ≠ 0 by decide), zu_r (show (3 : Nat) ≠ 0 by decide)]; exact hTo2) (fun x hx => (List.mem_append.mp hx).elim (hSc.2.1 x) (fun hx => by rw [List.mem_singleton.mp hx]; exact hq2.1)) (by rw [List.length_append, List.length_singleton]; omega))
          · exact absurd c3 zi10
  refine z_aload_n dX9_scan_0 rfl ?_
  refine z_iconst (v := 0) dX9_scan_1 (by decide) ?_
  refine z_put dX9_scan_2 fX9_27 (hC.1 _ (by decide)) rfl rfl (Nat.le_of_ble_eq_true rfl) ?_
  refine z_cnum hC 8 0 (by decide) rfl (fun _ hC hF => ?_)
  have hQ := hQ.tr hF
  refine z_aload_n dX9_scan_5 rfl ?_
  refine z_iconst (v := 0) dX9_scan_6 (by decide) ?_
  refine z_put dX9_scan_7 fX9_24 (hC.1 _ (by decide)) rfl rfl (Nat.le_of_ble_eq_true rfl) ?_
  refine z_cnum hC 9 0 (by decide) rfl (fun _ hC hF => ?_)
  have hQ := hQ.tr hF
  refine z_iconst (v := 0) dX9_scan_10 (by decide) ?_
  refine z_istore_n dX9_scan_11 (by decide) rfl ?_
  exact z_sub (lv' := [some (.ref (ax 4)), some (.int (nI ([] : List (Int32 × List Int32)).length))]) ⟨rfl, rfl, trivial⟩ (key (n + 1) 0 _ _ [] (by omega) (by omega) hC hQ ((zTs.p _).tr (zTs.f _)) ⟨hn, hn60, rfl, Nat.zero_le n, (by rw [zu_r (by decide), zu_r (by decide)]; exact hc), hch⟩ (fun j h => absurd h (Nat.not_lt_zero j)) zSc_0)
set_option maxHeartbeats 4000000 in
set_option maxRecDepth 10000 in
theorem sX10_commands {Γ : zG} {d : Nat} {G : zH} {ax : Nat → Nat} {bq m : Nat} {ρ : Nat → zSt} {γ : zSt} (hC : zCls G ax bq m ρ γ) {S F E K : Nat} (hN : zN (ρ 0) S F E K) {nx ct : Nat} (hX : zXN γ nx ct) {Post : zP} {c : Nat → Int32} {n : Nat} (hn : γ 0 7 = nI n) (hn60 : n ≤ 60) (hc : γ 1 = c) (hch : ∀ j, j < 60 → narrow FieldType.char (.int (c j)) = .int (c j)) (hFl : ∀ q l, zscan c n 60 0 = (some q, l) → q ≤ n → ∀ G1 δ, zCls G1 ax bq m ρ (zu (zu δ 0 1 (nI q)) 0 7 0) → zFC G G1 ax bq → zTs γ δ → Post (.inr zIA) G1) (hRf9 : ∀ l, zscan c n 60 0 = (none, l) → (∀ x, x ∈ l → zwf x) → l.length ≤ 20 → ∀ rn rd i σ', zrun (ρ 0) E S l 0 = (some (rn, rd, i), σ') → ∀ G1 ρ' δ, zCls G1 ax bq m ρ' (zu (zref (zu (zu δ 0 1 (-1)) 0 7 0) rn rd) 0 6 (nI i)) → zFC G G1 ax bq → (∀ r, r ≠ 1 → ρ' r = ρ r) → zTs γ δ → Post (.inr zUO) G1) (hOk9 : ∀ l, zscan c n 60 0 = (none, l) → (∀ x, x ∈ l → zwf x) → l.length ≤ 20 → ∀ σ', zrun (ρ 0) E S l 0 = (none, σ') → ∀ G1 δ, zCls G1 ax bq m (zrv (zkeepR (zrv ρ 1 σ') nx) 0 σ') (zkeepG (zu (zu δ 0 1 (-1)) 0 7 0) nx ct) → zFC G G1 ax bq → zTs γ δ → Post (zvi (nI l.length)) G1) : zMX Γ (d + 7) mX10_commands 1 6 [.ref (ax 0)] G Post := by
  refine zMX_of pnX10 rfl (Nat.le_of_ble_eq_true rfl) rfl ?_
  have hQ : zFC G G ax bq := zFC.rf
  refine z_aload_n dX10_commands_0 rfl ?_
  refine z_aload_n dX10_commands_1 rfl ?_
  refine z_get dX10_commands_2 fX10_45.r (hC.1 _ (by decide)) rfl ?_
  refine z_V0 (mi' := mX9_scan) dX10_commands_5 lX10_343 nX9_scan kX9_scan (by decide) (Nat.le_of_ble_eq_true rfl) (Nat.zero_le _) (Nat.zero_le _) (hC.1 _ (by decide)) rfl rfl ?_
  refine sX9_scan hC hn hn60 hc hch (fun q l hz hqn G1 δ hC hF hS => ?_) (fun l hz G1 δ hC hF hS h9 hTo hwf hl20 => ?_)
  · have hQ := hQ.tr hF
    refine z_put dX10_commands_8 fX10_49 (hC.1 _ (by decide)) rfl rfl (Nat.le_of_ble_eq_true rfl) ?_
    refine z_cnum hC 1 (nI q) (by decide) rfl (fun _ hC hF => ?_)
    have hQ := hQ.tr hF
    refine z_aload_n dX10_commands_11 rfl ?_
    refine z_get dX10_commands_12 fX10_45.r (hC.1 _ (by decide)) rfl ?_
    refine z_V0 (mi' := mX9_empty) dX10_commands_15 lX10_346 nX9_empty kX9_empty (by decide) (Nat.le_of_ble_eq_true rfl) (Nat.zero_le _) (Nat.zero_le _) (hC.1 _ (by decide)) rfl rfl ?_
    refine sX9_empty hC (fun _ hC hF => ?_)
    have hQ := hQ.tr hF
    refine z_aload_n dX10_commands_18 rfl ?_
    refine z_get dX10_commands_19 fX10_49.r (hC.1 _ (by decide)) rfl ?_
    rw [show zu (zu δ 0 1 (nI q)) 0 7 0 0 1 = nI q from rfl]
    refine z_if_lt (tgt := 36) dX10_commands_22 (by decide) (fun c1 => ?_) (fun c1 => ?_)
    · exact absurd c1 (nI_pos (by omega))
    · exact z_throwW (mi := mX10_commands) (cls := "java/lang/IllegalArgumentException") (ic := 225) (i := 30) rfl (by decide) gX10_221 rfl rfl dX10_commands_25 dX10_commands_28 dX10_commands_29 dX10_commands_32 dX10_commands_35 (Nat.le_of_ble_eq_true rfl) (Nat.le_of_ble_eq_true rfl) (Nat.le_of_ble_eq_true rfl) (hFl q l hz hqn _ _ hC hQ hS)
  · have hQ := hQ.tr hF
    have hRf := fun rn rd i σ' hz9 G1 ρ' hC hQ hr => hRf9 l hz hwf hl20 rn rd i σ' hz9 G1 ρ' δ hC hQ hr hS
    have hOk := fun σ' hz9 G1 hC hQ => hOk9 l hz hwf hl20 σ' hz9 G1 δ hC hQ hS
    have hX2 : zXN (zu (zu δ 0 1 (-1)) 0 7 0) nx ct := hX.cg (hS.2 2 (by decide) (by decide)) (hS.2 3 (by decide) (by decide))
    refine z_put dX10_commands_8 fX10_49 (hC.1 _ (by decide)) rfl rfl (Nat.le_of_ble_eq_true rfl) ?_
    refine z_cnum hC 1 (-1) (by decide) rfl (fun _ hC hF => ?_)
    have hQ := hQ.tr hF
    refine z_aload_n dX10_commands_11 rfl ?_
    refine z_get dX10_commands_12 fX10_45.r (hC.1 _ (by decide)) rfl ?_
    refine z_V0 (mi' := mX9_empty) dX10_commands_15 lX10_346 nX9_empty kX9_empty (by decide) (Nat.le_of_ble_eq_true rfl) (Nat.zero_le _) (Nat.zero_le _) (hC.1 _ (by decide)) rfl rfl ?_
    refine sX9_empty hC (fun _ hC hF => ?_)
    have hQ := hQ.tr hF
    refine z_aload_n dX10_commands_18 rfl ?_
    refine z_get dX10_commands_19 fX10_49.r (hC.1 _ (by decide)) rfl ?_
    rw [show zu (zu δ 0 1 (-1)) 0 7 0 0 1 = -1 from rfl]
    refine z_if_lt (tgt := 36) dX10_commands_22 (by decide) (fun c2 => ?_) (fun c2 => ?_)
    · refine z_aload_n dX10_commands_36 rfl ?_
      refine z_get dX10_commands_37 fX10_16.r (hC.1 _ (by decide)) rfl ?_
      refine z_aload_n dX10_commands_40 rfl ?_
      refine z_get dX10_commands_41 fX10_10.r (hC.1 _ (by decide)) rfl ?_
      refine z_V1 (mi' := mX6_copyFrom) dX10_commands_44 lX10_351 nX6_copyFrom kX6_copyFrom (by decide) (Nat.le_of_ble_eq_true rfl) (Nat.zero_le _) (Nat.zero_le _) ((hC.2.1 1 (by decide)).1 _ (by decide)) rfl rfl ?_
      refine sX6_copyFrom (hC.2.1 1 (by decide)) (hC.2.1 0 (by decide)) (zar_dis hC.2.2.1 (by decide) (by decide) (by decide)) (fun _ h1 _ hF => ?_)
      have hC := hC.riv (r := 1) (by decide) h1 hF
      have hQ := hQ.tr (zFC.frm (by decide) hF)
      refine z_aload_n dX10_commands_47 rfl ?_
      refine z_get dX10_commands_48 fX10_45.r (hC.1 _ (by decide)) rfl ?_
      refine z_get dX10_commands_51 fX10_354.r (hC.1 _ (by decide)) rfl ?_
      rw [show (zu (zu δ 0 1 (-1)) 0 7 0) 0 9 = nI l.length from h9]
      refine z_istore_n dX10_commands_54 (by decide) rfl ?_
      refine z_iconst (v := 0) dX10_commands_55 (by decide) ?_
      refine z_istore_n dX10_commands_56 (by decide) rfl ?_
      have key : ∀ (r : Nat) (i : Nat) (G1 : zH) (σ9 : zSt), i ≤ l.length → l.length < i + r → zCls G1 ax bq m (zrv ρ 1 σ9) (zu (zu δ 0 1 (-1)) 0 7 0) → zFC G G1 ax bq → zN σ9 S F E K → zrun (ρ 0) E S l 0 = zrun σ9 E S (l.drop i) i → zX Γ mX10_commands (d + 7) 1 6 57 [some (.ref (ax 0)), some (.int (nI l.length)), some (.int (nI i))] [] G1 0 0 (Post) := by
        intro r
        induction r with
        | zero =>
          intro i G1 σ9 hi1 hi2 hC hQ hN9 hz0
          exact absurd hi2 (by omega)
        | succ r ih =>
          intro i G1 σ9 hi1 hi2 hC hQ hN9 hz0
          refine z_iload_n dX10_commands_57 rfl ?_
          refine z_iload_n dX10_commands_58 rfl ?_
          refine z_icmp_ge (tgt := 100) dX10_commands_59 (by decide) (fun c1 => ?_) (fun c1 => ?_)
          · have hi9 := zgeN (N := l.length) rfl (by omega) (by omega) c1
            have hil : i = l.length := by omega
            refine z_aload_n dX10_commands_100 rfl ?_
            refine z_get dX10_commands_101 fX10_31.r (hC.1 _ (by decide)) rfl ?_
            refine z_aload_n dX10_commands_104 rfl ?_
            refine z_get dX10_commands_105 fX10_10.r (hC.1 _ (by decide)) rfl ?_
            refine z_V1 (mi' := mX3_keep) dX10_commands_108 lX10_77 nX3_keep kX3_keep (by decide) (Nat.le_of_ble_eq_true rfl) (Nat.zero_le _) (Nat.zero_le _) (hC.1 _ (by decide)) rfl rfl ?_
            refine sX3_keep hC hX2 (fun _ hC hF => ?_)
            have hQ := hQ.tr hF
            refine z_aload_n dX10_commands_111 rfl ?_
            refine z_get dX10_commands_112 fX10_10.r (hC.1 _ (by decide)) rfl ?_
            refine z_aload_n dX10_commands_115 rfl ?_
            refine z_get dX10_commands_116 fX10_16.r (hC.1 _ (by decide)) rfl ?_
            refine z_V1 (mi' := mX6_copyFrom) dX10_commands_119 lX10_351 nX6_copyFrom kX6_copyFrom (by decide) (Nat.le_of_ble_eq_true rfl) (Nat.zero_le _) (Nat.zero_le _) ((hC.2.1 0 (by decide)).1 _ (by decide)) rfl rfl ?_
            refine sX6_copyFrom (hC.2.1 0 (by decide)) (hC.2.1 1 (by decide)) (zar_dis hC.2.2.1 (by decide) (by decide) (by decide)) (fun _ h1 _ hF => ?_)
            have hC := hC.riv (r := 0) (by decide) h1 hF
            have hQ := hQ.tr (zFC.frm (by decide) hF)
            rw [show zkeepR (zrv ρ 1 σ9) nx 1 = σ9 from (zrv_n (by omega)).trans (zrv_s _ _ _)] at hC
            refine z_iload_n dX10_commands_122 rfl ?_
            exact z_ireturn (mi := mX10_commands) dX10_commands_123 rfl rfl (Nat.zero_le _) (Nat.zero_le _) (hOk σ9 (by rw [hz0, zrun_e _ _ _ hil]) _ hC hQ)
          · have hi9 := zltN (N := l.length) rfl (by omega) (by omega) c1
            have hTi := hTo i hi9
            refine z_aload_n dX10_commands_62 rfl ?_
            refine z_iload_n dX10_commands_63 rfl ?_
            refine z_V1 (mi' := mX10_isRefused) dX10_commands_64 lX10_357 nX10_isRefused kX10_isRefused (by decide) (Nat.le_of_ble_eq_true rfl) (Nat.zero_le _) (Nat.zero_le _) (hC.1 _ (by decide)) rfl rfl ?_
            refine sX10_isRefused hC (S := S) (F := F) (E := E) (K := K) hN9 (x1 := (l.getD i (0, [])).1) (ns := (l.getD i (0, [])).2) (j := i) (by omega) (by rw [zu_r (by decide), zu_r (by decide)]; exact hTi.1) (by rw [zu_r (show (3 : Nat) ≠ 0 by decide), zu_r (show (3 : Nat) ≠ 0 by decide)]; exact hTi.2) (zwf_all hwf i hi9) (fun hz9 => ?_) (fun rn rd hz9 G2 hC hF => ?_)
            · replace hz9 : zrX σ9 E (l.getD i (0, [])) = none := hz9
              refine z_if_eq (tgt := 89) dX10_commands_67 (by decide) (fun c2 => ?_) (fun c2 => ?_)
              · refine z_aload_n dX10_commands_89 rfl ?_
                refine z_iload_n dX10_commands_90 rfl ?_
                refine z_V1 (mi' := mX10_carryOut) dX10_commands_91 lX10_365 nX10_carryOut kX10_carryOut (by decide) (Nat.le_of_ble_eq_true rfl) (Nat.zero_le _) (Nat.zero_le _) (hC.1 _ (by decide)) rfl rfl ?_
                refine sX10_carryOut hC (S := S) (F := F) (E := E) (K := K) hN9 (x1 := (l.getD i (0, [])).1) (ns := (l.getD i (0, [])).2) (j := i) (by omega) (by rw [zu_r (by decide), zu_r (by decide)]; exact hTi.1) (by rw [zu_r (show (3 : Nat) ≠ 0 by decide), zu_r (show (3 : Nat) ≠ 0 by decide)]; exact hTi.2) (zwf_all hwf i hi9) hz9 (fun G2 hC hF => ?_)
                have hQ := hQ.tr hF
                replace hC : zCls G2 ax bq m (zrv ρ 1 (znx σ9 E S (l.getD i (0, [])))) (zu (zu δ 0 1 (-1)) 0 7 0) := by rw [← zrv_rv (a := σ9)]; exact hC
                refine z_iinc dX10_commands_94 rfl rfl (by decide) rfl ?_
                refine z_goto (tgt := 57) dX10_commands_97 (by decide) ?_
                exact z_sub (lv' := [some (.ref (ax 0)), some (.int (nI l.length)), some (.int (nI (i + 1)))]) ⟨rfl, rfl, zsl (zinc i), trivial⟩ (ih (i + 1) _ (znx σ9 E S (l.getD i (0, []))) (by omega) (by omega) hC hQ (zN_nx hN9 _) (by rw [hz0, zrun_o hi9 hz9]))
              · exact absurd rfl c2
            · have hQ := hQ.tr hF
              replace hz9 : zrX σ9 E (l.getD i (0, [])) = some (rn, rd) := hz9
              refine z_if_eq (tgt := 89) dX10_commands_67 (by decide) (fun c3 => ?_) (fun c3 => ?_)
              · exact absurd c3 (by decide)
              · refine z_aload_n dX10_commands_70 rfl ?_
                refine z_get dX10_commands_71 fX10_38.r (hC.1 _ (by decide)) rfl ?_
                refine z_iload_n dX10_commands_74 rfl ?_
                refine z_put dX10_commands_75 fX10_360 (hC.1 _ (by decide)) rfl rfl (Nat.le_of_ble_eq_true rfl) ?_
                refine z_cnum hC 6 (nI i) (by decide) rfl (fun _ hC hF => ?_)
                have hQ := hQ.tr hF
                exact z_throwW (mi := mX10_commands) (cls := "java/lang/UnsupportedOperationException") (ic := 74) (i := 31) rfl (by decide) gX10_70 rfl rfl dX10_commands_78 dX10_commands_81 dX10_commands_82 dX10_commands_85 dX10_commands_88 (Nat.le_of_ble_eq_true rfl) (Nat.le_of_ble_eq_true rfl) (Nat.le_of_ble_eq_true rfl) (hRf rn rd i σ9 (by rw [hz0, zrun_r hi9 hz9]) _ _ hC hQ (fun r hr => zrv_n hr))
      exact z_sub (lv' := [some (.ref (ax 0)), some (.int (nI l.length)), some (.int (nI 0))]) ⟨rfl, rfl, rfl, trivial⟩ (key (l.length + 1) 0 _ (ρ 0) (by omega) (by omega) hC hQ hN rfl)
    · exact absurd (by decide) c2
