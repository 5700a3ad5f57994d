theorem zX_out {Γ : zG} {mi : zMI} {d mc ms pc k n : Nat} {lv : List (Option Value)} {st : List Value} {G : zH} {Post : zP} {ax : Nat → Nat} {bq m : Nat} {ρ : Nat → zSt} {γ : zSt} {am : Nat → Nat} {μ : zSt} {ou od : Nat} {f : Nat → Int64} (h : zLd G ax bq m ρ γ am μ ou od) (kk : zLd (zset G ou (.inl (.long, (1, .inr (.inl f))))) ax bq m ρ γ am μ ou od → zX Γ mi d mc ms pc lv st (zset G ou (.inl (.long, (1, .inr (.inl f))))) k n Post) : zX Γ mi d mc ms pc lv st (zset G ou (.inl (.long, (1, .inr (.inl f))))) k n Post := kk (h.out f)
set_option maxHeartbeats 4000000 in
set_option maxRecDepth 10000 in
theorem sLaw_stone {Γ : zG} {G : zH} {Post : zP} {ax : Nat → Nat} {bq m : Nat} {ρ : Nat → zSt} {γ : zSt} {am : Nat → Nat} {μ : zSt} {ou od i k n MC MS : Nat} {Y : Int} (hD : zLd G ax bq m ρ γ am μ ou od) (hW : zWd ρ γ μ m Y) (hY : Y ≤ 1000000) (hi : i + 4 ≤ Γ.2.2.2.2 103) (hlen : Γ.2.2.2.2 103 ≤ 2048) (hk9 : k + 32 ≤ MC) (hn9 : n + 6400 ≤ MS) (kk : ∀ G1 bq1 m1 ρ1 γ1 μ1, zLd G1 ax bq1 m1 ρ1 γ1 am μ1 ou od → zWd ρ1 γ1 μ1 m1 (Y + 1260) → zX Γ mL_law 10 MC MS 2304 [some (.ref (Γ.2.2.2.2 102)), some (.ref (ax 0)), some (.ref (am 0)), some (.ref ou), some (.ref od), some (.int (nI i)), none, none, none] [] G1 (k + 32) (n + 6400) Post) : zX Γ mL_law 10 MC MS 208 [some (.ref (Γ.2.2.2.2 102)), some (.ref (ax 0)), some (.ref (am 0)), some (.ref ou), some (.ref od), some (.int (nI i)), none, none, none] [] G k n Post := by
  obtain ⟨hC, hM, ⟨f0, hO⟩, ⟨f0d, hOd⟩, hSp⟩ := id hD
  obtain ⟨⟨S, F, E, K, mm, fl, hL, hB, hDi⟩, hW2, ⟨nx, ct, hX, hct, hring⟩, hW4, hW5, ⟨nt, hn1, hn2, hn60, htx, hch⟩, ⟨tx, hBt, hTx, h80⟩, hW0⟩ := id hW
  have hc8 := hX.2.2.2
  have hS6 := hL.S6
  have hF12 := hL.F12
  have hK3 := hL.K3
  refine z_aload_n dL_law_208 rfl ?_
  refine z_aload_n dL_law_209 rfl ?_
  refine z_iload dL_law_210 rfl ?_
  refine z_iconst (v := 1) dL_law_212 (by decide) ?_
  refine z_iadd dL_law_213 ?_
  refine z_sld dL_law_214 (zscI (j := 1) (by omega) (by omega)) ?_
  refine z_aload_n dL_law_215 rfl ?_
  refine z_iload dL_law_216 rfl ?_
  refine z_iconst (v := 2) dL_law_218 (by decide) ?_
  refine z_iadd dL_law_219 ?_
  refine z_sld dL_law_220 (zscI (j := 2) (by omega) (by omega)) ?_
  refine z_aload_n dL_law_221 rfl ?_
  refine z_iload dL_law_222 rfl ?_
  refine z_iconst (v := 3) dL_law_224 (by decide) ?_
  refine z_iadd dL_law_225 ?_
  refine z_sld dL_law_226 (zscI (j := 3) (by omega) (by omega)) ?_
  refine z_aload_n dL_law_227 rfl ?_
  refine z_callSW (mi' := mL_stone) (As := [.ref (ax 0), .int _, .int _, .int _, .ref ou]) (mc' := 1) (ms' := 6) (z := 5) dL_law_228 lL_133 nL_stone kgL_stone9 (Nat.le_of_ble_eq_true rfl) rfl (Nat.le_of_ble_eq_true rfl) (by omega) (by omega) ?_
  refine sL_stone (hC.1 0 (by decide)) (fun P hP => ?_)
  refine sX10_stone hC hL.n hX (fun z9 G1 hC1 hF1 => hP _ _ ?_) (fun rn rd z9 G1 hC1 hF1 => hP _ _ ?_)
  · have hD1 := hD.cls hC1 hF1
    obtain ⟨f1, hO1⟩ := hD1.2.2.1
    refine Or.inl ⟨_, f1, rfl, hO1, ?_⟩
    refine zX_out hD1 (fun hD2 => ?_)
    have hM2 := hD2.2.1
    refine z_istore dL_law_231 (by decide) rfl ?_
    refine z_aload_n dL_law_233 rfl ?_
    refine z_aload_n dL_law_234 rfl ?_
    refine z_iload dL_law_235 rfl ?_
    refine z_iconst (v := 1) dL_law_237 (by decide) ?_
    refine z_iadd dL_law_238 ?_
    refine z_sld dL_law_239 (zscI (j := 1) (by omega) (by omega)) ?_
    refine z_aload_n dL_law_240 rfl ?_
    refine z_iload dL_law_241 rfl ?_
    refine z_iconst (v := 2) dL_law_243 (by decide) ?_
    refine z_iadd dL_law_244 ?_
    refine z_sld dL_law_245 (zscI (j := 2) (by omega) (by omega)) ?_
    refine z_aload_n dL_law_246 rfl ?_
    refine z_iload dL_law_247 rfl ?_
    refine z_iconst (v := 3) dL_law_249 (by decide) ?_
    refine z_iadd dL_law_250 ?_
    refine z_sld dL_law_251 (zscI (j := 3) (by omega) (by omega)) ?_
    refine z_V3 (mi' := mX11_stone) dL_law_252 lL_138 nX11_stone kX11_stone (Nat.le_of_ble_eq_true rfl) (Nat.le_of_ble_eq_true rfl) (by omega) (by omega) (hD2.2.1.1 0 (by decide)) rfl rfl ?_
    refine sX11_stone hM2 hL hct hc8 (fun z8 ν hν G2 hM3 hF3 => ?_) (fun rn rd z8 => absurd (z9.symm.trans z8) (by simp))
    have hD3 := hD2.mod hM3 hF3
    have hL2 : zRel (ρ 0) S F E K (ν 1) mm fl := by rw [hν, zmkeep_r (by decide) (by decide)]; exact hL
    have hso := (hD2.seeO hF3).trans (zset_s _ _ _)
    refine z_istore dL_law_255 (by decide) rfl ?_
    refine z_aload_n dL_law_257 rfl ?_
    refine z_V0 (mi' := mX11_thrown) dL_law_258 lL_139 nX11_thrown kX11_thrown (Nat.le_of_ble_eq_true rfl) (Nat.le_of_ble_eq_true rfl) (by omega) (by omega) (hD3.2.1.1 0 (by decide)) rfl rfl ?_
    refine sX11_thrown hD3.2.1 ?_
    rw [zu_r (show (0 : Nat) ≠ 1 by decide), zu_r (show (0 : Nat) ≠ 1 by decide), zu_r (show (0 : Nat) ≠ 1 by decide), zu_r (show (0 : Nat) ≠ 1 by decide), zu_r (show (0 : Nat) ≠ 1 by decide), zu_r (show (0 : Nat) ≠ 1 by decide), hν, zmkeep_7]
    refine z_iload dL_law_261 rfl ?_
    refine z_icmp_eq (tgt := 268) dL_law_263 (by decide) (fun _ => ?_) (fun c1 => absurd rfl c1)
    refine z_iload dL_law_268 rfl ?_
    refine z_if_ne (tgt := 285) dL_law_270 (by decide) (fun c2 => absurd rfl c2) (fun _ => ?_)
    refine z_aload_n dL_law_273 rfl ?_
    refine z_iconst (v := 0) dL_law_274 (by decide) ?_
    refine z_lald dL_law_275 hso (vp_in_nI (n := 0) (show 0 < 1 by decide) (by decide)) ?_
    refine z_iload dL_law_276 rfl ?_
    refine z_i2l dL_law_278 ?_
    refine z_lcmp dL_law_279 ?_
    refine z_if_eq (tgt := 285) dL_law_280 (by decide) (fun _ => ?_) (fun c3 => absurd (zlcmp _) c3)
    refine z_goto (tgt := 2304) dL_law_285 (by decide) ?_
    refine z_wid (k' := k + 32) (n' := n + 6400) (by omega) (by omega) ?_
    exact z_sub (lv' := [some (.ref (Γ.2.2.2.2 102)), some (.ref (ax 0)), some (.ref (am 0)), some (.ref ou), some (.ref od), some (.int (nI i)), none, none, none]) ⟨rfl, rfl, rfl, rfl, rfl, rfl, trivial⟩ (kk _ _ _ _ _ _ hD3 (hW.kept hX ((zTie.stone hL2 hB hDi z9).up (by omega)) (by omega) (fun r hr => by rw [zu_r hr, zu_r hr, zu_r hr, zu_r hr, zu_r hr, zu_r hr, hν])))
  · have hD1 := hD.cls hC1 hF1
    refine Or.inr ⟨_, 1, rfl, rfl, ?_⟩
    have hD2 := hD1
    have hM2 := hD2.2.1
    refine z_istore dL_law_231 (by decide) rfl ?_
    refine z_aload_n dL_law_233 rfl ?_
    refine z_aload_n dL_law_234 rfl ?_
    refine z_iload dL_law_235 rfl ?_
    refine z_iconst (v := 1) dL_law_237 (by decide) ?_
    refine z_iadd dL_law_238 ?_
    refine z_sld dL_law_239 (zscI (j := 1) (by omega) (by omega)) ?_
    refine z_aload_n dL_law_240 rfl ?_
    refine z_iload dL_law_241 rfl ?_
    refine z_iconst (v := 2) dL_law_243 (by decide) ?_
    refine z_iadd dL_law_244 ?_
    refine z_sld dL_law_245 (zscI (j := 2) (by omega) (by omega)) ?_
    refine z_aload_n dL_law_246 rfl ?_
    refine z_iload dL_law_247 rfl ?_
    refine z_iconst (v := 3) dL_law_249 (by decide) ?_
    refine z_iadd dL_law_250 ?_
    refine z_sld dL_law_251 (zscI (j := 3) (by omega) (by omega)) ?_
    refine z_V3 (mi' := mX11_stone) dL_law_252 lL_138 nX11_stone kX11_stone (Nat.le_of_ble_eq_true rfl) (Nat.le_of_ble_eq_true rfl) (by omega) (by omega) (hD2.2.1.1 0 (by decide)) rfl rfl ?_
    refine sX11_stone hM2 hL hct hc8 (fun z8 => absurd (z9.symm.trans z8) (by simp)) (fun rn2 rd2 z8 G2 hM3 hF3 => ?_)
    have hD3 := hD2.mod hM3 hF3
    obtain ⟨rfl, rfl⟩ : rn = rn2 ∧ rd = rd2 := by
      have := Option.some.inj (z9.symm.trans z8)
      exact ⟨congrArg Prod.fst this, congrArg Prod.snd this⟩
    have hth : zmref μ rn rd 0 7 = 1 := rfl
    refine z_istore dL_law_255 (by decide) rfl ?_
    refine z_aload_n dL_law_257 rfl ?_
    refine z_V0 (mi' := mX11_thrown) dL_law_258 lL_139 nX11_thrown kX11_thrown (Nat.le_of_ble_eq_true rfl) (Nat.le_of_ble_eq_true rfl) (by omega) (by omega) (hD3.2.1.1 0 (by decide)) rfl rfl ?_
    refine sX11_thrown hD3.2.1 ?_
    rw [hth]
    refine z_iload dL_law_261 rfl ?_
    refine z_icmp_eq (tgt := 268) dL_law_263 (by decide) (fun _ => ?_) (fun c1 => absurd rfl c1)
    refine z_iload dL_law_268 rfl ?_
    refine z_if_ne (tgt := 285) dL_law_270 (by decide) (fun _ => ?_) (fun c2 => absurd c2 (by decide))
    refine z_goto (tgt := 2304) dL_law_285 (by decide) ?_
    refine z_wid (k' := k + 32) (n' := n + 6400) (by omega) (by omega) ?_
    exact z_sub (lv' := [some (.ref (Γ.2.2.2.2 102)), some (.ref (ax 0)), some (.ref (am 0)), some (.ref ou), some (.ref od), some (.int (nI i)), none, none, none]) ⟨rfl, rfl, rfl, rfl, rfl, rfl, trivial⟩ (kk _ _ _ _ _ _ hD3 ((hW.reff rn rd).up (by omega)))
set_option maxHeartbeats 4000000 in
set_option maxRecDepth 10000 in
theorem sLaw_flood {Γ : zG} {G : zH} {Post : zP} {ax : Nat → Nat} {bq m : Nat} {ρ : Nat → zSt} {γ : zSt} {am : Nat → Nat} {μ : zSt} {ou od i k n MC MS : Nat} {Y : Int} (hD : zLd G ax bq m ρ γ am μ ou od) (hW : zWd ρ γ μ m Y) (hY : Y ≤ 1000000) (hi : i + 4 ≤ Γ.2.2.2.2 103) (hlen : Γ.2.2.2.2 103 ≤ 2048) (hk9 : k + 32 ≤ MC) (hn9 : n + 6400 ≤ MS) (kk : ∀ G1 bq1 m1 ρ1 γ1 μ1, zLd G1 ax bq1 m1 ρ1 γ1 am μ1 ou od → zWd ρ1 γ1 μ1 m1 (Y + 1260) → zX Γ mL_law 10 MC MS 2304 [some (.ref (Γ.2.2.2.2 102)), some (.ref (ax 0)), some (.ref (am 0)), some (.ref ou), some (.ref od), some (.int (nI i)), none, none, none] [] G1 (k + 32) (n + 6400) Post) : zX Γ mL_law 10 MC MS 288 [some (.ref (Γ.2.2.2.2 102)), some (.ref (ax 0)), some (.ref (am 0)), some (.ref ou), some (.ref od), some (.int (nI i)), none, none, none] [] G k n Post := by
  obtain ⟨hC, hM, ⟨f0, hO⟩, ⟨f0d, hOd⟩, hSp⟩ := id hD
  obtain ⟨⟨S, F, E, K, mm, fl, hL, hB, hDi⟩, hW2, ⟨nx, ct, hX, hct, hring⟩, hW4, hW5, ⟨nt, hn1, hn2, hn60, htx, hch⟩, ⟨tx, hBt, hTx, h80⟩, hW0⟩ := id hW
  have hc8 := hX.2.2.2
  have hS6 := hL.S6
  have hF12 := hL.F12
  have hK3 := hL.K3
  refine z_aload_n dL_law_288 rfl ?_
  refine z_aload_n dL_law_289 rfl ?_
  refine z_iload dL_law_290 rfl ?_
  refine z_iconst (v := 1) dL_law_292 (by decide) ?_
  refine z_iadd dL_law_293 ?_
  refine z_sld dL_law_294 (zscI (j := 1) (by omega) (by omega)) ?_
  refine z_aload_n dL_law_295 rfl ?_
  refine z_iload dL_law_296 rfl ?_
  refine z_iconst (v := 2) dL_law_298 (by decide) ?_
  refine z_iadd dL_law_299 ?_
  refine z_sld dL_law_300 (zscI (j := 2) (by omega) (by omega)) ?_
  refine z_aload_n dL_law_301 rfl ?_
  refine z_iload dL_law_302 rfl ?_
  refine z_iconst (v := 3) dL_law_304 (by decide) ?_
  refine z_iadd dL_law_305 ?_
  refine z_sld dL_law_306 (zscI (j := 3) (by omega) (by omega)) ?_
  refine z_aload_n dL_law_307 rfl ?_
  refine z_callSW (mi' := mL_flood) (As := [.ref (ax 0), .int _, .int _, .int _, .ref ou]) (mc' := 1) (ms' := 6) (z := 5) dL_law_308 lL_142 nL_flood kgL_flood9 (Nat.le_of_ble_eq_true rfl) rfl (Nat.le_of_ble_eq_true rfl) (by omega) (by omega) ?_
  refine sL_flood (hC.1 0 (by decide)) (fun P hP => ?_)
  refine sX10_flood hC hL.n hX (fun z9 G1 hC1 hF1 => hP _ _ ?_) (fun rn rd z9 G1 hC1 hF1 => hP _ _ ?_)
  · have hD1 := hD.cls hC1 hF1
    obtain ⟨f1, hO1⟩ := hD1.2.2.1
    refine Or.inl ⟨_, f1, rfl, hO1, ?_⟩
    refine zX_out hD1 (fun hD2 => ?_)
    have hM2 := hD2.2.1
    refine z_istore dL_law_311 (by decide) rfl ?_
    refine z_aload_n dL_law_313 rfl ?_
    refine z_aload_n dL_law_314 rfl ?_
    refine z_iload dL_law_315 rfl ?_
    refine z_iconst (v := 1) dL_law_317 (by decide) ?_
    refine z_iadd dL_law_318 ?_
    refine z_sld dL_law_319 (zscI (j := 1) (by omega) (by omega)) ?_
    refine z_aload_n dL_law_320 rfl ?_
    refine z_iload dL_law_321 rfl ?_
    refine z_iconst (v := 2) dL_law_323 (by decide) ?_
    refine z_iadd dL_law_324 ?_
    refine z_sld dL_law_325 (zscI (j := 2) (by omega) (by omega)) ?_
    refine z_aload_n dL_law_326 rfl ?_
    refine z_iload dL_law_327 rfl ?_
    refine z_iconst (v := 3) dL_law_329 (by decide) ?_
    refine z_iadd dL_law_330 ?_
    refine z_sld dL_law_331 (zscI (j := 3) (by omega) (by omega)) ?_
    refine z_V3 (mi' := mX11_flood) dL_law_332 lL_144 nX11_flood kX11_flood (Nat.le_of_ble_eq_true rfl) (Nat.le_of_ble_eq_true rfl) (by omega) (by omega) (hD2.2.1.1 0 (by decide)) rfl rfl ?_
    refine sX11_flood hM2 hL hct hc8 (fun z8 ν hν G2 hM3 hF3 => ?_) (fun rn rd z8 => absurd (z9.symm.trans z8) (by simp))
    have hD3 := hD2.mod hM3 hF3
    have hL2 : zRel (ρ 0) S F E K (ν 1) mm fl := by rw [hν, zmkeep_r (by decide) (by decide)]; exact hL
    have hso := (hD2.seeO hF3).trans (zset_s _ _ _)
    refine z_istore dL_law_335 (by decide) rfl ?_
    refine z_aload_n dL_law_337 rfl ?_
    refine z_V0 (mi' := mX11_thrown) dL_law_338 lL_139 nX11_thrown kX11_thrown (Nat.le_of_ble_eq_true rfl) (Nat.le_of_ble_eq_true rfl) (by omega) (by omega) (hD3.2.1.1 0 (by decide)) rfl rfl ?_
    refine sX11_thrown hD3.2.1 ?_
    rw [zu_r (show (0 : Nat) ≠ 1 by decide), zu_r (show (0 : Nat) ≠ 1 by decide), zu_r (show (0 : Nat) ≠ 1 by decide), zu_r (show (0 : Nat) ≠ 1 by decide), hν, zmkeep_7]
    refine z_iload dL_law_341 rfl ?_
    refine z_icmp_eq (tgt := 348) dL_law_343 (by decide) (fun _ => ?_) (fun c1 => absurd rfl c1)
    refine z_iload dL_law_348 rfl ?_
    refine z_if_ne (tgt := 365) dL_law_350 (by decide) (fun c2 => absurd rfl c2) (fun _ => ?_)
    refine z_aload_n dL_law_353 rfl ?_
    refine z_iconst (v := 0) dL_law_354 (by decide) ?_
    refine z_lald dL_law_355 hso (vp_in_nI (n := 0) (show 0 < 1 by decide) (by decide)) ?_
    refine z_iload dL_law_356 rfl ?_
    refine z_i2l dL_law_358 ?_
    refine z_lcmp dL_law_359 ?_
    refine z_if_eq (tgt := 365) dL_law_360 (by decide) (fun _ => ?_) (fun c3 => absurd (zlcmp _) c3)
    refine z_goto (tgt := 2304) dL_law_365 (by decide) ?_
    refine z_wid (k' := k + 32) (n' := n + 6400) (by omega) (by omega) ?_
    exact z_sub (lv' := [some (.ref (Γ.2.2.2.2 102)), some (.ref (ax 0)), some (.ref (am 0)), some (.ref ou), some (.ref od), some (.int (nI i)), none, none, none]) ⟨rfl, rfl, rfl, rfl, rfl, rfl, trivial⟩ (kk _ _ _ _ _ _ hD3 (hW.kept hX ((zTie.flood hL2 hB hDi z9).up (by omega)) (by omega) (fun r hr => by rw [zu_r hr, zu_r hr, zu_r hr, zu_r hr, hν])))
  · have hD1 := hD.cls hC1 hF1
    refine Or.inr ⟨_, 1, rfl, rfl, ?_⟩
    have hD2 := hD1
    have hM2 := hD2.2.1
    refine z_istore dL_law_311 (by decide) rfl ?_
    refine z_aload_n dL_law_313 rfl ?_
    refine z_aload_n dL_law_314 rfl ?_
    refine z_iload dL_law_315 rfl ?_
    refine z_iconst (v := 1) dL_law_317 (by decide) ?_
    refine z_iadd dL_law_318 ?_
    refine z_sld dL_law_319 (zscI (j := 1) (by omega) (by omega)) ?_
    refine z_aload_n dL_law_320 rfl ?_
    refine z_iload dL_law_321 rfl ?_
    refine z_iconst (v := 2) dL_law_323 (by decide) ?_
    refine z_iadd dL_law_324 ?_
    refine z_sld dL_law_325 (zscI (j := 2) (by omega) (by omega)) ?_
    refine z_aload_n dL_law_326 rfl ?_
    refine z_iload dL_law_327 rfl ?_
    refine z_iconst (v := 3) dL_law_329 (by decide) ?_
    refine z_iadd dL_law_330 ?_
    refine z_sld dL_law_331 (zscI (j := 3) (by omega) (by omega)) ?_
    refine z_V3 (mi' := mX11_flood) dL_law_332 lL_144 nX11_flood kX11_flood (Nat.le_of_ble_eq_true rfl) (Nat.le_of_ble_eq_true rfl) (by omega) (by omega) (hD2.2.1.1 0 (by decide)) rfl rfl ?_
    refine sX11_flood hM2 hL hct hc8 (fun z8 => absurd (z9.symm.trans z8) (by simp)) (fun rn2 rd2 z8 G2 hM3 hF3 => ?_)
    have hD3 := hD2.mod hM3 hF3
    obtain ⟨rfl, rfl⟩ : rn = rn2 ∧ rd = rd2 := by
      have := Option.some.inj (z9.symm.trans z8)
      exact ⟨congrArg Prod.fst this, congrArg Prod.snd this⟩
    have hth : zmref μ rn rd 0 7 = 1 := rfl
    refine z_istore dL_law_335 (by decide) rfl ?_
    refine z_aload_n dL_law_337 rfl ?_
    refine z_V0 (mi' := mX11_thrown) dL_law_338 lL_139 nX11_thrown kX11_thrown (Nat.le_of_ble_eq_true rfl) (Nat.le_of_ble_eq_true rfl) (by omega) (by omega) (hD3.2.1.1 0 (by decide)) rfl rfl ?_
    refine sX11_thrown hD3.2.1 ?_
    rw [hth]
    refine z_iload dL_law_341 rfl ?_
    refine z_icmp_eq (tgt := 348) dL_law_343 (by decide) (fun _ => ?_) (fun c1 => absurd rfl c1)
    refine z_iload dL_law_348 rfl ?_
    refine z_if_ne (tgt := 365) dL_law_350 (by decide) (fun _ => ?_) (fun c2 => absurd c2 (by decide))
    refine z_goto (tgt := 2304) dL_law_365 (by decide) ?_
    refine z_wid (k' := k + 32) (n' := n + 6400) (by omega) (by omega) ?_
    exact z_sub (lv' := [some (.ref (Γ.2.2.2.2 102)), some (.ref (ax 0)), some (.ref (am 0)), some (.ref ou), some (.ref od), some (.int (nI i)), none, none, none]) ⟨rfl, rfl, rfl, rfl, rfl, rfl, trivial⟩ (kk _ _ _ _ _ _ hD3 ((hW.reff rn rd).up (by omega)))
set_option maxHeartbeats 4000000 in
set_option maxRecDepth 10000 in
theorem sLaw_epoch {Γ : zG} {G : zH} {Post : zP} {ax : Nat → Nat} {bq m : Nat} {ρ : Nat → zSt} {γ : zSt} {am : Nat → Nat} {μ : zSt} {ou od i k n MC MS : Nat} {Y : Int} (hD : zLd G ax bq m ρ γ am μ ou od) (hW : zWd ρ γ μ m Y) (hY : Y ≤ 1000000) (hi : i + 4 ≤ Γ.2.2.2.2 103) (hlen : Γ.2.2.2.2 103 ≤ 2048) (hk9 : k + 32 ≤ MC) (hn9 : n + 6400 ≤ MS) (kk : ∀ G1 bq1 m1 ρ1 γ1 μ1, zLd G1 ax bq1 m1 ρ1 γ1 am μ1 ou od → zWd ρ1 γ1 μ1 m1 (Y + 1260) → zX Γ mL_law 10 MC MS 2304 [some (.ref (Γ.2.2.2.2 102)), some (.ref (ax 0)), some (.ref (am 0)), some (.ref ou), some (.ref od), some (.int (nI i)), none, none, none] [] G1 (k + 32) (n + 6400) Post) : zX Γ mL_law 10 MC MS 368 [some (.ref (Γ.2.2.2.2 102)), some (.ref (ax 0)), some (.ref (am 0)), some (.ref ou), some (.ref od), some (.int (nI i)), none, none, none] [] G k n Post := by
  obtain ⟨hC, hM, ⟨f0, hO⟩, ⟨f0d, hOd⟩, hSp⟩ := id hD
  obtain ⟨⟨S, F, E, K, mm, fl, hL, hB, hDi⟩, hW2, ⟨nx, ct, hX, hct, hring⟩, hW4, hW5, ⟨nt, hn1, hn2, hn60, htx, hch⟩, ⟨tx, hBt, hTx, h80⟩, hW0⟩ := id hW
  have hc8 := hX.2.2.2
  have hS6 := hL.S6
  have hF12 := hL.F12
  have hK3 := hL.K3
  refine z_aload_n dL_law_368 rfl ?_
  refine z_aload_n dL_law_369 rfl ?_
  refine z_iload dL_law_370 rfl ?_
  refine z_iconst (v := 1) dL_law_372 (by decide) ?_
  refine z_iadd dL_law_373 ?_
  refine z_sld dL_law_374 (zscI (j := 1) (by omega) (by omega)) ?_
  refine z_aload_n dL_law_375 rfl ?_
  refine z_iload dL_law_376 rfl ?_
  refine z_iconst (v := 2) dL_law_378 (by decide) ?_
  refine z_iadd dL_law_379 ?_
  refine z_sld dL_law_380 (zscI (j := 2) (by omega) (by omega)) ?_
  refine z_aload_n dL_law_381 rfl ?_
  refine z_callSW (mi' := mL_epoch) (As := [.ref (ax 0), .int _, .int _, .ref ou]) (mc' := 1) (ms' := 6) (z := 4) dL_law_382 lL_145 nL_epoch kgL_epoch9 (Nat.le_of_ble_eq_true rfl) rfl (Nat.le_of_ble_eq_true rfl) (by omega) (by omega) ?_
  refine sL_epoch (hC.1 0 (by decide)) (fun P hP => ?_)
  refine sX10_epoch hC hL.n hX (fun z9 G1 hC1 hF1 => hP _ _ ?_) (fun rn rd z9 G1 hC1 hF1 => hP _ _ ?_)
  · have hD1 := hD.cls hC1 hF1
    rw [(zTie.epoch (ν := μ) hL hB hDi z9).2]
    obtain ⟨f1, hO1⟩ := hD1.2.2.1
    refine Or.inl ⟨_, f1, rfl, hO1, ?_⟩
    refine zX_out hD1 (fun hD2 => ?_)
    have hM2 := hD2.2.1
    refine z_istore dL_law_385 (by decide) rfl ?_
    refine z_aload_n dL_law_387 rfl ?_
    refine z_aload_n dL_law_388 rfl ?_
    refine z_iload dL_law_389 rfl ?_
    refine z_iconst (v := 1) dL_law_391 (by decide) ?_
    refine z_iadd dL_law_392 ?_
    refine z_sld dL_law_393 (zscI (j := 1) (by omega) (by omega)) ?_
    refine z_aload_n dL_law_394 rfl ?_
    refine z_iload dL_law_395 rfl ?_
    refine z_iconst (v := 2) dL_law_397 (by decide) ?_
    refine z_iadd dL_law_398 ?_
    refine z_sld dL_law_399 (zscI (j := 2) (by omega) (by omega)) ?_
    refine z_V2 (mi' := mX11_epoch) dL_law_400 lL_148 nX11_epoch kX11_epoch (Nat.le_of_ble_eq_true rfl) (Nat.le_of_ble_eq_true rfl) (by omega) (by omega) (hD2.2.1.1 0 (by decide)) rfl rfl ?_
    refine sX11_epoch hM2 hL hct hc8 (fun z8 ν hν G2 hM3 hF3 => ?_) (fun rn rd z8 => absurd (z9.symm.trans z8) (by simp))
    have hD3 := hD2.mod hM3 hF3
    have hL2 : zRel (ρ 0) S F E K (ν 1) mm fl := by rw [hν, zmkeep_r (by decide) (by decide)]; exact hL
    have hso := (hD2.seeO hF3).trans (zset_s _ _ _)
    refine z_istore dL_law_403 (by decide) rfl ?_
    refine z_aload_n dL_law_405 rfl ?_
    refine z_V0 (mi' := mX11_thrown) dL_law_406 lL_139 nX11_thrown kX11_thrown (Nat.le_of_ble_eq_true rfl) (Nat.le_of_ble_eq_true rfl) (by omega) (by omega) (hD3.2.1.1 0 (by decide)) rfl rfl ?_
    refine sX11_thrown hD3.2.1 ?_
    rw [zu_r (show (0 : Nat) ≠ 1 by decide), zu_r (show (0 : Nat) ≠ 1 by decide), zu_r (show (0 : Nat) ≠ 1 by decide), hν, zmkeep_7]
    refine z_iload dL_law_409 rfl ?_
    refine z_icmp_eq (tgt := 416) dL_law_411 (by decide) (fun _ => ?_) (fun c1 => absurd rfl c1)
    refine z_iload dL_law_416 rfl ?_
    refine z_if_ne (tgt := 433) dL_law_418 (by decide) (fun c2 => absurd rfl c2) (fun _ => ?_)
    refine z_aload_n dL_law_421 rfl ?_
    refine z_iconst (v := 0) dL_law_422 (by decide) ?_
    refine z_lald dL_law_423 hso (vp_in_nI (n := 0) (show 0 < 1 by decide) (by decide)) ?_
    refine z_iload dL_law_424 rfl ?_
    refine z_i2l dL_law_426 ?_
    refine z_lcmp dL_law_427 ?_
    refine z_if_eq (tgt := 433) dL_law_428 (by decide) (fun _ => ?_) (fun c3 => absurd (zlcmp _) c3)
    refine z_goto (tgt := 2304) dL_law_433 (by decide) ?_
    refine z_wid (k' := k + 32) (n' := n + 6400) (by omega) (by omega) ?_
    exact z_sub (lv' := [some (.ref (Γ.2.2.2.2 102)), some (.ref (ax 0)), some (.ref (am 0)), some (.ref ou), some (.ref od), some (.int (nI i)), none, none, none]) ⟨rfl, rfl, rfl, rfl, rfl, rfl, trivial⟩ (kk _ _ _ _ _ _ hD3 (hW.kept hX ((zTie.epoch hL2 hB hDi z9).1.up (by omega)) (by omega) (fun r hr => by rw [zu_r hr, zu_r hr, zu_r hr, hν])))
  · have hD1 := hD.cls hC1 hF1
    refine Or.inr ⟨_, 1, rfl, rfl, ?_⟩
    have hD2 := hD1
    have hM2 := hD2.2.1
    refine z_istore dL_law_385 (by decide) rfl ?_
    refine z_aload_n dL_law_387 rfl ?_
    refine z_aload_n dL_law_388 rfl ?_
    refine z_iload dL_law_389 rfl ?_
    refine z_iconst (v := 1) dL_law_391 (by decide) ?_
    refine z_iadd dL_law_392 ?_
    refine z_sld dL_law_393 (zscI (j := 1) (by omega) (by omega)) ?_
    refine z_aload_n dL_law_394 rfl ?_
    refine z_iload dL_law_395 rfl ?_
    refine z_iconst (v := 2) dL_law_397 (by decide) ?_
    refine z_iadd dL_law_398 ?_
    refine z_sld dL_law_399 (zscI (j := 2) (by omega) (by omega)) ?_
    refine z_V2 (mi' := mX11_epoch) dL_law_400 lL_148 nX11_epoch kX11_epoch (Nat.le_of_ble_eq_true rfl) (Nat.le_of_ble_eq_true rfl) (by omega) (by omega) (hD2.2.1.1 0 (by decide)) rfl rfl ?_
    refine sX11_epoch hM2 hL hct hc8 (fun z8 => absurd (z9.symm.trans z8) (by simp)) (fun rn2 rd2 z8 G2 hM3 hF3 => ?_)
    have hD3 := hD2.mod hM3 hF3
    obtain ⟨rfl, rfl⟩ : rn = rn2 ∧ rd = rd2 := by
      have := Option.some.inj (z9.symm.trans z8)
      exact ⟨congrArg Prod.fst this, congrArg Prod.snd this⟩
    have hth : zmref μ rn rd 0 7 = 1 := rfl
    refine z_istore dL_law_403 (by decide) rfl ?_
    refine z_aload_n dL_law_405 rfl ?_
    refine z_V0 (mi' := mX11_thrown) dL_law_406 lL_139 nX11_thrown kX11_thrown (Nat.le_of_ble_eq_true rfl) (Nat.le_of_ble_eq_true rfl) (by omega) (by omega) (hD3.2.1.1 0 (by decide)) rfl rfl ?_
    refine sX11_thrown hD3.2.1 ?_
    rw [hth]
    refine z_iload dL_law_409 rfl ?_
    refine z_icmp_eq (tgt := 416) dL_law_411 (by decide) (fun _ => ?_) (fun c1 => absurd rfl c1)
    refine z_iload dL_law_416 rfl ?_
    refine z_if_ne (tgt := 433) dL_law_418 (by decide) (fun _ => ?_) (fun c2 => absurd c2 (by decide))
    refine z_goto (tgt := 2304) dL_law_433 (by decide) ?_
    refine z_wid (k' := k + 32) (n' := n + 6400) (by omega) (by omega) ?_
    exact z_sub (lv' := [some (.ref (Γ.2.2.2.2 102)), some (.ref (ax 0)), some (.ref (am 0)), some (.ref ou), some (.ref od), some (.int (nI i)), none, none, none]) ⟨rfl, rfl, rfl, rfl, rfl, rfl, trivial⟩ (kk _ _ _ _ _ _ hD3 ((hW.reff rn rd).up (by omega)))
set_option maxHeartbeats 4000000 in
set_option maxRecDepth 10000 in
theorem sLaw_chisel {Γ : zG} {G : zH} {Post : zP} {ax : Nat → Nat} {bq m : Nat} {ρ : Nat → zSt} {γ : zSt} {am : Nat → Nat} {μ : zSt} {ou od i k n MC MS : Nat} {Y : Int} (hD : zLd G ax bq m ρ γ am μ ou od) (hW : zWd ρ γ μ m Y) (hY : Y ≤ 1000000) (hi : i + 4 ≤ Γ.2.2.2.2 103) (hlen : Γ.2.2.2.2 103 ≤ 2048) (hk9 : k + 32 ≤ MC) (hn9 : n + 6400 ≤ MS) (kk : ∀ G1 bq1 m1 ρ1 γ1 μ1, zLd G1 ax bq1 m1 ρ1 γ1 am μ1 ou od → zWd ρ1 γ1 μ1 m1 (Y + 1260) → zX Γ mL_law 10 MC MS 2304 [some (.ref (Γ.2.2.2.2 102)), some (.ref (ax 0)), some (.ref (am 0)), some (.ref ou), some (.ref od), some (.int (nI i)), none, none, none] [] G1 (k + 32) (n + 6400) Post) : zX Γ mL_law 10 MC MS 436 [some (.ref (Γ.2.2.2.2 102)), some (.ref (ax 0)), some (.ref (am 0)), some (.ref ou), some (.ref od), some (.int (nI i)), none, none, none] [] G k n Post := by
  obtain ⟨hC, hM, ⟨f0, hO⟩, ⟨f0d, hOd⟩, hSp⟩ := id hD
  obtain ⟨⟨S, F, E, K, mm, fl, hL, hB, hDi⟩, hW2, ⟨nx, ct, hX, hct, hring⟩, hW4, hW5, ⟨nt, hn1, hn2, hn60, htx, hch⟩, ⟨tx, hBt, hTx, h80⟩, hW0⟩ := id hW
  have hc8 := hX.2.2.2
  have hS6 := hL.S6
  have hF12 := hL.F12
  have hK3 := hL.K3
  refine z_aload_n dL_law_436 rfl ?_
  refine z_aload_n dL_law_437 rfl ?_
  refine z_callSW (mi' := mL_chisel) (As := [.ref (ax 0), .ref ou]) (mc' := 1) (ms' := 6) (z := 2) dL_law_438 lL_149 nL_chisel kgL_chisel9 (Nat.le_of_ble_eq_true rfl) rfl (Nat.le_of_ble_eq_true rfl) (by omega) (by omega) ?_
  refine sL_chisel (hC.1 0 (by decide)) (fun P hP => ?_)
  refine sX10_chisel hC hL.n hX (fun z9 G1 hC1 hF1 => hP _ _ ?_) (fun rn rd z9 G1 hC1 hF1 => hP _ _ ?_)
  · have hD1 := hD.cls hC1 hF1
    obtain ⟨f1, hO1⟩ := hD1.2.2.1
    refine Or.inl ⟨_, f1, rfl, hO1, ?_⟩
    refine zX_out hD1 (fun hD2 => ?_)
    have hM2 := hD2.2.1
    refine z_istore dL_law_441 (by decide) rfl ?_
    refine z_aload_n dL_law_443 rfl ?_
    refine z_V0 (mi' := mX11_chisel) dL_law_444 lL_152 nX11_chisel kX11_chisel (Nat.le_of_ble_eq_true rfl) (Nat.le_of_ble_eq_true rfl) (by omega) (by omega) (hD2.2.1.1 0 (by decide)) rfl rfl ?_
    refine sX11_chisel hM2 hL hct hc8 (fun z8 ν hν G2 hM3 hF3 => ?_) (fun rn rd z8 => absurd (z9.symm.trans z8) (by simp))
    have hD3 := hD2.mod hM3 hF3
    have hL2 : zRel (ρ 0) S F E K (ν 1) mm fl := by rw [hν, zmkeep_r (by decide) (by decide)]; exact hL
    have hso := (hD2.seeO hF3).trans (zset_s _ _ _)
    refine z_istore dL_law_447 (by decide) rfl ?_
    refine z_aload_n dL_law_449 rfl ?_
    refine z_V0 (mi' := mX11_thrown) dL_law_450 lL_139 nX11_thrown kX11_thrown (Nat.le_of_ble_eq_true rfl) (Nat.le_of_ble_eq_true rfl) (by omega) (by omega) (hD3.2.1.1 0 (by decide)) rfl rfl ?_
    refine sX11_thrown hD3.2.1 ?_
    rw [zu_r (show (0 : Nat) ≠ 1 by decide), zu_r (show (0 : Nat) ≠ 1 by decide), hν, zmkeep_7]
    refine z_iload dL_law_453 rfl ?_
    refine z_icmp_eq (tgt := 460) dL_law_455 (by decide) (fun _ => ?_) (fun c1 => absurd rfl c1)
    refine z_iload dL_law_460 rfl ?_
    refine z_if_ne (tgt := 477) dL_law_462 (by decide) (fun c2 => absurd rfl c2) (fun _ => ?_)
    refine z_aload_n dL_law_465 rfl ?_
    refine z_iconst (v := 0) dL_law_466 (by decide) ?_
    refine z_lald dL_law_467 hso (vp_in_nI (n := 0) (show 0 < 1 by decide) (by decide)) ?_
    refine z_iload dL_law_468 rfl ?_
    refine z_i2l dL_law_470 ?_
    refine z_lcmp dL_law_471 ?_
    refine z_if_eq (tgt := 477) dL_law_472 (by decide) (fun _ => ?_) (fun c3 => absurd (zlcmp _) c3)
    refine z_goto (tgt := 2304) dL_law_477 (by decide) ?_
    refine z_wid (k' := k + 32) (n' := n + 6400) (by omega) (by omega) ?_
    exact z_sub (lv' := [some (.ref (Γ.2.2.2.2 102)), some (.ref (ax 0)), some (.ref (am 0)), some (.ref ou), some (.ref od), some (.int (nI i)), none, none, none]) ⟨rfl, rfl, rfl, rfl, rfl, rfl, trivial⟩ (kk _ _ _ _ _ _ hD3 (hW.kept hX ((zTie.chisel hL2 hB hDi z9).up (by omega)) (by omega) (fun r hr => by rw [zu_r hr, zu_r hr, hν])))
  · have hD1 := hD.cls hC1 hF1
    refine Or.inr ⟨_, 1, rfl, rfl, ?_⟩
    have hD2 := hD1
    have hM2 := hD2.2.1
    refine z_istore dL_law_441 (by decide) rfl ?_
    refine z_aload_n dL_law_443 rfl ?_
    refine z_V0 (mi' := mX11_chisel) dL_law_444 lL_152 nX11_chisel kX11_chisel (Nat.le_of_ble_eq_true rfl) (Nat.le_of_ble_eq_true rfl) (by omega) (by omega) (hD2.2.1.1 0 (by decide)) rfl rfl ?_
    refine sX11_chisel hM2 hL hct hc8 (fun z8 => absurd (z9.symm.trans z8) (by simp)) (fun rn2 rd2 z8 G2 hM3 hF3 => ?_)
    have hD3 := hD2.mod hM3 hF3
    obtain ⟨rfl, rfl⟩ : rn = rn2 ∧ rd = rd2 := by
      have := Option.some.inj (z9.symm.trans z8)
      exact ⟨congrArg Prod.fst this, congrArg Prod.snd this⟩
    have hth : zmref μ rn rd 0 7 = 1 := rfl
    refine z_istore dL_law_447 (by decide) rfl ?_
    refine z_aload_n dL_law_449 rfl ?_
    refine z_V0 (mi' := mX11_thrown) dL_law_450 lL_139 nX11_thrown kX11_thrown (Nat.le_of_ble_eq_true rfl) (Nat.le_of_ble_eq_true rfl) (by omega) (by omega) (hD3.2.1.1 0 (by decide)) rfl rfl ?_
    refine sX11_thrown hD3.2.1 ?_
    rw [hth]
    refine z_iload dL_law_453 rfl ?_
    refine z_icmp_eq (tgt := 460) dL_law_455 (by decide) (fun _ => ?_) (fun c1 => absurd rfl c1)
    refine z_iload dL_law_460 rfl ?_
    refine z_if_ne (tgt := 477) dL_law_462 (by decide) (fun _ => ?_) (fun c2 => absurd c2 (by decide))
    refine z_goto (tgt := 2304) dL_law_477 (by decide) ?_
    refine z_wid (k' := k + 32) (n' := n + 6400) (by omega) (by omega) ?_
    exact z_sub (lv' := [some (.ref (Γ.2.2.2.2 102)), some (.ref (ax 0)), some (.ref (am 0)), some (.ref ou), some (.ref od), some (.int (nI i)), none, none, none]) ⟨rfl, rfl, rfl, rfl, rfl, rfl, trivial⟩ (kk _ _ _ _ _ _ hD3 ((hW.reff rn rd).up (by omega)))
set_option maxHeartbeats 4000000 in
set_option maxRecDepth 10000 in
theorem sLaw_cut {Γ : zG} {G : zH} {Post : zP} {ax : Nat → Nat} {bq m : Nat} {ρ : Nat → zSt} {γ : zSt} {am : Nat → Nat} {μ : zSt} {ou od i k n MC MS : Nat} {Y : Int} (hD : zLd G ax bq m ρ γ am μ ou od) (hW : zWd ρ γ μ m Y) (hY : Y ≤ 1000000) (hi : i + 4 ≤ Γ.2.2.2.2 103) (hlen : Γ.2.2.2.2 103 ≤ 2048) (hk9 : k + 32 ≤ MC) (hn9 : n + 6400 ≤ MS) (kk : ∀ G1 bq1 m1 ρ1 γ1 μ1, zLd G1 ax bq1 m1 ρ1 γ1 am μ1 ou od → zWd ρ1 γ1 μ1 m1 (Y + 1260) → zX Γ mL_law 10 MC MS 2304 [some (.ref (Γ.2.2.2.2 102)), some (.ref (ax 0)), some (.ref (am 0)), some (.ref ou), some (.ref od), some (.int (nI i)), none, none, none] [] G1 (k + 32) (n + 6400) Post) : zX Γ mL_law 10 MC MS 480 [some (.ref (Γ.2.2.2.2 102)), some (.ref (ax 0)), some (.ref (am 0)), some (.ref ou), some (.ref od), some (.int (nI i)), none, none, none] [] G k n Post := by
  obtain ⟨hC, hM, ⟨f0, hO⟩, ⟨f0d, hOd⟩, hSp⟩ := id hD
  obtain ⟨⟨S, F, E, K, mm, fl, hL, hB, hDi⟩, hW2, ⟨nx, ct, hX, hct, hring⟩, hW4, hW5, ⟨nt, hn1, hn2, hn60, htx, hch⟩, ⟨tx, hBt, hTx, h80⟩, hW0⟩ := id hW
  have hc8 := hX.2.2.2
  have hS6 := hL.S6
  have hF12 := hL.F12
  have hK3 := hL.K3
  refine z_aload_n dL_law_480 rfl ?_
  refine z_aload_n dL_law_481 rfl ?_
  refine z_iload dL_law_482 rfl ?_
  refine z_iconst (v := 1) dL_law_484 (by decide) ?_
  refine z_iadd dL_law_485 ?_
  refine z_sld dL_law_486 (zscI (j := 1) (by omega) (by omega)) ?_
  refine z_aload_n dL_law_487 rfl ?_
  refine z_iload dL_law_488 rfl ?_
  refine z_iconst (v := 2) dL_law_490 (by decide) ?_
  refine z_iadd dL_law_491 ?_
  refine z_sld dL_law_492 (zscI (j := 2) (by omega) (by omega)) ?_
  refine z_aload_n dL_law_493 rfl ?_
  refine z_iload dL_law_494 rfl ?_
  refine z_iconst (v := 3) dL_law_496 (by decide) ?_
  refine z_iadd dL_law_497 ?_
  refine z_sld dL_law_498 (zscI (j := 3) (by omega) (by omega)) ?_
  refine z_aload_n dL_law_499 rfl ?_
  refine z_callSW (mi' := mL_cut) (As := [.ref (ax 0), .int _, .int _, .int _, .ref ou]) (mc' := 1) (ms' := 6) (z := 5) dL_law_500 lL_153 nL_cut kgL_cut9 (Nat.le_of_ble_eq_true rfl) rfl (Nat.le_of_ble_eq_true rfl) (by omega) (by omega) ?_
  refine sL_cut (hC.1 0 (by decide)) (fun P hP => ?_)
  refine sX10_cut hC hL.n hX (fun z9 s f c hs hf hc e1 e2 e3 G1 hC1 hF1 => hP _ _ ?_) (fun rn rd z9 G1 hC1 hF1 => hP _ _ ?_)
  · have hD1 := hD.cls hC1 hF1
    obtain ⟨f1, hO1⟩ := hD1.2.2.1
    refine Or.inl ⟨_, f1, rfl, hO1, ?_⟩
    refine zX_out hD1 (fun hD2 => ?_)
    have hM2 := hD2.2.1
    refine z_istore dL_law_503 (by decide) rfl ?_
    refine z_aload_n dL_law_505 rfl ?_
    refine z_aload_n dL_law_506 rfl ?_
    refine z_iload dL_law_507 rfl ?_
    refine z_iconst (v := 1) dL_law_509 (by decide) ?_
    refine z_iadd dL_law_510 ?_
    refine z_sld dL_law_511 (zscI (j := 1) (by omega) (by omega)) ?_
    refine z_aload_n dL_law_512 rfl ?_
    refine z_iload dL_law_513 rfl ?_
    refine z_iconst (v := 2) dL_law_515 (by decide) ?_
    refine z_iadd dL_law_516 ?_
    refine z_sld dL_law_517 (zscI (j := 2) (by omega) (by omega)) ?_
    refine z_aload_n dL_law_518 rfl ?_
    refine z_iload dL_law_519 rfl ?_
    refine z_iconst (v := 3) dL_law_521 (by decide) ?_
    refine z_iadd dL_law_522 ?_
    refine z_sld dL_law_523 (zscI (j := 3) (by omega) (by omega)) ?_
    refine z_V3 (mi' := mX11_cut) dL_law_524 lL_155 nX11_cut kX11_cut (Nat.le_of_ble_eq_true rfl) (Nat.le_of_ble_eq_true rfl) (by omega) (by omega) (hD2.2.1.1 0 (by decide)) rfl rfl ?_
    refine sX11_cut hM2 hL hct hc8 hDi (fun z8 s2 f2 c2 hs2 hf2 hc2 hmm e19 e29 e39 ν hν G2 hM3 hF3 => ?_) (fun rn rd z8 => absurd (z9.symm.trans z8) (by simp))
    obtain rfl : s2 = s := nI_inj (by omega) (by omega) (e19.symm.trans e1)
    obtain rfl : f2 = f := nI_inj (by omega) (by omega) (e29.symm.trans e2)
    obtain rfl : c2 = c := nI_inj (by omega) (by omega) (e39.symm.trans e3)
    have hD3 := hD2.mod hM3 hF3
    have hL2 : zRel (ρ 0) S F E K (ν 1) mm fl := by rw [hν, zmkeep_r (by decide) (by decide)]; exact hL
    have hso := (hD2.seeO hF3).trans (zset_s _ _ _)
    refine z_istore dL_law_527 (by decide) rfl ?_
    refine z_aload_n dL_law_529 rfl ?_
    refine z_V0 (mi' := mX11_thrown) dL_law_530 lL_139 nX11_thrown kX11_thrown (Nat.le_of_ble_eq_true rfl) (Nat.le_of_ble_eq_true rfl) (by omega) (by omega) (hD3.2.1.1 0 (by decide)) rfl rfl ?_
    refine sX11_thrown hD3.2.1 ?_
    rw [zu_r (show (0 : Nat) ≠ 1 by decide), zu_r (show (0 : Nat) ≠ 1 by decide), zu_r (show (0 : Nat) ≠ 1 by decide), zu_r (show (0 : Nat) ≠ 1 by decide), zu_r (show (0 : Nat) ≠ 1 by decide), zu_r (show (0 : Nat) ≠ 1 by decide), zu_r (show (0 : Nat) ≠ 1 by decide), hν, zmkeep_7]
    refine z_iload dL_law_533 rfl ?_
    refine z_icmp_eq (tgt := 540) dL_law_535 (by decide) (fun _ => ?_) (fun c1 => absurd rfl c1)
    refine z_iload dL_law_540 rfl ?_
    refine z_if_ne (tgt := 557) dL_law_542 (by decide) (fun c2 => absurd rfl c2) (fun _ => ?_)
    refine z_aload_n dL_law_545 rfl ?_
    refine z_iconst (v := 0) dL_law_546 (by decide) ?_
    refine z_lald dL_law_547 hso (vp_in_nI (n := 0) (show 0 < 1 by decide) (by decide)) ?_
    refine z_iload dL_law_548 rfl ?_
    refine z_i2l dL_law_550 ?_
    refine z_lcmp dL_law_551 ?_
    refine z_if_eq (tgt := 557) dL_law_552 (by decide) (fun _ => ?_) (fun c3 => absurd (zlcmp _) c3)
    refine z_goto (tgt := 2304) dL_law_557 (by decide) ?_
    refine z_wid (k' := k + 32) (n' := n + 6400) (by omega) (by omega) ?_
    exact z_sub (lv' := [some (.ref (Γ.2.2.2.2 102)), some (.ref (ax 0)), some (.ref (am 0)), some (.ref ou), some (.ref od), some (.int (nI i)), none, none, none]) ⟨rfl, rfl, rfl, rfl, rfl, rfl, trivial⟩ (kk _ _ _ _ _ _ hD3 (hW.kept hX ((zTie.cut hL2 hB hDi hs hf hc hmm (by rw [← e1, ← e2, ← e3]; exact z9)).up (by omega)) (by omega) (fun r hr => by rw [zu_r hr, zu_r hr, zu_r hr, zu_r hr, zu_r hr, zu_r hr, zu_r hr, hν])))
  · have hD1 := hD.cls hC1 hF1
    refine Or.inr ⟨_, 1, rfl, rfl, ?_⟩
    have hD2 := hD1
    have hM2 := hD2.2.1
    refine z_istore dL_law_503 (by decide) rfl ?_
    refine z_aload_n dL_law_505 rfl ?_
    refine z_aload_n dL_law_506 rfl ?_
    refine z_iload dL_law_507 rfl ?_
    refine z_iconst (v := 1) dL_law_509 (by decide) ?_
    refine z_iadd dL_law_510 ?_
    refine z_sld dL_law_511 (zscI (j := 1) (by omega) (by omega)) ?_
    refine z_aload_n dL_law_512 rfl ?_
    refine z_iload dL_law_513 rfl ?_
    refine z_iconst (v := 2) dL_law_515 (by decide) ?_
    refine z_iadd dL_law_516 ?_
    refine z_sld dL_law_517 (zscI (j := 2) (by omega) (by omega)) ?_
    refine z_aload_n dL_law_518 rfl ?_
    refine z_iload dL_law_519 rfl ?_
    refine z_iconst (v := 3) dL_law_521 (by decide) ?_
    refine z_iadd dL_law_522 ?_
    refine z_sld dL_law_523 (zscI (j := 3) (by omega) (by omega)) ?_
    refine z_V3 (mi' := mX11_cut) dL_law_524 lL_155 nX11_cut kX11_cut (Nat.le_of_ble_eq_true rfl) (Nat.le_of_ble_eq_true rfl) (by omega) (by omega) (hD2.2.1.1 0 (by decide)) rfl rfl ?_
    refine sX11_cut hM2 hL hct hc8 hDi (fun z8 => absurd (z9.symm.trans z8) (by simp)) (fun rn2 rd2 z8 G2 hM3 hF3 => ?_)
    have hD3 := hD2.mod hM3 hF3
    obtain ⟨rfl, rfl⟩ : rn = rn2 ∧ rd = rd2 := by
      have := Option.some.inj (z9.symm.trans z8)
      exact ⟨congrArg Prod.fst this, congrArg Prod.snd this⟩
    have hth : zmref μ rn rd 0 7 = 1 := rfl
    refine z_istore dL_law_527 (by decide) rfl ?_
    refine z_aload_n dL_law_529 rfl ?_
    refine z_V0 (mi' := mX11_thrown) dL_law_530 lL_139 nX11_thrown kX11_thrown (Nat.le_of_ble_eq_true rfl) (Nat.le_of_ble_eq_true rfl) (by omega) (by omega) (hD3.2.1.1 0 (by decide)) rfl rfl ?_
    refine sX11_thrown hD3.2.1 ?_
    rw [hth]
    refine z_iload dL_law_533 rfl ?_
    refine z_icmp_eq (tgt := 540) dL_law_535 (by decide) (fun _ => ?_) (fun c1 => absurd rfl c1)
    refine z_iload dL_law_540 rfl ?_
    refine z_if_ne (tgt := 557) dL_law_542 (by decide) (fun _ => ?_) (fun c2 => absurd c2 (by decide))
    refine z_goto (tgt := 2304) dL_law_557 (by decide) ?_
    refine z_wid (k' := k + 32) (n' := n + 6400) (by omega) (by omega) ?_
    exact z_sub (lv' := [some (.ref (Γ.2.2.2.2 102)), some (.ref (ax 0)), some (.ref (am 0)), some (.ref ou), some (.ref od), some (.int (nI i)), none, none, none]) ⟨rfl, rfl, rfl, rfl, rfl, rfl, trivial⟩ (kk _ _ _ _ _ _ hD3 ((hW.reff rn rd).up (by omega)))
set_option maxHeartbeats 4000000 in
set_option maxRecDepth 10000 in
theorem sLaw_efface {Γ : zG} {G : zH} {Post : zP} {ax : Nat → Nat} {bq m : Nat} {ρ : Nat → zSt} {γ : zSt} {am : Nat → Nat} {μ : zSt} {ou od i k n MC MS : Nat} {Y : Int} (hD : zLd G ax bq m ρ γ am μ ou od) (hW : zWd ρ γ μ m Y) (hY : Y ≤ 1000000) (hi : i + 4 ≤ Γ.2.2.2.2 103) (hlen : Γ.2.2.2.2 103 ≤ 2048) (hk9 : k + 32 ≤ MC) (hn9 : n + 6400 ≤ MS) (kk : ∀ G1 bq1 m1 ρ1 γ1 μ1, zLd G1 ax bq1 m1 ρ1 γ1 am μ1 ou od → zWd ρ1 γ1 μ1 m1 (Y + 1260) → zX Γ mL_law 10 MC MS 2304 [some (.ref (Γ.2.2.2.2 102)), some (.ref (ax 0)), some (.ref (am 0)), some (.ref ou), some (.ref od), some (.int (nI i)), none, none, none] [] G1 (k + 32) (n + 6400) Post) : zX Γ mL_law 10 MC MS 560 [some (.ref (Γ.2.2.2.2 102)), some (.ref (ax 0)), some (.ref (am 0)), some (.ref ou), some (.ref od), some (.int (nI i)), none, none, none] [] G k n Post := by
  obtain ⟨hC, hM, ⟨f0, hO⟩, ⟨f0d, hOd⟩, hSp⟩ := id hD
  obtain ⟨⟨S, F, E, K, mm, fl, hL, hB, hDi⟩, hW2, ⟨nx, ct, hX, hct, hring⟩, hW4, hW5, ⟨nt, hn1, hn2, hn60, htx, hch⟩, ⟨tx, hBt, hTx, h80⟩, hW0⟩ := id hW
  have hc8 := hX.2.2.2
  have hS6 := hL.S6
  have hF12 := hL.F12
  have hK3 := hL.K3
  refine z_aload_n dL_law_560 rfl ?_
  refine z_aload_n dL_law_561 rfl ?_
  refine z_iload dL_law_562 rfl ?_
  refine z_iconst (v := 1) dL_law_564 (by decide) ?_
  refine z_iadd dL_law_565 ?_
  refine z_sld dL_law_566 (zscI (j := 1) (by omega) (by omega)) ?_
  refine z_aload_n dL_law_567 rfl ?_
  refine z_iload dL_law_568 rfl ?_
  refine z_iconst (v := 2) dL_law_570 (by decide) ?_
  refine z_iadd dL_law_571 ?_
  refine z_sld dL_law_572 (zscI (j := 2) (by omega) (by omega)) ?_
  refine z_aload_n dL_law_573 rfl ?_
  refine z_callSW (mi' := mL_efface) (As := [.ref (ax 0), .int _, .int _, .ref ou]) (mc' := 1) (ms' := 6) (z := 4) dL_law_574 lL_156 nL_efface kgL_efface9 (Nat.le_of_ble_eq_true rfl) rfl (Nat.le_of_ble_eq_true rfl) (by omega) (by omega) ?_
  refine sL_efface (hC.1 0 (by decide)) (fun P hP => ?_)
  refine sX10_efface hC hL.n hX (fun z9 s f hs hf e1 e2 G1 hC1 hF1 => hP _ _ ?_) (fun rn rd z9 G1 hC1 hF1 => hP _ _ ?_)
  · have hD1 := hD.cls hC1 hF1
    obtain ⟨f1, hO1⟩ := hD1.2.2.1
    refine Or.inl ⟨_, f1, rfl, hO1, ?_⟩
    refine zX_out hD1 (fun hD2 => ?_)
    have hM2 := hD2.2.1
    refine z_istore dL_law_577 (by decide) rfl ?_
    refine z_aload_n dL_law_579 rfl ?_
    refine z_aload_n dL_law_580 rfl ?_
    refine z_iload dL_law_581 rfl ?_
    refine z_iconst (v := 1) dL_law_583 (by decide) ?_
    refine z_iadd dL_law_584 ?_
    refine z_sld dL_law_585 (zscI (j := 1) (by omega) (by omega)) ?_
    refine z_aload_n dL_law_586 rfl ?_
    refine z_iload dL_law_587 rfl ?_
    refine z_iconst (v := 2) dL_law_589 (by decide) ?_
    refine z_iadd dL_law_590 ?_
    refine z_sld dL_law_591 (zscI (j := 2) (by omega) (by omega)) ?_
    refine z_V2 (mi' := mX11_efface) dL_law_592 lL_158 nX11_efface kX11_efface (Nat.le_of_ble_eq_true rfl) (Nat.le_of_ble_eq_true rfl) (by omega) (by omega) (hD2.2.1.1 0 (by decide)) rfl rfl ?_
    refine sX11_efface hM2 hL hct hc8 (fun z8 s2 f2 k2 hs2 hf2 hk2 ef2 e19 e29 ν hν G2 hM3 hF3 => ?_) (fun rn rd z8 => absurd (z9.symm.trans z8) (by simp))
    obtain rfl : s2 = s := nI_inj (by omega) (by omega) (e19.symm.trans e1)
    obtain rfl : f2 = f := nI_inj (by omega) (by omega) (e29.symm.trans e2)
    have hD3 := hD2.mod hM3 hF3
    have hL2 : zRel (ρ 0) S F E K (ν 1) mm fl := by rw [hν, zmkeep_r (by decide) (by decide)]; exact hL
    have hso := (hD2.seeO hF3).trans (zset_s _ _ _)
    refine z_istore dL_law_595 (by decide) rfl ?_
    refine z_aload_n dL_law_597 rfl ?_
    refine z_V0 (mi' := mX11_thrown) dL_law_598 lL_139 nX11_thrown kX11_thrown (Nat.le_of_ble_eq_true rfl) (Nat.le_of_ble_eq_true rfl) (by omega) (by omega) (hD3.2.1.1 0 (by decide)) rfl rfl ?_
    refine sX11_thrown hD3.2.1 ?_
    unfold zmdrop
    simp only [zu_r (show (0 : Nat) ≠ 1 by decide), zrw_n (show (0 : Nat) ≠ 1 by decide)]
    rw [hν, zmkeep_7]
    refine z_iload dL_law_601 rfl ?_
    refine z_icmp_eq (tgt := 608) dL_law_603 (by decide) (fun _ => ?_) (fun c1 => absurd rfl c1)
    refine z_iload dL_law_608 rfl ?_
    refine z_if_ne (tgt := 625) dL_law_610 (by decide) (fun c2 => absurd rfl c2) (fun _ => ?_)
    refine z_aload_n dL_law_613 rfl ?_
    refine z_iconst (v := 0) dL_law_614 (by decide) ?_
    refine z_lald dL_law_615 hso (vp_in_nI (n := 0) (show 0 < 1 by decide) (by decide)) ?_
    refine z_iload dL_law_616 rfl ?_
    refine z_i2l dL_law_618 ?_
    refine z_lcmp dL_law_619 ?_
    refine z_if_eq (tgt := 625) dL_law_620 (by decide) (fun _ => ?_) (fun c3 => absurd (zlcmp _) c3)
    refine z_goto (tgt := 2304) dL_law_625 (by decide) ?_
    refine z_wid (k' := k + 32) (n' := n + 6400) (by omega) (by omega) ?_
    exact z_sub (lv' := [some (.ref (Γ.2.2.2.2 102)), some (.ref (ax 0)), some (.ref (am 0)), some (.ref ou), some (.ref od), some (.int (nI i)), none, none, none]) ⟨rfl, rfl, rfl, rfl, rfl, rfl, trivial⟩ (kk _ _ _ _ _ _ hD3 (hW.kept hX ((zTie.efface hL2 hB hDi hs hf hk2 ef2).up (by omega)) (by omega) (fun r hr => by unfold zmdrop; simp only [zu_r hr, zrw_n hr]; rw [hν])))
  · have hD1 := hD.cls hC1 hF1
    refine Or.inr ⟨_, 1, rfl, rfl, ?_⟩
    have hD2 := hD1
    have hM2 := hD2.2.1
    refine z_istore dL_law_577 (by decide) rfl ?_
    refine z_aload_n dL_law_579 rfl ?_
    refine z_aload_n dL_law_580 rfl ?_
    refine z_iload dL_law_581 rfl ?_
    refine z_iconst (v := 1) dL_law_583 (by decide) ?_
    refine z_iadd dL_law_584 ?_
    refine z_sld dL_law_585 (zscI (j := 1) (by omega) (by omega)) ?_
    refine z_aload_n dL_law_586 rfl ?_
    refine z_iload dL_law_587 rfl ?_
    refine z_iconst (v := 2) dL_law_589 (by decide) ?_
    refine z_iadd dL_law_590 ?_
    refine z_sld dL_law_591 (zscI (j := 2) (by omega) (by omega)) ?_
    refine z_V2 (mi' := mX11_efface) dL_law_592 lL_158 nX11_efface kX11_efface (Nat.le_of_ble_eq_true rfl) (Nat.le_of_ble_eq_true rfl) (by omega) (by omega) (hD2.2.1.1 0 (by decide)) rfl rfl ?_
    refine sX11_efface hM2 hL hct hc8 (fun z8 => absurd (z9.symm.trans z8) (by simp)) (fun rn2 rd2 z8 G2 hM3 hF3 => ?_)
    have hD3 := hD2.mod hM3 hF3
    obtain ⟨rfl, rfl⟩ : rn = rn2 ∧ rd = rd2 := by
      have := Option.some.inj (z9.symm.trans z8)
      exact ⟨congrArg Prod.fst this, congrArg Prod.snd this⟩
    have hth : zmref μ rn rd 0 7 = 1 := rfl
    refine z_istore dL_law_595 (by decide) rfl ?_
    refine z_aload_n dL_law_597 rfl ?_
    refine z_V0 (mi' := mX11_thrown) dL_law_598 lL_139 nX11_thrown kX11_thrown (Nat.le_of_ble_eq_true rfl) (Nat.le_of_ble_eq_true rfl) (by omega) (by omega) (hD3.2.1.1 0 (by decide)) rfl rfl ?_
    refine sX11_thrown hD3.2.1 ?_
    rw [hth]
    refine z_iload dL_law_601 rfl ?_
    refine z_icmp_eq (tgt := 608) dL_law_603 (by decide) (fun _ => ?_) (fun c1 => absurd rfl c1)
    refine z_iload dL_law_608 rfl ?_
    refine z_if_ne (tgt := 625) dL_law_610 (by decide) (fun _ => ?_) (fun c2 => absurd c2 (by decide))
    refine z_goto (tgt := 2304) dL_law_625 (by decide) ?_
    refine z_wid (k' := k + 32) (n' := n + 6400) (by omega) (by omega) ?_
    exact z_sub (lv' := [some (.ref (Γ.2.2.2.2 102)), some (.ref (ax 0)), some (.ref (am 0)), some (.ref ou), some (.ref od), some (.int (nI i)), none, none, none]) ⟨rfl, rfl, rfl, rfl, rfl, rfl, trivial⟩ (kk _ _ _ _ _ _ hD3 ((hW.reff rn rd).up (by omega)))
set_option maxHeartbeats 4000000 in
set_option maxRecDepth 10000 in
theorem sLaw_sharpen {Γ : zG} {G : zH} {Post : zP} {ax : Nat → Nat} {bq m : Nat} {ρ : Nat → zSt} {γ : zSt} {am : Nat → Nat} {μ : zSt} {ou od i k n MC MS : Nat} {Y : Int} (hD : zLd G ax bq m ρ γ am μ ou od) (hW : zWd ρ γ μ m Y) (hY : Y ≤ 1000000) (hi : i + 4 ≤ Γ.2.2.2.2 103) (hlen : Γ.2.2.2.2 103 ≤ 2048) (hk9 : k + 32 ≤ MC) (hn9 : n + 6400 ≤ MS) (kk : ∀ G1 bq1 m1 ρ1 γ1 μ1, zLd G1 ax bq1 m1 ρ1 γ1 am μ1 ou od → zWd ρ1 γ1 μ1 m1 (Y + 1260) → zX Γ mL_law 10 MC MS 2304 [some (.ref (Γ.2.2.2.2 102)), some (.ref (ax 0)), some (.ref (am 0)), some (.ref ou), some (.ref od), some (.int (nI i)), none, none, none] [] G1 (k + 32) (n + 6400) Post) : zX Γ mL_law 10 MC MS 628 [some (.ref (Γ.2.2.2.2 102)), some (.ref (ax 0)), some (.ref (am 0)), some (.ref ou), some (.ref od), some (.int (nI i)), none, none, none] [] G k n Post := by
  obtain ⟨hC, hM, ⟨f0, hO⟩, ⟨f0d, hOd⟩, hSp⟩ := id hD
  obtain ⟨⟨S, F, E, K, mm, fl, hL, hB, hDi⟩, hW2, ⟨nx, ct, hX, hct, hring⟩, hW4, hW5, ⟨nt, hn1, hn2, hn60, htx, hch⟩, ⟨tx, hBt, hTx, h80⟩, hW0⟩ := id hW
  have hc8 := hX.2.2.2
  have hS6 := hL.S6
  have hF12 := hL.F12
  have hK3 := hL.K3
  refine z_aload_n dL_law_628 rfl ?_
  refine z_aload_n dL_law_629 rfl ?_
  refine z_iload dL_law_630 rfl ?_
  refine z_iconst (v := 1) dL_law_632 (by decide) ?_
  refine z_iadd dL_law_633 ?_
  refine z_sld dL_law_634 (zscI (j := 1) (by omega) (by omega)) ?_
  refine z_aload_n dL_law_635 rfl ?_
  refine z_callSW (mi' := mL_sharpen) (As := [.ref (ax 0), .int _, .ref ou]) (mc' := 1) (ms' := 6) (z := 3) dL_law_636 lL_159 nL_sharpen kgL_sharpen9 (Nat.le_of_ble_eq_true rfl) rfl (Nat.le_of_ble_eq_true rfl) (by omega) (by omega) ?_
  refine sL_sharpen (hC.1 0 (by decide)) (fun P hP => ?_)
  refine sX10_sharpen hC hL.n hX (fun z9 c hc e1 G1 hC1 hF1 => hP _ _ ?_) (fun rn rd z9 G1 hC1 hF1 => hP _ _ ?_)
  · have hD1 := hD.cls hC1 hF1
    obtain ⟨f1, hO1⟩ := hD1.2.2.1
    refine Or.inl ⟨_, f1, rfl, hO1, ?_⟩
    refine zX_out hD1 (fun hD2 => ?_)
    have hM2 := hD2.2.1
    refine z_istore dL_law_639 (by decide) rfl ?_
    refine z_aload_n dL_law_641 rfl ?_
    refine z_aload_n dL_law_642 rfl ?_
    refine z_iload dL_law_643 rfl ?_
    refine z_iconst (v := 1) dL_law_645 (by decide) ?_
    refine z_iadd dL_law_646 ?_
    refine z_sld dL_law_647 (zscI (j := 1) (by omega) (by omega)) ?_
    refine z_V1 (mi' := mX11_sharpen) dL_law_648 lL_162 nX11_sharpen kX11_sharpen (Nat.le_of_ble_eq_true rfl) (Nat.le_of_ble_eq_true rfl) (by omega) (by omega) (hD2.2.1.1 0 (by decide)) rfl rfl ?_
    refine sX11_sharpen hM2 hL hct hc8 (fun z8 c2 hc2 e19 ν hν G2 hM3 hF3 => ?_) (fun rn rd z8 => absurd (z9.symm.trans z8) (by simp))
    obtain rfl : c2 = c := nI_inj (by omega) (by omega) (e19.symm.trans e1)
    have hD3 := hD2.mod hM3 hF3
    have hL2 : zRel (ρ 0) S F E K (ν 1) mm fl := by rw [hν, zmkeep_r (by decide) (by decide)]; exact hL
    have hso := (hD2.seeO hF3).trans (zset_s _ _ _)
    refine z_istore dL_law_651 (by decide) rfl ?_
    refine z_aload_n dL_law_653 rfl ?_
    refine z_V0 (mi' := mX11_thrown) dL_law_654 lL_139 nX11_thrown kX11_thrown (Nat.le_of_ble_eq_true rfl) (Nat.le_of_ble_eq_true rfl) (by omega) (by omega) (hD3.2.1.1 0 (by decide)) rfl rfl ?_
    refine sX11_thrown hD3.2.1 ?_
    rw [zu_r (show (0 : Nat) ≠ 1 by decide), hν, zmkeep_7]
    refine z_iload dL_law_657 rfl ?_
    refine z_icmp_eq (tgt := 664) dL_law_659 (by decide) (fun _ => ?_) (fun c1 => absurd rfl c1)
    refine z_iload dL_law_664 rfl ?_
    refine z_if_ne (tgt := 681) dL_law_666 (by decide) (fun c2 => absurd rfl c2) (fun _ => ?_)
    refine z_aload_n dL_law_669 rfl ?_
    refine z_iconst (v := 0) dL_law_670 (by decide) ?_
    refine z_lald dL_law_671 hso (vp_in_nI (n := 0) (show 0 < 1 by decide) (by decide)) ?_
    refine z_iload dL_law_672 rfl ?_
    refine z_i2l dL_law_674 ?_
    refine z_lcmp dL_law_675 ?_
    refine z_if_eq (tgt := 681) dL_law_676 (by decide) (fun _ => ?_) (fun c3 => absurd (zlcmp _) c3)
    refine z_goto (tgt := 2304) dL_law_681 (by decide) ?_
    refine z_wid (k' := k + 32) (n' := n + 6400) (by omega) (by omega) ?_
    exact z_sub (lv' := [some (.ref (Γ.2.2.2.2 102)), some (.ref (ax 0)), some (.ref (am 0)), some (.ref ou), some (.ref od), some (.int (nI i)), none, none, none]) ⟨rfl, rfl, rfl, rfl, rfl, rfl, trivial⟩ (kk _ _ _ _ _ _ hD3 (hW.kept hX ((zTie.sharpen hL2 hB hDi hc).up (by omega)) (by omega) (fun r hr => by rw [zu_r hr, hν])))
  · have hD1 := hD.cls hC1 hF1
    refine Or.inr ⟨_, 1, rfl, rfl, ?_⟩
    have hD2 := hD1
    have hM2 := hD2.2.1
    refine z_istore dL_law_639 (by decide) rfl ?_
    refine z_aload_n dL_law_641 rfl ?_
    refine z_aload_n dL_law_642 rfl ?_
    refine z_iload dL_law_643 rfl ?_
    refine z_iconst (v := 1) dL_law_645 (by decide) ?_
    refine z_iadd dL_law_646 ?_
    refine z_sld dL_law_647 (zscI (j := 1) (by omega) (by omega)) ?_
    refine z_V1 (mi' := mX11_sharpen) dL_law_648 lL_162 nX11_sharpen kX11_sharpen (Nat.le_of_ble_eq_true rfl) (Nat.le_of_ble_eq_true rfl) (by omega) (by omega) (hD2.2.1.1 0 (by decide)) rfl rfl ?_
    refine sX11_sharpen hM2 hL hct hc8 (fun z8 => absurd (z9.symm.trans z8) (by simp)) (fun rn2 rd2 z8 G2 hM3 hF3 => ?_)
    have hD3 := hD2.mod hM3 hF3
    obtain ⟨rfl, rfl⟩ : rn = rn2 ∧ rd = rd2 := by
      have := Option.some.inj (z9.symm.trans z8)
      exact ⟨congrArg Prod.fst this, congrArg Prod.snd this⟩
    have hth : zmref μ rn rd 0 7 = 1 := rfl
    refine z_istore dL_law_651 (by decide) rfl ?_
    refine z_aload_n dL_law_653 rfl ?_
    refine z_V0 (mi' := mX11_thrown) dL_law_654 lL_139 nX11_thrown kX11_thrown (Nat.le_of_ble_eq_true rfl) (Nat.le_of_ble_eq_true rfl) (by omega) (by omega) (hD3.2.1.1 0 (by decide)) rfl rfl ?_
    refine sX11_thrown hD3.2.1 ?_
    rw [hth]
    refine z_iload dL_law_657 rfl ?_
    refine z_icmp_eq (tgt := 664) dL_law_659 (by decide) (fun _ => ?_) (fun c1 => absurd rfl c1)
    refine z_iload dL_law_664 rfl ?_
    refine z_if_ne (tgt := 681) dL_law_666 (by decide) (fun _ => ?_) (fun c2 => absurd c2 (by decide))
    refine z_goto (tgt := 2304) dL_law_681 (by decide) ?_
    refine z_wid (k' := k + 32) (n' := n + 6400) (by omega) (by omega) ?_
    exact z_sub (lv' := [some (.ref (Γ.2.2.2.2 102)), some (.ref (ax 0)), some (.ref (am 0)), some (.ref ou), some (.ref od), some (.int (nI i)), none, none, none]) ⟨rfl, rfl, rfl, rfl, rfl, rfl, trivial⟩ (kk _ _ _ _ _ _ hD3 ((hW.reff rn rd).up (by omega)))
set_option maxHeartbeats 4000000 in
set_option maxRecDepth 10000 in
theorem sLaw_check {Γ : zG} {G : zH} {Post : zP} {ax : Nat → Nat} {bq m : Nat} {ρ : Nat → zSt} {γ : zSt} {am : Nat → Nat} {μ : zSt} {ou od i k n MC MS : Nat} {Y : Int} (hD : zLd G ax bq m ρ γ am μ ou od) (hW : zWd ρ γ μ m Y) (hY : Y ≤ 1000000) (hi : i + 4 ≤ Γ.2.2.2.2 103) (hlen : Γ.2.2.2.2 103 ≤ 2048) (hk9 : k + 32 ≤ MC) (hn9 : n + 6400 ≤ MS) (kk : ∀ G1 bq1 m1 ρ1 γ1 μ1, zLd G1 ax bq1 m1 ρ1 γ1 am μ1 ou od → zWd ρ1 γ1 μ1 m1 (Y + 1260) → zX Γ mL_law 10 MC MS 2304 [some (.ref (Γ.2.2.2.2 102)), some (.ref (ax 0)), some (.ref (am 0)), some (.ref ou), some (.ref od), some (.int (nI i)), none, none, none] [] G1 (k + 32) (n + 6400) Post) : zX Γ mL_law 10 MC MS 684 [some (.ref (Γ.2.2.2.2 102)), some (.ref (ax 0)), some (.ref (am 0)), some (.ref ou), some (.ref od), some (.int (nI i)), none, none, none] [] G k n Post := by
  obtain ⟨hC, hM, ⟨f0, hO⟩, ⟨f0d, hOd⟩, hSp⟩ := id hD
  obtain ⟨⟨S, F, E, K, mm, fl, hL, hB, hDi⟩, hW2, ⟨nx, ct, hX, hct, hring⟩, hW4, hW5, ⟨nt, hn1, hn2, hn60, htx, hch⟩, ⟨tx, hBt, hTx, h80⟩, hW0⟩ := id hW
  have hc8 := hX.2.2.2
  have hS6 := hL.S6
  have hF12 := hL.F12
  have hK3 := hL.K3
  refine z_aload_n dL_law_684 rfl ?_
  refine z_aload_n dL_law_685 rfl ?_
  refine z_iload dL_law_686 rfl ?_
  refine z_iconst (v := 1) dL_law_688 (by decide) ?_
  refine z_iadd dL_law_689 ?_
  refine z_sld dL_law_690 (zscI (j := 1) (by omega) (by omega)) ?_
  refine z_aload_n dL_law_691 rfl ?_
  refine z_callSW (mi' := mL_check) (As := [.ref (ax 0), .int _, .ref ou]) (mc' := 1) (ms' := 6) (z := 3) dL_law_692 lL_163 nL_check kgL_check9 (Nat.le_of_ble_eq_true rfl) rfl (Nat.le_of_ble_eq_true rfl) (by omega) (by omega) ?_
  refine sL_check (hC.1 0 (by decide)) (fun P hP => ?_)
  refine sX10_check hC hL.n hX (fun z9 s hs e1 G1 hC1 hF1 => hP _ _ ?_) (fun rn rd z9 G1 hC1 hF1 => hP _ _ ?_)
  · have hD1 := hD.cls hC1 hF1
    obtain ⟨f1, hO1⟩ := hD1.2.2.1
    refine Or.inl ⟨_, f1, rfl, hO1, ?_⟩
    refine zX_out hD1 (fun hD2 => ?_)
    have hM2 := hD2.2.1
    refine z_istore dL_law_695 (by decide) rfl ?_
    refine z_aload_n dL_law_697 rfl ?_
    refine z_aload_n dL_law_698 rfl ?_
    refine z_iload dL_law_699 rfl ?_
    refine z_iconst (v := 1) dL_law_701 (by decide) ?_
    refine z_iadd dL_law_702 ?_
    refine z_sld dL_law_703 (zscI (j := 1) (by omega) (by omega)) ?_
    refine z_V1 (mi' := mX11_check) dL_law_704 lL_165 nX11_check kX11_check (Nat.le_of_ble_eq_true rfl) (Nat.le_of_ble_eq_true rfl) (by omega) (by omega) (hD2.2.1.1 0 (by decide)) rfl rfl ?_
    refine sX11_check hM2 hL hct hc8 (fun z8 s2 hs2 e19 ν hν G2 hM3 hF3 => ?_) (fun rn rd z8 => absurd (z9.symm.trans z8) (by simp))
    obtain rfl : s2 = s := nI_inj (by omega) (by omega) (e19.symm.trans e1)
    have hD3 := hD2.mod hM3 hF3
    have hL2 : zRel (ρ 0) S F E K (ν 1) mm fl := by rw [hν, zmkeep_r (by decide) (by decide)]; exact hL
    have hso := (hD2.seeO hF3).trans (zset_s _ _ _)
    refine z_istore dL_law_707 (by decide) rfl ?_
    refine z_aload_n dL_law_709 rfl ?_
    refine z_V0 (mi' := mX11_thrown) dL_law_710 lL_139 nX11_thrown kX11_thrown (Nat.le_of_ble_eq_true rfl) (Nat.le_of_ble_eq_true rfl) (by omega) (by omega) (hD3.2.1.1 0 (by decide)) rfl rfl ?_
    refine sX11_thrown hD3.2.1 ?_
    rw [zu_r (show (0 : Nat) ≠ 1 by decide), hν, zmkeep_7]
    refine z_iload dL_law_713 rfl ?_
    refine z_icmp_eq (tgt := 720) dL_law_715 (by decide) (fun _ => ?_) (fun c1 => absurd rfl c1)
    refine z_iload dL_law_720 rfl ?_
    refine z_if_ne (tgt := 737) dL_law_722 (by decide) (fun c2 => absurd rfl c2) (fun _ => ?_)
    refine z_aload_n dL_law_725 rfl ?_
    refine z_iconst (v := 0) dL_law_726 (by decide) ?_
    refine z_lald dL_law_727 hso (vp_in_nI (n := 0) (show 0 < 1 by decide) (by decide)) ?_
    refine z_iload dL_law_728 rfl ?_
    refine z_i2l dL_law_730 ?_
    refine z_lcmp dL_law_731 ?_
    refine z_if_eq (tgt := 737) dL_law_732 (by decide) (fun _ => ?_) (fun c3 => absurd (zlcmp _) c3)
    refine z_goto (tgt := 2304) dL_law_737 (by decide) ?_
    refine z_wid (k' := k + 32) (n' := n + 6400) (by omega) (by omega) ?_
    exact z_sub (lv' := [some (.ref (Γ.2.2.2.2 102)), some (.ref (ax 0)), some (.ref (am 0)), some (.ref ou), some (.ref od), some (.int (nI i)), none, none, none]) ⟨rfl, rfl, rfl, rfl, rfl, rfl, trivial⟩ (kk _ _ _ _ _ _ hD3 (hW.kept hX ((zTie.check hL2 hB hDi hs).up (by omega)) (by omega) (fun r hr => by rw [zu_r hr, hν])))
  · have hD1 := hD.cls hC1 hF1
    refine Or.inr ⟨_, 1, rfl, rfl, ?_⟩
    have hD2 := hD1
    have hM2 := hD2.2.1
    refine z_istore dL_law_695 (by decide) rfl ?_
    refine z_aload_n dL_law_697 rfl ?_
    refine z_aload_n dL_law_698 rfl ?_
    refine z_iload dL_law_699 rfl ?_
    refine z_iconst (v := 1) dL_law_701 (by decide) ?_
    refine z_iadd dL_law_702 ?_
    refine z_sld dL_law_703 (zscI (j := 1) (by omega) (by omega)) ?_
    refine z_V1 (mi' := mX11_check) dL_law_704 lL_165 nX11_check kX11_check (Nat.le_of_ble_eq_true rfl) (Nat.le_of_ble_eq_true rfl) (by omega) (by omega) (hD2.2.1.1 0 (by decide)) rfl rfl ?_
    refine sX11_check hM2 hL hct hc8 (fun z8 => absurd (z9.symm.trans z8) (by simp)) (fun rn2 rd2 z8 G2 hM3 hF3 => ?_)
    have hD3 := hD2.mod hM3 hF3
    obtain ⟨rfl, rfl⟩ : rn = rn2 ∧ rd = rd2 := by
      have := Option.some.inj (z9.symm.trans z8)
      exact ⟨congrArg Prod.fst this, congrArg Prod.snd this⟩
    have hth : zmref μ rn rd 0 7 = 1 := rfl
    refine z_istore dL_law_707 (by decide) rfl ?_
    refine z_aload_n dL_law_709 rfl ?_
    refine z_V0 (mi' := mX11_thrown) dL_law_710 lL_139 nX11_thrown kX11_thrown (Nat.le_of_ble_eq_true rfl) (Nat.le_of_ble_eq_true rfl) (by omega) (by omega) (hD3.2.1.1 0 (by decide)) rfl rfl ?_
    refine sX11_thrown hD3.2.1 ?_
    rw [hth]
    refine z_iload dL_law_713 rfl ?_
    refine z_icmp_eq (tgt := 720) dL_law_715 (by decide) (fun _ => ?_) (fun c1 => absurd rfl c1)
    refine z_iload dL_law_720 rfl ?_
    refine z_if_ne (tgt := 737) dL_law_722 (by decide) (fun _ => ?_) (fun c2 => absurd c2 (by decide))
    refine z_goto (tgt := 2304) dL_law_737 (by decide) ?_
    refine z_wid (k' := k + 32) (n' := n + 6400) (by omega) (by omega) ?_
    exact z_sub (lv' := [some (.ref (Γ.2.2.2.2 102)), some (.ref (ax 0)), some (.ref (am 0)), some (.ref ou), some (.ref od), some (.int (nI i)), none, none, none]) ⟨rfl, rfl, rfl, rfl, rfl, rfl, trivial⟩ (kk _ _ _ _ _ _ hD3 ((hW.reff rn rd).up (by omega)))
set_option maxHeartbeats 4000000 in
set_option maxRecDepth 10000 in
theorem sLaw_witness {Γ : zG} {G : zH} {Post : zP} {ax : Nat → Nat} {bq m : Nat} {ρ : Nat → zSt} {γ : zSt} {am : Nat → Nat} {μ : zSt} {ou od i k n MC MS : Nat} {Y : Int} (hD : zLd G ax bq m ρ γ am μ ou od) (hW : zWd ρ γ μ m Y) (hY : Y ≤ 1000000) (hi : i + 4 ≤ Γ.2.2.2.2 103) (hlen : Γ.2.2.2.2 103 ≤ 2048) (hk9 : k + 32 ≤ MC) (hn9 : n + 6400 ≤ MS) (kk : ∀ G1 bq1 m1 ρ1 γ1 μ1, zLd G1 ax bq1 m1 ρ1 γ1 am μ1 ou od → zWd ρ1 γ1 μ1 m1 (Y + 1260) → zX Γ mL_law 10 MC MS 2304 [some (.ref (Γ.2.2.2.2 102)), some (.ref (ax 0)), some (.ref (am 0)), some (.ref ou), some (.ref od), some (.int (nI i)), none, none, none] [] G1 (k + 32) (n + 6400) Post) : zX Γ mL_law 10 MC MS 740 [some (.ref (Γ.2.2.2.2 102)), some (.ref (ax 0)), some (.ref (am 0)), some (.ref ou), some (.ref od), some (.int (nI i)), none, none, none] [] G k n Post := by
  obtain ⟨hC, hM, ⟨f0, hO⟩, ⟨f0d, hOd⟩, hSp⟩ := id hD
  obtain ⟨⟨S, F, E, K, mm, fl, hL, hB, hDi⟩, hW2, ⟨nx, ct, hX, hct, hring⟩, hW4, hW5, ⟨nt, hn1, hn2, hn60, htx, hch⟩, ⟨tx, hBt, hTx, h80⟩, hW0⟩ := id hW
  have hc8 := hX.2.2.2
  have hS6 := hL.S6
  have hF12 := hL.F12
  have hK3 := hL.K3
  refine z_aload_n dL_law_740 rfl ?_
  refine z_aload_n dL_law_741 rfl ?_
  refine z_iload dL_law_742 rfl ?_
  refine z_iconst (v := 1) dL_law_744 (by decide) ?_
  refine z_iadd dL_law_745 ?_
  refine z_sld dL_law_746 (zscI (j := 1) (by omega) (by omega)) ?_
  refine z_aload_n dL_law_747 rfl ?_
  refine z_iload dL_law_748 rfl ?_
  refine z_iconst (v := 2) dL_law_750 (by decide) ?_
  refine z_iadd dL_law_751 ?_
  refine z_sld dL_law_752 (zscI (j := 2) (by omega) (by omega)) ?_
  refine z_aload_n dL_law_753 rfl ?_
  refine z_callSW (mi' := mL_witness) (As := [.ref (ax 0), .int _, .int _, .ref ou]) (mc' := 1) (ms' := 6) (z := 4) dL_law_754 lL_166 nL_witness kgL_witness9 (Nat.le_of_ble_eq_true rfl) rfl (Nat.le_of_ble_eq_true rfl) (by omega) (by omega) ?_
  refine sL_witness (hC.1 0 (by decide)) (fun P hP => ?_)
  refine sX10_witness hC hL.n hX (fun z9 f hf e1 G1 hC1 hF1 => hP _ _ ?_) (fun rn rd z9 G1 hC1 hF1 => hP _ _ ?_)
  · have hD1 := hD.cls hC1 hF1
    obtain ⟨f1, hO1⟩ := hD1.2.2.1
    refine Or.inl ⟨_, f1, rfl, hO1, ?_⟩
    refine zX_out hD1 (fun hD2 => ?_)
    have hM2 := hD2.2.1
    refine z_istore dL_law_757 (by decide) rfl ?_
    refine z_aload_n dL_law_759 rfl ?_
    refine z_aload_n dL_law_760 rfl ?_
    refine z_iload dL_law_761 rfl ?_
    refine z_iconst (v := 1) dL_law_763 (by decide) ?_
    refine z_iadd dL_law_764 ?_
    refine z_sld dL_law_765 (zscI (j := 1) (by omega) (by omega)) ?_
    refine z_aload_n dL_law_766 rfl ?_
    refine z_iload dL_law_767 rfl ?_
    refine z_iconst (v := 2) dL_law_769 (by decide) ?_
    refine z_iadd dL_law_770 ?_
    refine z_sld dL_law_771 (zscI (j := 2) (by omega) (by omega)) ?_
    refine z_V2 (mi' := mX11_witness) dL_law_772 lL_168 nX11_witness kX11_witness (Nat.le_of_ble_eq_true rfl) (Nat.le_of_ble_eq_true rfl) (by omega) (by omega) (hD2.2.1.1 0 (by decide)) rfl rfl ?_
    refine sX11_witness hM2 hL hct hc8 (fun z8 f2 hf2 e19 ν hν G2 hM3 hF3 => ?_) (fun rn rd z8 => absurd (z9.symm.trans z8) (by simp))
    obtain rfl : f2 = f := nI_inj (by omega) (by omega) (e19.symm.trans e1)
    have hD3 := hD2.mod hM3 hF3
    have hL2 : zRel (ρ 0) S F E K (ν 1) mm fl := by rw [hν, zmkeep_r (by decide) (by decide)]; exact hL
    have hso := (hD2.seeO hF3).trans (zset_s _ _ _)
    refine z_istore dL_law_775 (by decide) rfl ?_
    refine z_aload_n dL_law_777 rfl ?_
    refine z_V0 (mi' := mX11_thrown) dL_law_778 lL_139 nX11_thrown kX11_thrown (Nat.le_of_ble_eq_true rfl) (Nat.le_of_ble_eq_true rfl) (by omega) (by omega) (hD3.2.1.1 0 (by decide)) rfl rfl ?_
    refine sX11_thrown hD3.2.1 ?_
    rw [zu_r (show (0 : Nat) ≠ 1 by decide), hν, zmkeep_7]
    refine z_iload dL_law_781 rfl ?_
    refine z_icmp_eq (tgt := 788) dL_law_783 (by decide) (fun _ => ?_) (fun c1 => absurd rfl c1)
    refine z_iload dL_law_788 rfl ?_
    refine z_if_ne (tgt := 805) dL_law_790 (by decide) (fun c2 => absurd rfl c2) (fun _ => ?_)
    refine z_aload_n dL_law_793 rfl ?_
    refine z_iconst (v := 0) dL_law_794 (by decide) ?_
    refine z_lald dL_law_795 hso (vp_in_nI (n := 0) (show 0 < 1 by decide) (by decide)) ?_
    refine z_iload dL_law_796 rfl ?_
    refine z_i2l dL_law_798 ?_
    refine z_lcmp dL_law_799 ?_
    refine z_if_eq (tgt := 805) dL_law_800 (by decide) (fun _ => ?_) (fun c3 => absurd (zlcmp _) c3)
    refine z_goto (tgt := 2304) dL_law_805 (by decide) ?_
    refine z_wid (k' := k + 32) (n' := n + 6400) (by omega) (by omega) ?_
    exact z_sub (lv' := [some (.ref (Γ.2.2.2.2 102)), some (.ref (ax 0)), some (.ref (am 0)), some (.ref ou), some (.ref od), some (.int (nI i)), none, none, none]) ⟨rfl, rfl, rfl, rfl, rfl, rfl, trivial⟩ (kk _ _ _ _ _ _ hD3 (hW.kept hX ((zTie.witness hL2 hB hDi hf (by rw [← e1]; exact z9)).up (by omega)) (by omega) (fun r hr => by rw [zu_r hr, hν])))
  · have hD1 := hD.cls hC1 hF1
    refine Or.inr ⟨_, 1, rfl, rfl, ?_⟩
    have hD2 := hD1
    have hM2 := hD2.2.1
    refine z_istore dL_law_757 (by decide) rfl ?_
    refine z_aload_n dL_law_759 rfl ?_
    refine z_aload_n dL_law_760 rfl ?_
    refine z_iload dL_law_761 rfl ?_
    refine z_iconst (v := 1) dL_law_763 (by decide) ?_
    refine z_iadd dL_law_764 ?_
    refine z_sld dL_law_765 (zscI (j := 1) (by omega) (by omega)) ?_
    refine z_aload_n dL_law_766 rfl ?_
    refine z_iload dL_law_767 rfl ?_
    refine z_iconst (v := 2) dL_law_769 (by decide) ?_
    refine z_iadd dL_law_770 ?_
    refine z_sld dL_law_771 (zscI (j := 2) (by omega) (by omega)) ?_
    refine z_V2 (mi' := mX11_witness) dL_law_772 lL_168 nX11_witness kX11_witness (Nat.le_of_ble_eq_true rfl) (Nat.le_of_ble_eq_true rfl) (by omega) (by omega) (hD2.2.1.1 0 (by decide)) rfl rfl ?_
    refine sX11_witness hM2 hL hct hc8 (fun z8 => absurd (z9.symm.trans z8) (by simp)) (fun rn2 rd2 z8 G2 hM3 hF3 => ?_)
    have hD3 := hD2.mod hM3 hF3
    obtain ⟨rfl, rfl⟩ : rn = rn2 ∧ rd = rd2 := by
      have := Option.some.inj (z9.symm.trans z8)
      exact ⟨congrArg Prod.fst this, congrArg Prod.snd this⟩
    have hth : zmref μ rn rd 0 7 = 1 := rfl
    refine z_istore dL_law_775 (by decide) rfl ?_
    refine z_aload_n dL_law_777 rfl ?_
    refine z_V0 (mi' := mX11_thrown) dL_law_778 lL_139 nX11_thrown kX11_thrown (Nat.le_of_ble_eq_true rfl) (Nat.le_of_ble_eq_true rfl) (by omega) (by omega) (hD3.2.1.1 0 (by decide)) rfl rfl ?_
    refine sX11_thrown hD3.2.1 ?_
    rw [hth]
    refine z_iload dL_law_781 rfl ?_
    refine z_icmp_eq (tgt := 788) dL_law_783 (by decide) (fun _ => ?_) (fun c1 => absurd rfl c1)
    refine z_iload dL_law_788 rfl ?_
    refine z_if_ne (tgt := 805) dL_law_790 (by decide) (fun _ => ?_) (fun c2 => absurd c2 (by decide))
    refine z_goto (tgt := 2304) dL_law_805 (by decide) ?_
    refine z_wid (k' := k + 32) (n' := n + 6400) (by omega) (by omega) ?_
    exact z_sub (lv' := [some (.ref (Γ.2.2.2.2 102)), some (.ref (ax 0)), some (.ref (am 0)), some (.ref ou), some (.ref od), some (.int (nI i)), none, none, none]) ⟨rfl, rfl, rfl, rfl, rfl, rfl, trivial⟩ (kk _ _ _ _ _ _ hD3 ((hW.reff rn rd).up (by omega)))
set_option maxHeartbeats 4000000 in
set_option maxRecDepth 10000 in
theorem sLaw_years {Γ : zG} {G : zH} {Post : zP} {ax : Nat → Nat} {bq m : Nat} {ρ : Nat → zSt} {γ : zSt} {am : Nat → Nat} {μ : zSt} {ou od i k n MC MS : Nat} {Y : Int} (hD : zLd G ax bq m ρ γ am μ ou od) (hW : zWd ρ γ μ m Y) (hY : Y ≤ 1000000) (hi : i + 4 ≤ Γ.2.2.2.2 103) (hlen : Γ.2.2.2.2 103 ≤ 2048) (hk9 : k + 32 ≤ MC) (hn9 : n + 6400 ≤ MS) (kk : ∀ G1 bq1 m1 ρ1 γ1 μ1, zLd G1 ax bq1 m1 ρ1 γ1 am μ1 ou od → zWd ρ1 γ1 μ1 m1 (Y + 1260) → zX Γ mL_law 10 MC MS 2304 [some (.ref (Γ.2.2.2.2 102)), some (.ref (ax 0)), some (.ref (am 0)), some (.ref ou), some (.ref od), some (.int (nI i)), none, none, none] [] G1 (k + 32) (n + 6400) Post) : zX Γ mL_law 10 MC MS 808 [some (.ref (Γ.2.2.2.2 102)), some (.ref (ax 0)), some (.ref (am 0)), some (.ref ou), some (.ref od), some (.int (nI i)), none, none, none] [] G k n Post := by
  obtain ⟨hC, hM, ⟨f0, hO⟩, ⟨f0d, hOd⟩, hSp⟩ := id hD
  obtain ⟨⟨S, F, E, K, mm, fl, hL, hB, hDi⟩, hW2, ⟨nx, ct, hX, hct, hring⟩, hW4, hW5, ⟨nt, hn1, hn2, hn60, htx, hch⟩, ⟨tx, hBt, hTx, h80⟩, hW0⟩ := id hW
  have hc8 := hX.2.2.2
  have hS6 := hL.S6
  have hF12 := hL.F12
  have hK3 := hL.K3
  refine z_aload_n dL_law_808 rfl ?_
  refine z_aload_n dL_law_809 rfl ?_
  refine z_iload dL_law_810 rfl ?_
  refine z_iconst (v := 1) dL_law_812 (by decide) ?_
  refine z_iadd dL_law_813 ?_
  refine z_sld dL_law_814 (zscI (j := 1) (by omega) (by omega)) ?_
  refine z_aload_n dL_law_815 rfl ?_
  refine z_callSW (mi' := mL_years) (As := [.ref (ax 0), .int _, .ref ou]) (mc' := 1) (ms' := 6) (z := 3) dL_law_816 lL_169 nL_years kgL_years9 (Nat.le_of_ble_eq_true rfl) rfl (Nat.le_of_ble_eq_true rfl) (by omega) (by omega) ?_
  refine sL_years (hC.1 0 (by decide)) (fun P hP => ?_)
  refine sX10_years hC hL.n hX (fun z9 j hj1 hj60 e1 G1 hC1 hF1 => hP _ _ ?_) (fun rn rd z9 G1 hC1 hF1 => hP _ _ ?_)
  · have hD1 := hD.cls hC1 hF1
    obtain ⟨f1, hO1⟩ := hD1.2.2.1
    refine Or.inl ⟨_, f1, rfl, hO1, ?_⟩
    refine zX_out hD1 (fun hD2 => ?_)
    have hM2 := hD2.2.1
    refine z_istore dL_law_819 (by decide) rfl ?_
    refine z_aload_n dL_law_821 rfl ?_
    refine z_aload_n dL_law_822 rfl ?_
    refine z_iload dL_law_823 rfl ?_
    refine z_iconst (v := 1) dL_law_825 (by decide) ?_
    refine z_iadd dL_law_826 ?_
    refine z_sld dL_law_827 (zscI (j := 1) (by omega) (by omega)) ?_
    refine z_V1 (mi' := mX11_years) dL_law_828 lL_171 nX11_years kX11_years (Nat.le_of_ble_eq_true rfl) (Nat.le_of_ble_eq_true rfl) (by omega) (by omega) (hD2.2.1.1 0 (by decide)) rfl rfl ?_
    refine sX11_years hM2 hL hct hc8 (fun z8 j2 hj12 hj602 e19 ν0 hν G2 ν hM3 hF3 hr9 hL9 => ?_) (fun rn rd z8 => absurd (z9.symm.trans z8) (by simp))
    obtain rfl : j2 = j := nI_inj (by omega) (by omega) (e19.symm.trans e1)
    have hD3 := hD2.mod hM3 hF3
    have hso := (hD2.seeO hF3).trans (zset_s _ _ _)
    refine z_istore dL_law_831 (by decide) rfl ?_
    refine z_aload_n dL_law_833 rfl ?_
    refine z_V0 (mi' := mX11_thrown) dL_law_834 lL_139 nX11_thrown kX11_thrown (Nat.le_of_ble_eq_true rfl) (Nat.le_of_ble_eq_true rfl) (by omega) (by omega) (hD3.2.1.1 0 (by decide)) rfl rfl ?_
    refine sX11_thrown hD3.2.1 ?_
    rw [hr9 0 (by decide), hν, zmkeep_7]
    refine z_iload dL_law_837 rfl ?_
    refine z_icmp_eq (tgt := 844) dL_law_839 (by decide) (fun _ => ?_) (fun c1 => absurd rfl c1)
    refine z_iload dL_law_844 rfl ?_
    refine z_if_ne (tgt := 861) dL_law_846 (by decide) (fun c2 => absurd rfl c2) (fun _ => ?_)
    refine z_aload_n dL_law_849 rfl ?_
    refine z_iconst (v := 0) dL_law_850 (by decide) ?_
    refine z_lald dL_law_851 hso (vp_in_nI (n := 0) (show 0 < 1 by decide) (by decide)) ?_
    refine z_iload dL_law_852 rfl ?_
    refine z_i2l dL_law_854 ?_
    refine z_lcmp dL_law_855 ?_
    refine z_if_eq (tgt := 861) dL_law_856 (by decide) (fun _ => ?_) (fun c3 => absurd (zlcmp _) c3)
    refine z_goto (tgt := 2304) dL_law_861 (by decide) ?_
    refine z_wid (k' := k + 32) (n' := n + 6400) (by omega) (by omega) ?_
    exact z_sub (lv' := [some (.ref (Γ.2.2.2.2 102)), some (.ref (ax 0)), some (.ref (am 0)), some (.ref ou), some (.ref od), some (.int (nI i)), none, none, none]) ⟨rfl, rfl, rfl, rfl, rfl, rfl, trivial⟩ (kk _ _ _ _ _ _ hD3 (hW.kept hX (((zTie.years hB hDi hj60 (by omega) hL9)).up (by omega)) (by omega) (fun r hr => by rw [hr9 r hr, hν])))
  · have hD1 := hD.cls hC1 hF1
    refine Or.inr ⟨_, 1, rfl, rfl, ?_⟩
    have hD2 := hD1
    have hM2 := hD2.2.1
    refine z_istore dL_law_819 (by decide) rfl ?_
    refine z_aload_n dL_law_821 rfl ?_
    refine z_aload_n dL_law_822 rfl ?_
    refine z_iload dL_law_823 rfl ?_
    refine z_iconst (v := 1) dL_law_825 (by decide) ?_
    refine z_iadd dL_law_826 ?_
    refine z_sld dL_law_827 (zscI (j := 1) (by omega) (by omega)) ?_
    refine z_V1 (mi' := mX11_years) dL_law_828 lL_171 nX11_years kX11_years (Nat.le_of_ble_eq_true rfl) (Nat.le_of_ble_eq_true rfl) (by omega) (by omega) (hD2.2.1.1 0 (by decide)) rfl rfl ?_
    refine sX11_years hM2 hL hct hc8 (fun z8 => absurd (z9.symm.trans z8) (by simp)) (fun rn2 rd2 z8 G2 hM3 hF3 => ?_)
    have hD3 := hD2.mod hM3 hF3
    obtain ⟨rfl, rfl⟩ : rn = rn2 ∧ rd = rd2 := by
      have := Option.some.inj (z9.symm.trans z8)
      exact ⟨congrArg Prod.fst this, congrArg Prod.snd this⟩
    have hth : zmref μ rn rd 0 7 = 1 := rfl
    refine z_istore dL_law_831 (by decide) rfl ?_
    refine z_aload_n dL_law_833 rfl ?_
    refine z_V0 (mi' := mX11_thrown) dL_law_834 lL_139 nX11_thrown kX11_thrown (Nat.le_of_ble_eq_true rfl) (Nat.le_of_ble_eq_true rfl) (by omega) (by omega) (hD3.2.1.1 0 (by decide)) rfl rfl ?_
    refine sX11_thrown hD3.2.1 ?_
    rw [hth]
    refine z_iload dL_law_837 rfl ?_
    refine z_icmp_eq (tgt := 844) dL_law_839 (by decide) (fun _ => ?_) (fun c1 => absurd rfl c1)
    refine z_iload dL_law_844 rfl ?_
    refine z_if_ne (tgt := 861) dL_law_846 (by decide) (fun _ => ?_) (fun c2 => absurd c2 (by decide))
    refine z_goto (tgt := 2304) dL_law_861 (by decide) ?_
    refine z_wid (k' := k + 32) (n' := n + 6400) (by omega) (by omega) ?_
    exact z_sub (lv' := [some (.ref (Γ.2.2.2.2 102)), some (.ref (ax 0)), some (.ref (am 0)), some (.ref ou), some (.ref od), some (.int (nI i)), none, none, none]) ⟨rfl, rfl, rfl, rfl, rfl, rfl, trivial⟩ (kk _ _ _ _ _ _ hD3 ((hW.reff rn rd).up (by omega)))
