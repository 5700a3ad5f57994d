theorem z_slen {Γ : zG} {mi : zMI} {d mc ms pc k n : Nat} {lv : List (Option Value)} {st : List Value} {G : zH} {Post : zP} (hd : decode mi.2.1 pc = .ok (.arraylength, 1)) (kk : zX Γ mi d mc ms (pc + 1) lv (.int (nI (Γ.2.2.2.2 103)) :: st) G k n Post) : zX Γ mi d mc ms pc lv (.ref (Γ.2.2.2.2 102) :: st) G k n Post := by
  intro p e R s m args below meth c H locs ls C hH hS hl
  have hkh := C.2.2.2.2.2.2.2.2.2.2.1
  exact va_slen C.1 C.2.1 hkh.2.2.2.2.2.2.2.2.2.2 (zX_lt hkh.2.2.2.2.2.2.2.2.2.2) hkh.2.2.2.2.2.2.2.2.2.1 hS hd (kk p e R s m args below meth c H locs ls C hH hS hl)
theorem zi4 {i L : Nat} (hL : L ≤ 2048) (hi : i < 2147483648) (h : ¬ nI L - 4 < nI i) : i + 4 ≤ L := by
  have h1 := Int32.le_iff_toInt_le.mp (Int32.not_lt.mp h)
  have e1 := nI_toInt (show L < 2147483648 by omega)
  have e4 : (4 : Int32).toInt = 4 := by decide
  rw [zsubI (by omega), e1, e4, nI_toInt hi] at h1
  omega
set_option maxHeartbeats 4000000 in
set_option maxRecDepth 10000 in
theorem sLaw {Γ : zG} {Post : zP} (hlen : Γ.2.2.2.2 103 ≤ 2048) (hP : ∀ G, Post (.inl (some (.int 1))) G) : zX Γ mL_law 10 603072 7211114 0 (zlv0 9 [.ref (Γ.2.2.2.2 102)]) [] (fun _ => none) 0 0 Post := by
  have key : ∀ (r j : Nat) (G : zH) (ax : Nat → Nat) (bq m : Nat) (ρ : Nat → zSt) (γ : zSt) (am : Nat → Nat) (μ : zSt) (ou od : Nat) (k n : Nat), j ≤ 512 → 512 < j + r → k ≤ 300 + 32 * j → n ≤ 7000 + 6400 * j → zLd G ax bq m ρ γ am μ ou od → zWd ρ γ μ m (100 + 1260 * (j : Int)) → zX Γ mL_law 10 603072 7211114 28 [some (.ref (Γ.2.2.2.2 102)), some (.ref (ax 0)), some (.ref (am 0)), some (.ref ou), some (.ref od), some (.int (nI (4 * j))), none, none, none] [] G k n Post := by
    intro r
    induction r with
    | zero => intro j G ax bq m ρ γ am μ ou od k n h1 h2; omega
    | succ r ih =>
      intro j G ax bq m ρ γ am μ ou od k n h1 h2 hk hn hD hW
      refine z_iload dL_law_28 rfl ?_
      refine z_aload_n dL_law_30 rfl ?_
      refine z_slen dL_law_31 ?_
      refine z_iconst (v := 4) dL_law_32 (by decide) ?_
      refine z_isub dL_law_33 ?_
      refine z_icmp_gt (tgt := 2310) dL_law_34 (by decide) (fun _ => ?_) (fun c1 => ?_)
      · refine z_iconst (v := 1) dL_law_2310 (by decide) ?_
        exact z_ireturn (mi := mL_law) dL_law_2311 rfl rfl (by omega) (by omega) (hP _)
      have hi : 4 * j + 4 ≤ Γ.2.2.2.2 103 := zi4 hlen (by omega) c1
      have hj9 : j < 512 := by omega
      have tl : ∀ G1 bq1 m1 ρ1 γ1 μ1, zLd G1 ax bq1 m1 ρ1 γ1 am μ1 ou od → zWd ρ1 γ1 μ1 m1 (100 + 1260 * (j : Int) + 1260) → zX Γ mL_law 10 603072 7211114 2304 [some (.ref (Γ.2.2.2.2 102)), some (.ref (ax 0)), some (.ref (am 0)), some (.ref ou), some (.ref od), some (.int (nI (4 * j))), none, none, none] [] G1 (k + 32) (n + 6400) Post := by
        intro G1 bq1 m1 ρ1 γ1 μ1 hD1 hW1
        refine z_iinc (v := nI (4 * (j + 1))) dL_law_2304 rfl (by rw [show Int32.ofInt 4 = nI 4 from rfl, nI_add]; rfl) (by decide) rfl ?_
        refine z_goto (tgt := 28) dL_law_2307 (by decide) ?_
        exact ih (j + 1) G1 ax bq1 m1 ρ1 γ1 am μ1 ou od _ _ (by omega) (by omega) (by omega) (by omega) hD1 (hW1.up (by omega))
      refine z_aload_n dL_law_37 rfl ?_
      refine z_iload dL_law_38 rfl ?_
      refine z_sld dL_law_40 (vp_in_nI (show 4 * j < Γ.2.2.2.2 103 by omega) (by omega)) ?_
      refine z_bipush (v := 63) dL_law_41 (by decide) ?_
      refine z_iand dL_law_43 ?_
      generalize nI (Γ.2.2.2.2 (104 + (nI (4 * j)).toNatClampNeg)) &&& 63 = x
      by_cases t0 : x = 0
      · rw [t0]
        refine z_tableIn (tgt := 208) dL_law_44 (by decide) (by decide) rfl (by decide) ?_
        exact sLaw_stone hD hW (by omega) hi hlen (by omega) (by omega) tl
      by_cases t1 : x = 1
      · rw [t1]
        refine z_tableIn (tgt := 288) dL_law_44 (by decide) (by decide) rfl (by decide) ?_
        exact sLaw_flood hD hW (by omega) hi hlen (by omega) (by omega) tl
      by_cases t2 : x = 2
      · rw [t2]
        refine z_tableIn (tgt := 368) dL_law_44 (by decide) (by decide) rfl (by decide) ?_
        exact sLaw_epoch hD hW (by omega) hi hlen (by omega) (by omega) tl
      by_cases t3 : x = 3
      · rw [t3]
        refine z_tableIn (tgt := 436) dL_law_44 (by decide) (by decide) rfl (by decide) ?_
        exact sLaw_chisel hD hW (by omega) hi hlen (by omega) (by omega) tl
      by_cases t4 : x = 4
      · rw [t4]
        refine z_tableIn (tgt := 480) dL_law_44 (by decide) (by decide) rfl (by decide) ?_
        exact sLaw_cut hD hW (by omega) hi hlen (by omega) (by omega) tl
      by_cases t5 : x = 5
      · rw [t5]
        refine z_tableIn (tgt := 560) dL_law_44 (by decide) (by decide) rfl (by decide) ?_
        exact sLaw_efface hD hW (by omega) hi hlen (by omega) (by omega) tl
      by_cases t6 : x = 6
      · rw [t6]
        refine z_tableIn (tgt := 628) dL_law_44 (by decide) (by decide) rfl (by decide) ?_
        exact sLaw_sharpen hD hW (by omega) hi hlen (by omega) (by omega) tl
      by_cases t7 : x = 7
      · rw [t7]
        refine z_tableIn (tgt := 684) dL_law_44 (by decide) (by decide) rfl (by decide) ?_
        exact sLaw_check hD hW (by omega) hi hlen (by omega) (by omega) tl
      by_cases t8 : x = 8
      · rw [t8]
        refine z_tableIn (tgt := 740) dL_law_44 (by decide) (by decide) rfl (by decide) ?_
        exact sLaw_witness hD hW (by omega) hi hlen (by omega) (by omega) tl
      by_cases t9 : x = 9
      · rw [t9]
        refine z_tableIn (tgt := 808) dL_law_44 (by decide) (by decide) rfl (by decide) ?_
        exact sLaw_years hD hW (by omega) hi hlen (by omega) (by omega) tl
      by_cases t10 : x = 10
      · rw [t10]
        refine z_tableIn (tgt := 864) dL_law_44 (by decide) (by decide) rfl (by decide) ?_
        exact sLaw_stoneOf hD hW (by omega) hi hlen (by omega) (by omega) tl
      by_cases t11 : x = 11
      · rw [t11]
        refine z_tableIn (tgt := 932) dL_law_44 (by decide) (by decide) rfl (by decide) ?_
        exact sLaw_floodOf hD hW (by omega) hi hlen (by omega) (by omega) tl
      by_cases t12 : x = 12
      · rw [t12]
        refine z_tableIn (tgt := 1000) dL_law_44 (by decide) (by decide) rfl (by decide) ?_
        exact sLaw_floodIn hD hW (by omega) hi hlen (by omega) (by omega) tl
      by_cases t13 : x = 13
      · rw [t13]
        refine z_tableIn (tgt := 1056) dL_law_44 (by decide) (by decide) rfl (by decide) ?_
        exact sLaw_before hD hW (by omega) hi hlen (by omega) (by omega) tl
      by_cases t14 : x = 14
      · rw [t14]
        refine z_tableIn (tgt := 1112) dL_law_44 (by decide) (by decide) rfl (by decide) ?_
        exact sLaw_edge hD hW (by omega) hi hlen (by omega) (by omega) tl
      by_cases t15 : x = 15
      · rw [t15]
        refine z_tableIn (tgt := 1168) dL_law_44 (by decide) (by decide) rfl (by decide) ?_
        exact sLaw_markOf hD hW (by omega) hi hlen (by omega) (by omega) tl
      by_cases t16 : x = 16
      · rw [t16]
        refine z_tableIn (tgt := 1248) dL_law_44 (by decide) (by decide) rfl (by decide) ?_
        exact sLaw_mark hD hW (by omega) hi hlen (by omega) (by omega) tl
      by_cases t17 : x = 17
      · rw [t17]
        refine z_tableIn (tgt := 1316) dL_law_44 (by decide) (by decide) rfl (by decide) ?_
        exact sLaw_level hD hW (by omega) hi hlen (by omega) (by omega) tl
      by_cases t18 : x = 18
      · rw [t18]
        refine z_tableIn (tgt := 1384) dL_law_44 (by decide) (by decide) rfl (by decide) ?_
        exact sLaw_reads hD hW (by omega) hi hlen (by omega) (by omega) tl
      by_cases t19 : x = 19
      · rw [t19]
        refine z_tableIn (tgt := 1452) dL_law_44 (by decide) (by decide) rfl (by decide) ?_
        exact sLaw_shift hD hW (by omega) hi hlen (by omega) (by omega) tl
      by_cases t20 : x = 20
      · rw [t20]
        refine z_tableIn (tgt := 1508) dL_law_44 (by decide) (by decide) rfl (by decide) ?_
        exact sLaw_errorIn hD hW (by omega) hi hlen (by omega) (by omega) tl
      by_cases t21 : x = 21
      · rw [t21]
        refine z_tableIn (tgt := 1576) dL_law_44 (by decide) (by decide) rfl (by decide) ?_
        exact sLaw_rises hD hW (by omega) hi hlen (by omega) (by omega) tl
      by_cases t22 : x = 22
      · rw [t22]
        refine z_tableIn (tgt := 1639) dL_law_44 (by decide) (by decide) rfl (by decide) ?_
        exact sLaw_ranked hD hW (by omega) hi hlen (by omega) (by omega) tl
      by_cases t23 : x = 23
      · rw [t23]
        refine z_tableIn (tgt := 1695) dL_law_44 (by decide) (by decide) rfl (by decide) ?_
        exact sLaw_doubts hD hW (by omega) hi hlen (by omega) (by omega) tl
      by_cases t24 : x = 24
      · rw [t24]
        refine z_tableIn (tgt := 1708) dL_law_44 (by decide) (by decide) rfl (by decide) ?_
        exact sLaw_doubtsAgain hD hW (by omega) hi hlen (by omega) (by omega) tl
      by_cases t25 : x = 25
      · rw [t25]
        refine z_tableIn (tgt := 1721) dL_law_44 (by decide) (by decide) rfl (by decide) ?_
        exact sLaw_append hD hW (by omega) hi hlen (by omega) (by omega) tl
      by_cases t26 : x = 26
      · rw [t26]
        refine z_tableIn (tgt := 1779) dL_law_44 (by decide) (by decide) rfl (by decide) ?_
        exact sLaw_commands hD hW (by omega) hi hlen (by omega) (by omega) tl
      by_cases t27 : x = 27
      · rw [t27]
        refine z_tableIn (tgt := 1823) dL_law_44 (by decide) (by decide) rfl (by decide) ?_
        exact sLaw_faultPosition hD hW (by omega) hi hlen (by omega) (by omega) tl
      by_cases t28 : x = 28
      · rw [t28]
        refine z_tableIn (tgt := 1836) dL_law_44 (by decide) (by decide) rfl (by decide) ?_
        exact sLaw_reason hD hW (by omega) hi hlen (by omega) (by omega) tl
      by_cases t29 : x = 29
      · rw [t29]
        refine z_tableIn (tgt := 1892) dL_law_44 (by decide) (by decide) rfl (by decide) ?_
        exact sLaw_line hD hW (by omega) hi hlen (by omega) (by omega) tl
      by_cases t30 : x = 30
      · rw [t30]
        refine z_tableIn (tgt := 1948) dL_law_44 (by decide) (by decide) rfl (by decide) ?_
        exact sLaw_character hD hW (by omega) hi hlen (by omega) (by omega) tl
      by_cases t31 : x = 31
      · rw [t31]
        refine z_tableIn (tgt := 2004) dL_law_44 (by decide) (by decide) rfl (by decide) ?_
        exact sLaw_estimate hD hW (by omega) hi hlen (by omega) (by omega) tl
      by_cases t32 : x = 32
      · rw [t32]
        refine z_tableIn (tgt := 2081) dL_law_44 (by decide) (by decide) rfl (by decide) ?_
        exact sLaw_meanEdge hD hW (by omega) hi hlen (by omega) (by omega) tl
      by_cases t33 : x = 33
      · rw [t33]
        refine z_tableIn (tgt := 2147) dL_law_44 (by decide) (by decide) rfl (by decide) ?_
        exact sLaw_account hD hW (by omega) hi hlen (by omega) (by omega) tl
      by_cases t34 : x = 34
      · rw [t34]
        refine z_tableIn (tgt := 2203) dL_law_44 (by decide) (by decide) rfl (by decide) ?_
        exact sLaw_undo hD hW (by omega) hi hlen (by omega) (by omega) tl
      by_cases t35 : x = 35
      · rw [t35]
        refine z_tableIn (tgt := 2247) dL_law_44 (by decide) (by decide) rfl (by decide) ?_
        exact sLaw_save hD hW (by omega) hi hlen (by omega) (by omega) tl
      by_cases t36 : x = 36
      · rw [t36]
        refine z_tableIn (tgt := 2260) dL_law_44 (by decide) (by decide) rfl (by decide) ?_
        exact sLaw_restore hD hW (by omega) hi hlen (by omega) (by omega) tl
      refine z_tableOut (tgt := 2304) dL_law_44 (by have u0 := lv_neT (a := 0) t0 (by decide); have u1 := lv_neT (a := 1) t1 (by decide); have u2 := lv_neT (a := 2) t2 (by decide); have u3 := lv_neT (a := 3) t3 (by decide); have u4 := lv_neT (a := 4) t4 (by decide); have u5 := lv_neT (a := 5) t5 (by decide); have u6 := lv_neT (a := 6) t6 (by decide); have u7 := lv_neT (a := 7) t7 (by decide); have u8 := lv_neT (a := 8) t8 (by decide); have u9 := lv_neT (a := 9) t9 (by decide); have u10 := lv_neT (a := 10) t10 (by decide); have u11 := lv_neT (a := 11) t11 (by decide); have u12 := lv_neT (a := 12) t12 (by decide); have u13 := lv_neT (a := 13) t13 (by decide); have u14 := lv_neT (a := 14) t14 (by decide); have u15 := lv_neT (a := 15) t15 (by decide); have u16 := lv_neT (a := 16) t16 (by decide); have u17 := lv_neT (a := 17) t17 (by decide); have u18 := lv_neT (a := 18) t18 (by decide); have u19 := lv_neT (a := 19) t19 (by decide); have u20 := lv_neT (a := 20) t20 (by decide); have u21 := lv_neT (a := 21) t21 (by decide); have u22 := lv_neT (a := 22) t22 (by decide); have u23 := lv_neT (a := 23) t23 (by decide); have u24 := lv_neT (a := 24) t24 (by decide); have u25 := lv_neT (a := 25) t25 (by decide); have u26 := lv_neT (a := 26) t26 (by decide); have u27 := lv_neT (a := 27) t27 (by decide); have u28 := lv_neT (a := 28) t28 (by decide); have u29 := lv_neT (a := 29) t29 (by decide); have u30 := lv_neT (a := 30) t30 (by decide); have u31 := lv_neT (a := 31) t31 (by decide); have u32 := lv_neT (a := 32) t32 (by decide); have u33 := lv_neT (a := 33) t33 (by decide); have u34 := lv_neT (a := 34) t34 (by decide); have u35 := lv_neT (a := 35) t35 (by decide); have u36 := lv_neT (a := 36) t36 (by decide); omega) (by decide) ?_
      exact z_wid (k' := k + 32) (n' := n + 6400) (by omega) (by omega) (tl G bq m ρ γ μ hD (hW.up (by omega)))
  refine z_new (fs := [.null, .null, .null, .int 0, .null, .null, .null, .int 0, .null, .null]) dL_law_0 zc10 gL_8 (by decide) (by decide) (by decide) (fun b hb => ?_)
  refine z_dup dL_law_3 rfl ?_
  refine z_callI0 (mi' := mX10_init) (mc' := 219) (ms' := 3795) dL_law_4 lL_129 rfl rfl nX10_init kX10_init (Nat.le_of_ble_eq_true rfl) (Nat.le_of_ble_eq_true rfl) (by decide) (by decide) ?_
  refine sX10_init (zset_s _ _ _) (fun G1 ax bq e0 hC hN1 => ?_)
  refine z_astore_n dL_law_7 (by decide) rfl ?_
  refine z_new (fs := [.null, .null, .null, .null, .int 0, .int 0, .int 0, .int 0, .int 0, .int 0, .int 0, .int 0, .null, .int 0, .int 0, .null, .int 0, .int 0, .null, .int 0]) dL_law_8 zc11 gL_130 (by decide) (by decide) (by decide) (fun q hq => ?_)
  refine z_dup dL_law_11 rfl ?_
  refine z_callI0 (mi' := mX11_init) (mc' := 7) (ms' := 2783) dL_law_12 lL_132 rfl rfl nX11_init kX11_init (Nat.le_of_ble_eq_true rfl) (Nat.le_of_ble_eq_true rfl) (by decide) (by decide) ?_
  refine sX11_init (zset_s _ _ _) (fun G2 am m0 hM hfr hN2 => ?_)
  refine z_astore_n dL_law_15 (by decide) rfl ?_
  refine z_iconst (v := 1) dL_law_16 (by decide) ?_
  refine z_newa_l (N := 1) dL_law_17 (by decide) (by decide) (by decide) (by decide) (by decide) (fun ou hou => ?_)
  refine z_astore_n dL_law_19 (by decide) rfl ?_
  refine z_iconst (v := 1) dL_law_20 (by decide) ?_
  refine z_newa_d (N := 1) dL_law_21 (by decide) (by decide) (by decide) (by decide) (by decide) (fun od hod => ?_)
  refine z_astore dL_law_23 (by decide) rfl ?_
  refine z_iconst (v := 0) dL_law_25 (by decide) ?_
  refine z_istore dL_law_26 (by decide) rfl ?_
  have hcx : ∀ j, j < 219 → G1 (ax j) ≠ none := fun j hj => by
    by_cases h : j < 10
    · rw [hC.1 j h]; exact Option.some_ne_none _
    · have := (hC.2.1 ((j - 10) / 19) (by omega)).ne (k := (j - 10) % 19) (by omega)
      rw [show zar ax ((j - 10) / 19) ((j - 10) % 19) = ax j from congrArg ax (by omega)] at this
      exact this
  have hcb : G1 bq ≠ none := by rw [hC.2.2.2.1]; exact Option.some_ne_none _
  have hE2 : ∀ a, G1 a ≠ none → G2 a = G1 a := fun a ha => by
    have hne : a ≠ q := fun z => ha (by rw [z]; exact hq)
    have h1 : zset G1 q (.inr (11, [.null, .null, .null, .null, .int 0, .int 0, .int 0, .int 0, .int 0, .int 0, .int 0, .int 0, .null, .int 0, .int 0, .null, .int 0, .int 0, .null, .int 0])) a = G1 a := zset_n hne
    rw [hN2 a (by rw [h1]; exact ha) hne, h1]
  have ham : ∀ j, j < 8 → G1 (am j) = none := fun j hj => by
    rcases Nat.eq_zero_or_pos j with z | z
    · rw [z, m0]; exact hq
    · have h9 := hfr j z hj
      have hne : am j ≠ q := fun e9 => by
        have := hM.2 j 0 hj (by decide) (e9.trans m0.symm)
        omega
      rw [zset_n hne] at h9
      exact h9
  have ha2 : ∀ j, j < 8 → G2 (am j) ≠ none := fun j hj => hM.ne hj
  have hou0 : ∀ a, G2 a ≠ none → a ≠ ou := fun a ha z => ha (by rw [z]; exact hou)
  have hodn : od ≠ ou := fun z => by
    rw [z, zset_s] at hod
    cases hod
  have hod2 : G2 od = none := by rw [zset_n hodn] at hod; exact hod
  have hod0 : ∀ a, G2 a ≠ none → a ≠ od := fun a ha z => ha (by rw [z]; exact hod2)
  have hx2 : ∀ a, G1 a ≠ none → G2 a ≠ none := fun a ha => by rw [hE2 a ha]; exact ha
  have hkeep : ∀ a, G2 a ≠ none → zset (zset G2 ou (.inl (.long, 1, .inr (.inl (fun _ => 0))))) od (.inl (.double, 1, .inr (.inr (.inr (.inl (fun _ => 0)))))) a = G2 a := fun a ha => (zset_n (hod0 a ha)).trans (zset_n (hou0 a ha))
  refine z_sub (lv' := [some (.ref (Γ.2.2.2.2 102)), some (.ref (ax 0)), some (.ref (am 0)), some (.ref ou), some (.ref od), some (.int (nI (4 * 0))), none, none, none]) ⟨rfl, by first | exact congrArg (fun z => some (Value.ref z)) e0 | exact (congrArg (fun z => some (Value.ref z)) e0).symm, by first | exact congrArg (fun z => some (Value.ref z)) m0 | exact (congrArg (fun z => some (Value.ref z)) m0).symm, rfl, rfl, rfl, trivial⟩ ?_
  refine key 513 0 _ ax bq 16 (fun _ => zz0) zg0 am (zu zm0 1 0 100) ou od 230 6610 (by decide) (by decide) (by decide) (by decide) ⟨hC.kp (fun j hj => (hkeep _ (hx2 _ (hcx j hj))).trans (hE2 _ (hcx j hj))) ((hkeep _ (hx2 _ hcb)).trans (hE2 _ hcb)), hM.kp (fun j hj => hkeep _ (ha2 j hj)), ⟨_, (zset_n (Ne.symm hodn)).trans (zset_s _ _ _)⟩, ⟨_, zset_s _ _ _⟩, fun j j2 hj hj2 z => hcx j hj (by rw [z]; exact ham j2 hj2), fun j hj z => hcb (by rw [z]; exact ham j hj), fun j hj => ⟨hou0 _ (hx2 _ (hcx j hj)), hod0 _ (hx2 _ (hcx j hj))⟩, fun j hj => ⟨hou0 _ (ha2 j hj), hod0 _ (ha2 j hj)⟩, hou0 _ (hx2 _ hcb), hod0 _ (hx2 _ hcb), Ne.symm hodn⟩ zWd.start
