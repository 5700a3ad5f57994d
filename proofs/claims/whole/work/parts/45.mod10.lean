theorem zff_tt {p : Nat → Bool} {n : Nat} (h : zff p n < n) : p (zff p n) = true := (zff_spec p n).2 h
theorem zff_nn {p : Nat → Bool} {n : Nat} (h : zff p n = n) : ∀ k, k < n → p k = false := fun k hk => (zff_spec p n).1 k (by omega)
/-- the mark found by its height on both sides -/
theorem zRel.atH {σ : zSt} {S F E K : Nat} {g : Nat → Int32} {mm : Nat → Nat} {fl : Nat → Nat → Nat} (hL : zRel σ S F E K g mm fl) (hD : zDis σ S F) {s : Nat} {x : Int32} (hs : s < S) (h : 0 ≤ zfi (fun k => decide (σ 10 (12 * s + fl s k) = x)) (mm s)) : ∃ k, k < mm s ∧ zfi (fun k => decide (σ 10 (12 * s + fl s k) = x)) (mm s) = nI k ∧ zfi (zatH σ s x) 12 = nI (fl s k) := by
  have hF12 := hL.F12
  obtain ⟨h1, h2⟩ := zfi_ge h
  have h3 := zff_tt h1
  have hx := of_decide_eq_true h3
  have hk := (hL.mk hs h1).1
  have hz := (hL.on hs (show fl s (zff (fun k => decide (σ 10 (12 * s + fl s k) = x)) (mm s)) < 12 by omega)).mpr ⟨_, h1, rfl⟩
  refine ⟨_, h1, h2, zfi_yes (fun f hf => ?_) (show zatH σ s x _ = true from ?_) (by omega)⟩
  · refine zbf (fun q => ?_)
    have q1 := Bool.and_eq_true_iff.mp q
    have q2 := of_decide_eq_true q1.2
    have q3 : f < F := Nat.lt_of_not_le fun z => by
      have := hL.F0 hs z (by omega)
      rw [q1.1] at this
      exact absurd this (by decide)
    have := hD s f _ hs q3 hk q1.1 hz (q2.trans hx.symm)
    omega
  · exact Bool.and_eq_true_iff.mpr ⟨hz, h3⟩
theorem zRel.atHn {σ : zSt} {S F E K : Nat} {g : Nat → Int32} {mm : Nat → Nat} {fl : Nat → Nat → Nat} (hL : zRel σ S F E K g mm fl) {s : Nat} {x : Int32} (hs : s < S) (h : ¬ 0 ≤ zfi (fun k => decide (σ 10 (12 * s + fl s k) = x)) (mm s)) : ¬ 0 ≤ zfi (zatH σ s x) 12 := fun q => by
  have h1 := zfi_lt (by have := hL.m6 hs; omega) h
  obtain ⟨q1, _⟩ := zfi_ge q
  have q2 := Bool.and_eq_true_iff.mp (zff_tt q1)
  obtain ⟨k, hk, e⟩ := (hL.on hs q1).mp q2.1
  exact h1 (by
    refine Nat.lt_of_not_le fun z => ?_
    have h5 := zff_nn (p := fun k => decide (σ 10 (12 * s + fl s k) = x)) (n := mm s) (Nat.le_antisymm (zff_le _ _) z) k hk
    have h6 := of_decide_eq_false h5
    rw [e] at h6
    exact h6 (of_decide_eq_true q2.2))
theorem zifs (s m : Nat) : (5 : Int32) + 29 * nI s + 5 + 4 * nI m = nI (5 + 29 * s + 5 + 4 * m) := by
  rw [show (5 : Int32) = nI 5 from rfl, show (29 : Int32) = nI 29 from rfl, show (4 : Int32) = nI 4 from rfl, pk_mul, pk_mul, nI_add, nI_add, nI_add]
set_option maxHeartbeats 4000000 in
set_option maxRecDepth 10000 in
theorem sX11_cut {Γ : zG} {d : Nat} {G : zH} {Post : zV} {am : Nat → Nat} {μ : zSt} (hM : zMod G am μ) {σ : zSt} {S F E K : Nat} {mm : Nat → Nat} {fl : Nat → Nat → Nat} (hL : zRel σ S F E K (μ 1) mm fl) {ct : Nat} (hct : μ 0 5 = nI ct) (hc8 : ct ≤ 8) (hD : zDis σ S F) {x y z : Int32} (hO : zrCu σ E x y z = none → ∀ s f c : Nat, s < S → f < F → c < K → mm s < 6 → x = nI s → y = nI f → z = nI c → ∀ ν, ν = zmkeep μ 1 ct → ∀ G1, zMod G1 am (zu (zu (zu (zu (zu (zu (zu ν 1 (5 + 29 * s + 5 + 4 * mm s) (nI f)) 1 ((5 + 29 * s + 5 + 4 * mm s) + 1) (zread σ E s f)) 1 ((5 + 29 * s + 5 + 4 * mm s) + 2) (σ 9 c / 2 + 1)) 1 ((5 + 29 * s + 5 + 4 * mm s) + 3) (σ 13 0)) 1 (5 + 29 * s + 4) (nI (mm s + 1))) 1 (226 + c) (σ 9 c - σ 2 s)) 1 1 (σ 13 5 + 1)) → zFrm G G1 am 8 → Post (some (.int (zread σ E s f))) G1) (hR : ∀ rn rd, zrCu σ E x y z = some (rn, rd) → ∀ G1, zMod G1 am (zmref μ rn rd) → zFrm G G1 am 8 → Post (some (.int 0)) G1) : zM Γ (d + 3) mX11_cut 0 0 [.ref (am 0), .int x, .int y, .int z] G Post := by
  refine zM_of pnX11 rfl (Nat.le_of_ble_eq_true rfl) rfl ?_
  have hS6 := hL.S6
  have hF12 := hL.F12
  have hE4 := hL.E4
  have hK3 := hL.K3
  have hQ : zFrm G G am 8 := zFrm.rf
  refine z_aload_n dX11_cut_0 rfl ?_
  refine z_iload_n dX11_cut_1 rfl ?_
  refine z_V1 (mi' := mX11_isStone) dX11_cut_2 lX11_101 nX11_isStone kX11_isStone (by decide) (Nat.le_of_ble_eq_true rfl) (Nat.le_refl _) (Nat.le_refl _) (hM.1 _ (by decide)) rfl rfl ?_
  refine sX11_isStone hM hL ?_
  refine z_if_ne (tgt := 15) dX11_cut_5 (by decide) (fun c1 => ?_) (fun c1 => ?_)
  · obtain ⟨s, hs, rfl⟩ := zhas (by omega) (zb_n.mp c1)
    have is : ¬ ¬ (0 ≤ nI s ∧ nI s < σ 13 1) := by
      rw [hL.n.1]
      exact not_not_intro (zb_n.mp c1)
    have ts : (nI s).toNatClampNeg = s := nI_clamp (by omega)
    refine z_aload_n dX11_cut_15 rfl ?_
    refine z_iload_n dX11_cut_16 rfl ?_
    refine z_V1 (mi' := mX11_isFlood) dX11_cut_17 lX11_105 nX11_isFlood kX11_isFlood (by decide) (Nat.le_of_ble_eq_true rfl) (Nat.le_refl _) (Nat.le_refl _) (hM.1 _ (by decide)) rfl rfl ?_
    refine sX11_isFlood hM hL ?_
    refine z_if_ne (tgt := 30) dX11_cut_20 (by decide) (fun c2 => ?_) (fun c2 => ?_)
    · obtain ⟨f, hf, rfl⟩ := zhas (by omega) (zb_n.mp c2)
      have i_f : ¬ ¬ (0 ≤ nI f ∧ nI f < σ 13 2) := by
        rw [hL.n.2.2.1]
        exact not_not_intro (zb_n.mp c2)
      have tf : (nI f).toNatClampNeg = f := nI_clamp (by omega)
      refine z_aload_n dX11_cut_30 rfl ?_
      refine z_iload_n dX11_cut_31 rfl ?_
      refine z_V1 (mi' := mX11_isChisel) dX11_cut_32 lX11_108 nX11_isChisel kX11_isChisel (by decide) (Nat.le_of_ble_eq_true rfl) (Nat.le_refl _) (Nat.le_refl _) (hM.1 _ (by decide)) rfl rfl ?_
      refine sX11_isChisel hM hL ?_
      refine z_if_ne (tgt := 45) dX11_cut_35 (by decide) (fun c3 => ?_) (fun c3 => ?_)
      · obtain ⟨c, hc, rfl⟩ := zhas (by omega) (zb_n.mp c3)
        have ic : ¬ ¬ (0 ≤ nI c ∧ nI c < σ 13 4) := by
          rw [hL.n.2.2.2.2.2.2.1]
          exact not_not_intro (zb_n.mp c3)
        have tc : (nI c).toNatClampNeg = c := nI_clamp (by omega)
        have hm6 := hL.m6 hs
        refine z_aload_n dX11_cut_45 rfl ?_
        refine z_iload_n dX11_cut_46 rfl ?_
        refine z_iload_n dX11_cut_47 rfl ?_
        refine z_V2 (mi' := mX11_placeOf) dX11_cut_48 lX11_111 nX11_placeOf kX11_placeOf (by decide) (Nat.le_of_ble_eq_true rfl) (Nat.le_refl _) (Nat.le_refl _) (hM.1 _ (by decide)) rfl rfl ?_
        refine sX11_placeOf hM hL hs (show f < 12 by omega) ?_
        refine z_istore dX11_cut_51 (by decide) rfl ?_
        refine z_aload_n dX11_cut_53 rfl ?_
        refine z_iload_n dX11_cut_54 rfl ?_
        refine z_iload_n dX11_cut_55 rfl ?_
        refine z_V2 (mi' := mX11_heightNow) dX11_cut_56 lX11_114 nX11_heightNow kX11_heightNow (by decide) (Nat.le_of_ble_eq_true rfl) (Nat.le_refl _) (Nat.le_refl _) (hM.1 _ (by decide)) rfl rfl ?_
        refine sX11_heightNow hM hL hs hf ?_
        refine z_istore dX11_cut_59 (by decide) rfl ?_
        refine z_aload_n dX11_cut_61 rfl ?_
        refine z_get dX11_cut_62 fX11_7.r (hM.1 _ (by decide)) rfl ?_
        refine z_sipush (v := 226) dX11_cut_65 (by decide) ?_
        refine z_iload_n dX11_cut_68 rfl ?_
        refine z_iadd dX11_cut_69 ?_
        rw [zixC]
        refine z_iald dX11_cut_70 (hM.1 1 (by decide)) (vp_in_nI (show 226 + c < 229 by omega) (by decide)) ?_
        rw [nI_clamp (show 226 + c < 2147483648 by omega), hL.ch hc]
        refine z_istore dX11_cut_71 (by decide) rfl ?_
        refine z_iload dX11_cut_73 rfl ?_
        refine z_if_lt (tgt := 92) dX11_cut_75 (by decide) (fun c4 => ?_) (fun c4 => ?_)
        · have n1 := hL.pln hs (show f < 12 by omega) (Int32.not_le.mpr c4)
          refine z_aload_n dX11_cut_92 rfl ?_
          refine z_iload_n dX11_cut_93 rfl ?_
          refine z_iload_n dX11_cut_94 rfl ?_
          refine z_V2 (mi' := mX11_levelOf) dX11_cut_95 lX11_73 nX11_levelOf kX11_levelOf (by decide) (Nat.le_of_ble_eq_true rfl) (Nat.le_refl _) (Nat.le_refl _) (hM.1 _ (by decide)) rfl rfl ?_
          refine sX11_levelOf hM hL hs hf ?_
          refine z_iconst (v := 1) dX11_cut_98 (by decide) ?_
          refine z_icmp_ge (tgt := 117) dX11_cut_99 (by decide) (fun c5 => ?_) (fun c5 => ?_)
          · have n2 : ¬ zlevel σ s f < 1 := Int32.not_lt.mpr c5
            refine z_iload dX11_cut_117 rfl ?_
            refine z_iconst (v := 0) dX11_cut_119 (by decide) ?_
            refine z_bipush (v := 99) dX11_cut_120 (by decide) ?_
            refine z_S3 (mi' := mX11_in) dX11_cut_122 lX11_62 nX11_in kX11_in (by decide) (Nat.le_of_ble_eq_true rfl) (Nat.le_refl _) (Nat.le_refl _) ?_
            refine sX11_in ?_
            refine z_if_ne (tgt := 137) dX11_cut_125 (by decide) (fun c6 => ?_) (fun c6 => ?_)
            · have n3 : ¬ (zread σ E s f < 0 ∨ 99 < zread σ E s f) := zinr (zb_n.mp c6)
              refine z_iload dX11_cut_137 rfl ?_
              refine z_aload_n dX11_cut_139 rfl ?_
              refine z_iload_n dX11_cut_140 rfl ?_
              refine z_iconst (v := 2) dX11_cut_141 (by decide) ?_
              refine z_V2 (mi' := mX11_of) dX11_cut_142 lX11_70 nX11_of kX11_of (by decide) (Nat.le_of_ble_eq_true rfl) (Nat.le_refl _) (Nat.le_refl _) (hM.1 _ (by decide)) rfl rfl ?_
              refine sX11_of hM (s := s) (w := 2) (by omega) ?_
              rw [show μ 1 (5 + 29 * s + 2) = _ from (hL.st hs).2.2.1]
              refine z_icmp_ge (tgt := 157) dX11_cut_145 (by decide) (fun c7 => ?_) (fun c7 => ?_)
              · have n4 : ¬ σ 9 c < σ 2 s := Int32.not_lt.mpr c7
                refine z_aload_n dX11_cut_157 rfl ?_
                refine z_iload_n dX11_cut_158 rfl ?_
                refine z_iload dX11_cut_159 rfl ?_
                refine z_V2 (mi' := mX11_placeAt) dX11_cut_161 lX11_117 nX11_placeAt kX11_placeAt (by decide) (Nat.le_of_ble_eq_true rfl) (Nat.le_refl _) (Nat.le_refl _) (hM.1 _ (by decide)) rfl rfl ?_
                refine sX11_placeAt hM hL hs ?_
                refine z_if_lt (tgt := 187) dX11_cut_164 (by decide) (fun c8 => ?_) (fun c8 => ?_)
                · have n5 := hL.atHn hs (Int32.not_le.mpr c8)
                  refine z_aload_n dX11_cut_187 rfl ?_
                  refine z_iload_n dX11_cut_188 rfl ?_
                  refine z_iconst (v := 4) dX11_cut_189 (by decide) ?_
                  refine z_V2 (mi' := mX11_of) dX11_cut_190 lX11_70 nX11_of kX11_of (by decide) (Nat.le_of_ble_eq_true rfl) (Nat.le_refl _) (Nat.le_refl _) (hM.1 _ (by decide)) rfl rfl ?_
                  refine sX11_of hM (s := s) (w := 4) (by omega) ?_
                  rw [show μ 1 (5 + 29 * s + 4) = _ from (hL.st hs).2.2.2.2.1]
                  refine z_bipush (v := 6) dX11_cut_193 (by decide) ?_
                  refine z_icmp_ne (tgt := 206) dX11_cut_195 (by decide) (fun c9 => ?_) (fun c9 => ?_)
                  · have n6 : mm s < 6 := by
                      have h2 : mm s ≠ 6 := fun q => c9 (by rw [q]; rfl)
                      omega
                    have n7 : ¬ 6 ≤ nI (zct (fun f => zmk σ s f) 12) := by
                      rw [hL.many hs hF12 (Nat.le_refl 12)]
                      exact znle (c := 6) (m := 6) rfl rfl (by omega) (by decide) n6
                    refine z_aload_n dX11_cut_206 rfl ?_
                    refine z_aload_n dX11_cut_207 rfl ?_
                    refine z_get dX11_cut_208 fX11_7.r (hM.1 _ (by decide)) rfl ?_
                    refine z_V1 (mi' := mX11_keeps) dX11_cut_211 lX11_87 nX11_keeps kX11_keeps (by decide) (Nat.le_of_ble_eq_true rfl) (Nat.le_refl _) (Nat.le_refl _) (hM.1 _ (by decide)) rfl rfl ?_
                    refine sX11_keeps hM (r := 1) (by decide) (by decide) (by decide) hct hc8 (fun G1 hM hF => ?_)
                    obtain ⟨ν, hν⟩ : ∃ ν, ν = zmkeep μ 1 ct := ⟨_, rfl⟩
                    rw [← hν] at hM
                    have hQ := hQ.tr hF
                    have hr1 : ν 1 = μ 1 := by rw [hν]; exact zmkeep_r (by decide) (by decide)
                    replace hL : zRel σ S F E K (ν 1) mm fl := by rw [hr1]; exact hL
                    refine z_iconst (v := 5) dX11_cut_214 (by decide) ?_
                    refine z_bipush (v := 29) dX11_cut_215 (by decide) ?_
                    refine z_iload_n dX11_cut_217 rfl ?_
                    refine z_imul dX11_cut_218 ?_
                    refine z_iadd dX11_cut_219 ?_
                    refine z_iconst (v := 5) dX11_cut_220 (by decide) ?_
                    refine z_iadd dX11_cut_221 ?_
                    refine z_iconst (v := 4) dX11_cut_222 (by decide) ?_
                    refine z_aload_n dX11_cut_223 rfl ?_
                    refine z_iload_n dX11_cut_224 rfl ?_
                    refine z_iconst (v := 4) dX11_cut_225 (by decide) ?_
                    refine z_V2 (mi' := mX11_of) dX11_cut_226 lX11_70 nX11_of kX11_of (by decide) (Nat.le_of_ble_eq_true rfl) (Nat.le_refl _) (Nat.le_refl _) (hM.1 _ (by decide)) rfl rfl ?_
                    refine sX11_of hM (s := s) (w := 4) (by omega) ?_
                    rw [show ν 1 (5 + 29 * s + 4) = _ from (hL.st hs).2.2.2.2.1]
                    refine z_imul dX11_cut_229 ?_
                    refine z_iadd dX11_cut_230 ?_
                    rw [zifs]
                    refine z_istore dX11_cut_231 (by decide) rfl ?_
                    refine z_aload_n dX11_cut_233 rfl ?_
                    refine z_get dX11_cut_234 fX11_7.r (hM.1 _ (by decide)) rfl ?_
                    refine z_iload dX11_cut_237 rfl ?_
                    refine z_iload_n dX11_cut_239 rfl ?_
                    refine z_iast dX11_cut_240 (hM.1 1 (by decide)) (vp_in_nI (show 5 + 29 * s + 5 + 4 * mm s < 229 by omega) (by decide)) ?_
                    rw [nI_clamp (show 5 + 29 * s + 5 + 4 * mm s < 2147483648 by omega)]
                    refine z_mset hM 1 (5 + 29 * s + 5 + 4 * mm s) (nI f) (by decide) (by simp only [zmE, zu_row]) (fun _ hM hF => ?_)
                    have hQ := hQ.tr hF
                    refine z_aload_n dX11_cut_241 rfl ?_
                    refine z_get dX11_cut_242 fX11_7.r (hM.1 _ (by decide)) rfl ?_
                    refine z_iload dX11_cut_245 rfl ?_
                    refine z_iconst (v := 1) dX11_cut_247 (by decide) ?_
                    refine z_iadd dX11_cut_248 ?_
                    refine z_iload dX11_cut_249 rfl ?_
                    rw [nI_1]
                    refine z_iast dX11_cut_251 (hM.1 1 (by decide)) (vp_in_nI (show 5 + 29 * s + 5 + 4 * mm s + 1 < 229 by omega) (by decide)) ?_
                    rw [nI_clamp (show 5 + 29 * s + 5 + 4 * mm s + 1 < 2147483648 by omega)]
                    refine z_mset hM 1 (5 + 29 * s + 5 + 4 * mm s + 1) (zread σ E s f) (by decide) (by simp only [zmE, zu_row]) (fun _ hM hF => ?_)
                    have hQ := hQ.tr hF
                    refine z_aload_n dX11_cut_252 rfl ?_
                    refine z_get dX11_cut_253 fX11_7.r (hM.1 _ (by decide)) rfl ?_
                    refine z_iload dX11_cut_256 rfl ?_
                    refine z_iconst (v := 2) dX11_cut_258 (by decide) ?_
                    refine z_iadd dX11_cut_259 ?_
                    rw [show (2 : Int32) = nI 2 from rfl, nI_add]
                    refine z_iload dX11_cut_260 rfl ?_
                    refine z_iconst (v := 2) dX11_cut_262 (by decide) ?_
                    refine z_idiv dX11_cut_263 (by decide) ?_
                    refine z_iconst (v := 1) dX11_cut_264 (by decide) ?_
                    refine z_iadd dX11_cut_265 ?_
                    refine z_iast dX11_cut_266 (hM.1 1 (by decide)) (vp_in_nI (show 5 + 29 * s + 5 + 4 * mm s + 2 < 229 by omega) (by decide)) ?_
                    rw [nI_clamp (show 5 + 29 * s + 5 + 4 * mm s + 2 < 2147483648 by omega)]
                    refine z_mset hM 1 (5 + 29 * s + 5 + 4 * mm s + 2) (σ 9 c / 2 + 1) (by decide) (by simp only [zmE, zu_row]) (fun _ hM hF => ?_)
                    have hQ := hQ.tr hF
                    refine z_aload_n dX11_cut_267 rfl ?_
                    refine z_get dX11_cut_268 fX11_7.r (hM.1 _ (by decide)) rfl ?_
                    refine z_iload dX11_cut_271 rfl ?_
                    refine z_iconst (v := 3) dX11_cut_273 (by decide) ?_
                    refine z_iadd dX11_cut_274 ?_
                    rw [show (3 : Int32) = nI 3 from rfl, nI_add]
                    refine z_aload_n dX11_cut_275 rfl ?_
                    refine z_get dX11_cut_276 fX11_7.r (hM.1 _ (by decide)) rfl ?_
                    refine z_iconst (v := 0) dX11_cut_279 (by decide) ?_
                    refine z_iald dX11_cut_280 (hM.1 1 (by decide)) (show vp_in (nI 0) 229 from vp_in_nI (by decide) (by decide)) ?_
                    rw [show (zu (zu (zu ν 1 (5 + 29 * s + 5 + 4 * mm s) (nI f)) 1 ((5 + 29 * s + 5 + 4 * mm s) + 1) (zread σ E s f)) 1 ((5 + 29 * s + 5 + 4 * mm s) + 2) (σ 9 c / 2 + 1)) 1 (Int32.toNatClampNeg 0) = σ 13 0 from (by rw [show Int32.toNatClampNeg 0 = 0 from rfl]; (try simp (disch := omega) only [zuN, zuE]) <;> exact hL.sc.1)]
                    refine z_iast dX11_cut_281 (hM.1 1 (by decide)) (vp_in_nI (show 5 + 29 * s + 5 + 4 * mm s + 3 < 229 by omega) (by decide)) ?_
                    rw [nI_clamp (show 5 + 29 * s + 5 + 4 * mm s + 3 < 2147483648 by omega)]
                    refine z_mset hM 1 (5 + 29 * s + 5 + 4 * mm s + 3) (σ 13 0) (by decide) (by simp only [zmE, zu_row]) (fun _ hM hF => ?_)
                    have hQ := hQ.tr hF
                    refine z_aload_n dX11_cut_282 rfl ?_
                    refine z_iload_n dX11_cut_283 rfl ?_
                    refine z_iconst (v := 4) dX11_cut_284 (by decide) ?_
                    refine z_aload_n dX11_cut_285 rfl ?_
                    refine z_iload_n dX11_cut_286 rfl ?_
                    refine z_iconst (v := 4) dX11_cut_287 (by decide) ?_
                    refine z_V2 (mi' := mX11_of) dX11_cut_288 lX11_70 nX11_of kX11_of (by decide) (Nat.le_of_ble_eq_true rfl) (Nat.le_refl _) (Nat.le_refl _) (hM.1 _ (by decide)) rfl rfl ?_
                    refine sX11_of hM (s := s) (w := 4) (by omega) ?_
                    rw [show (zu (zu (zu (zu ν 1 (5 + 29 * s + 5 + 4 * mm s) (nI f)) 1 ((5 + 29 * s + 5 + 4 * mm s) + 1) (zread σ E s f)) 1 ((5 + 29 * s + 5 + 4 * mm s) + 2) (σ 9 c / 2 + 1)) 1 ((5 + 29 * s + 5 + 4 * mm s) + 3) (σ 13 0)) 1 (5 + 29 * s + 4) = _ from (by (try simp (disch := omega) only [zuN, zuE]) <;> exact (hL.st hs).2.2.2.2.1)]
                    refine z_iconst (v := 1) dX11_cut_291 (by decide) ?_
                    refine z_iadd dX11_cut_292 ?_
                    refine z_V3 (mi' := mX11_lays) dX11_cut_293 lX11_91 nX11_lays kX11_lays (by decide) (Nat.le_of_ble_eq_true rfl) (Nat.le_refl _) (Nat.le_refl _) (hM.1 _ (by decide)) rfl rfl ?_
                    rw [nI_1]
                    refine sX11_lays hM (s := s) (w := 4) (by omega) (fun _ hM hF => ?_)
                    have hQ := hQ.tr hF
                    refine z_aload_n dX11_cut_296 rfl ?_
                    refine z_get dX11_cut_297 fX11_7.r (hM.1 _ (by decide)) rfl ?_
                    refine z_sipush (v := 226) dX11_cut_300 (by decide) ?_
                    refine z_iload_n dX11_cut_303 rfl ?_
                    refine z_iadd dX11_cut_304 ?_
                    refine z_iload dX11_cut_305 rfl ?_
                    refine z_aload_n dX11_cut_307 rfl ?_
                    refine z_iload_n dX11_cut_308 rfl ?_
                    refine z_iconst (v := 2) dX11_cut_309 (by decide) ?_
                    refine z_V2 (mi' := mX11_of) dX11_cut_310 lX11_70 nX11_of kX11_of (by decide) (Nat.le_of_ble_eq_true rfl) (Nat.le_refl _) (Nat.le_refl _) (hM.1 _ (by decide)) rfl rfl ?_
                    refine sX11_of hM (s := s) (w := 2) (by omega) ?_
                    rw [show (zu (zu (zu (zu (zu ν 1 (5 + 29 * s + 5 + 4 * mm s) (nI f)) 1 ((5 + 29 * s + 5 + 4 * mm s) + 1) (zread σ E s f)) 1 ((5 + 29 * s + 5 + 4 * mm s) + 2) (σ 9 c / 2 + 1)) 1 ((5 + 29 * s + 5 + 4 * mm s) + 3) (σ 13 0)) 1 (5 + 29 * s + 4) (nI (mm s + 1))) 1 (5 + 29 * s + 2) = _ from (by (try simp (disch := omega) only [zuN, zuE]) <;> exact (hL.st hs).2.2.1)]
                    refine z_isub dX11_cut_313 ?_
                    rw [zixC]
                    refine z_iast dX11_cut_314 (hM.1 1 (by decide)) (vp_in_nI (show 226 + c < 229 by omega) (by decide)) ?_
                    rw [nI_clamp (show 226 + c < 2147483648 by omega)]
                    refine z_mset hM 1 (226 + c) (σ 9 c - σ 2 s) (by decide) (by simp only [zmE, zu_row]) (fun _ hM hF => ?_)
                    have hQ := hQ.tr hF
                    refine z_aload_n dX11_cut_315 rfl ?_
                    refine z_get dX11_cut_316 fX11_7.r (hM.1 _ (by decide)) rfl ?_
                    refine z_iconst (v := 1) dX11_cut_319 (by decide) ?_
                    refine z_dup2_11 dX11_cut_320 rfl rfl ?_
                    refine z_iald dX11_cut_321 (hM.1 1 (by decide)) (show vp_in (nI 1) 229 from vp_in_nI (by decide) (by decide)) ?_
                    rw [show (zu (zu (zu (zu (zu (zu ν 1 (5 + 29 * s + 5 + 4 * mm s) (nI f)) 1 ((5 + 29 * s + 5 + 4 * mm s) + 1) (zread σ E s f)) 1 ((5 + 29 * s + 5 + 4 * mm s) + 2) (σ 9 c / 2 + 1)) 1 ((5 + 29 * s + 5 + 4 * mm s) + 3) (σ 13 0)) 1 (5 + 29 * s + 4) (nI (mm s + 1))) 1 (226 + c) (σ 9 c - σ 2 s)) 1 (Int32.toNatClampNeg 1) = σ 13 5 from (by rw [show Int32.toNatClampNeg 1 = 1 from rfl]; (try simp (disch := omega) only [zuN, zuE]) <;> exact hL.sc.2.1)]
                    refine z_iconst (v := 1) dX11_cut_322 (by decide) ?_
                    refine z_iadd dX11_cut_323 ?_
                    refine z_iast dX11_cut_324 (hM.1 1 (by decide)) (show vp_in (nI 1) 229 from vp_in_nI (by decide) (by decide)) ?_
                    rw [show Int32.toNatClampNeg 1 = 1 from rfl]
                    refine z_mset hM 1 1 (σ 13 5 + 1) (by decide) (by simp only [zmE, zu_row]) (fun _ hM hF => ?_)
                    have hQ := hQ.tr hF
                    refine z_iload dX11_cut_325 rfl ?_
                    exact z_ireturn (mi := mX11_cut) dX11_cut_327 rfl rfl (Nat.le_refl _) (Nat.le_refl _) (hO (by rw [zrCu, if_neg is, if_neg i_f, if_neg ic, ts, tf, tc, zrCu1, if_neg n1, if_neg n2, if_neg n3, if_neg n4, if_neg n5, if_neg n7]) s f c hs hf hc n6 rfl rfl rfl ν hν _ hM hQ)
                  · have n7 : 6 ≤ nI (zct (fun f => zmk σ s f) 12) := by
                      rw [hL.many hs hF12 (Nat.le_refl 12), show nI (mm s) = 6 from c9]
                      decide
                    refine z_aload_n dX11_cut_198 rfl ?_
                    refine z_iconst (v := 2) dX11_cut_199 (by decide) ?_
                    refine z_bipush (v := 6) dX11_cut_200 (by decide) ?_
                    refine z_V2 (mi' := mX11_refuses) dX11_cut_202 lX11_84 nX11_refuses kX11_refuses (by decide) (Nat.le_of_ble_eq_true rfl) (Nat.le_refl _) (Nat.le_refl _) (hM.1 _ (by decide)) rfl rfl ?_
                    refine sX11_refuses hM (fun G1 hM hF => ?_)
                    have hQ := hQ.tr hF
                    exact z_ireturn (mi := mX11_cut) dX11_cut_205 rfl rfl (Nat.le_refl _) (Nat.le_refl _) (hR 2 6 (by rw [zrCu, if_neg is, if_neg i_f, if_neg ic, ts, tf, tc, zrCu1, if_neg n1, if_neg n2, if_neg n3, if_neg n4, if_neg n5, if_pos n7]) _ hM hQ)
                · obtain ⟨j, hj, ej, eh⟩ := hL.atH hD hs (Int32.not_lt.mp c8)
                  have n5 : 0 ≤ zfi (zatH σ s (zread σ E s f)) 12 := by
                    rw [eh]
                    exact Int32.not_lt.mp (nI_pos (by have := (hL.mk hs hj).1; omega))
                  refine z_aload_n dX11_cut_167 rfl ?_
                  refine z_bipush (v := 9) dX11_cut_168 (by decide) ?_
                  refine z_aload_n dX11_cut_170 rfl ?_
                  refine z_iload_n dX11_cut_171 rfl ?_
                  refine z_aload_n dX11_cut_172 rfl ?_
                  refine z_iload_n dX11_cut_173 rfl ?_
                  refine z_iload dX11_cut_174 rfl ?_
                  refine z_V2 (mi' := mX11_placeAt) dX11_cut_176 lX11_117 nX11_placeAt kX11_placeAt (by decide) (Nat.le_of_ble_eq_true rfl) (Nat.le_refl _) (Nat.le_refl _) (hM.1 _ (by decide)) rfl rfl ?_
                  refine sX11_placeAt hM hL hs ?_
                  rw [ej]
                  refine z_iconst (v := 0) dX11_cut_179 (by decide) ?_
                  refine z_V3 (mi' := mX11_ofMark) dX11_cut_180 lX11_80 nX11_ofMark kX11_ofMark (by decide) (Nat.le_of_ble_eq_true rfl) (Nat.le_refl _) (Nat.le_refl _) (hM.1 _ (by decide)) rfl rfl ?_
                  refine sX11_ofMark hM (s := s) (k := j) (w := 0) (by have := hL.m6 hs; have := hj; omega) ?_
                  rw [show μ 1 (5 + 29 * s + 5 + 4 * j + 0) = _ from (hL.mk hs hj).2.1]
                  refine z_V2 (mi' := mX11_refuses) dX11_cut_183 lX11_84 nX11_refuses kX11_refuses (by decide) (Nat.le_of_ble_eq_true rfl) (Nat.le_refl _) (Nat.le_refl _) (hM.1 _ (by decide)) rfl rfl ?_
                  refine sX11_refuses hM (fun G1 hM hF => ?_)
                  have hQ := hQ.tr hF
                  exact z_ireturn (mi := mX11_cut) dX11_cut_186 rfl rfl (Nat.le_refl _) (Nat.le_refl _) (hR 9 _ (by rw [zrCu, if_neg is, if_neg i_f, if_neg ic, ts, tf, tc, zrCu1, if_neg n1, if_neg n2, if_neg n3, if_neg n4, if_pos n5, eh]) _ hM hQ)
              · have n4 : σ 9 c < σ 2 s := Int32.not_le.mp c7
                refine z_aload_n dX11_cut_148 rfl ?_
                refine z_bipush (v := 8) dX11_cut_149 (by decide) ?_
                refine z_iload dX11_cut_151 rfl ?_
                refine z_V2 (mi' := mX11_refuses) dX11_cut_153 lX11_84 nX11_refuses kX11_refuses (by decide) (Nat.le_of_ble_eq_true rfl) (Nat.le_refl _) (Nat.le_refl _) (hM.1 _ (by decide)) rfl rfl ?_
                refine sX11_refuses hM (fun G1 hM hF => ?_)
                have hQ := hQ.tr hF
                exact z_ireturn (mi := mX11_cut) dX11_cut_156 rfl rfl (Nat.le_refl _) (Nat.le_refl _) (hR 8 _ (by rw [zrCu, if_neg is, if_neg i_f, if_neg ic, ts, tf, tc, zrCu1, if_neg n1, if_neg n2, if_neg n3, if_pos n4]) _ hM hQ)
            · have n3 : zread σ E s f < 0 ∨ 99 < zread σ E s f := zoutr (zb_0.mp c6)
              refine z_aload_n dX11_cut_128 rfl ?_
              refine z_bipush (v := 7) dX11_cut_129 (by decide) ?_
              refine z_iload dX11_cut_131 rfl ?_
              refine z_V2 (mi' := mX11_refuses) dX11_cut_133 lX11_84 nX11_refuses kX11_refuses (by decide) (Nat.le_of_ble_eq_true rfl) (Nat.le_refl _) (Nat.le_refl _) (hM.1 _ (by decide)) rfl rfl ?_
              refine sX11_refuses hM (fun G1 hM hF => ?_)
              have hQ := hQ.tr hF
              exact z_ireturn (mi := mX11_cut) dX11_cut_136 rfl rfl (Nat.le_refl _) (Nat.le_refl _) (hR 7 _ (by rw [zrCu, if_neg is, if_neg i_f, if_neg ic, ts, tf, tc, zrCu1, if_neg n1, if_neg n2, if_pos n3]) _ hM hQ)
          · have n2 : zlevel σ s f < 1 := Int32.not_le.mp c5
            refine z_aload_n dX11_cut_102 rfl ?_
            refine z_bipush (v := 6) dX11_cut_103 (by decide) ?_
            refine z_iconst (v := 1) dX11_cut_105 (by decide) ?_
            refine z_aload_n dX11_cut_106 rfl ?_
            refine z_iload_n dX11_cut_107 rfl ?_
            refine z_iload_n dX11_cut_108 rfl ?_
            refine z_V2 (mi' := mX11_levelOf) dX11_cut_109 lX11_73 nX11_levelOf kX11_levelOf (by decide) (Nat.le_of_ble_eq_true rfl) (Nat.le_refl _) (Nat.le_refl _) (hM.1 _ (by decide)) rfl rfl ?_
            refine sX11_levelOf hM hL hs hf ?_
            refine z_isub dX11_cut_112 ?_
            refine z_V2 (mi' := mX11_refuses) dX11_cut_113 lX11_84 nX11_refuses kX11_refuses (by decide) (Nat.le_of_ble_eq_true rfl) (Nat.le_refl _) (Nat.le_refl _) (hM.1 _ (by decide)) rfl rfl ?_
            refine sX11_refuses hM (fun G1 hM hF => ?_)
            have hQ := hQ.tr hF
            exact z_ireturn (mi := mX11_cut) dX11_cut_116 rfl rfl (Nat.le_refl _) (Nat.le_refl _) (hR 6 _ (by rw [zrCu, if_neg is, if_neg i_f, if_neg ic, ts, tf, tc, zrCu1, if_neg n1, if_pos n2]) _ hM hQ)
        · obtain ⟨k, hk, ek, ef, n1⟩ := hL.plk hs (show f < 12 by omega) (Int32.not_lt.mp c4)
          rw [ek]
          refine z_aload_n dX11_cut_78 rfl ?_
          refine z_iconst (v := 5) dX11_cut_79 (by decide) ?_
          refine z_aload_n dX11_cut_80 rfl ?_
          refine z_iload_n dX11_cut_81 rfl ?_
          refine z_iload dX11_cut_82 rfl ?_
          refine z_iconst (v := 1) dX11_cut_84 (by decide) ?_
          refine z_V3 (mi' := mX11_ofMark) dX11_cut_85 lX11_80 nX11_ofMark kX11_ofMark (by decide) (Nat.le_of_ble_eq_true rfl) (Nat.le_refl _) (Nat.le_refl _) (hM.1 _ (by decide)) rfl rfl ?_
          refine sX11_ofMark hM (s := s) (k := k) (w := 1) (by have := hL.m6 hs; have := hk; omega) ?_
          rw [show μ 1 (5 + 29 * s + 5 + 4 * k + 1) = _ from (hL.mk hs hk).2.2.1]
          refine z_V2 (mi' := mX11_refuses) dX11_cut_88 lX11_84 nX11_refuses kX11_refuses (by decide) (Nat.le_of_ble_eq_true rfl) (Nat.le_refl _) (Nat.le_refl _) (hM.1 _ (by decide)) rfl rfl ?_
          refine sX11_refuses hM (fun G1 hM hF => ?_)
          have hQ := hQ.tr hF
          exact z_ireturn (mi := mX11_cut) dX11_cut_91 rfl rfl (Nat.le_refl _) (Nat.le_refl _) (hR 5 _ (by rw [zrCu, if_neg is, if_neg i_f, if_neg ic, ts, tf, tc, zrCu1, if_pos n1, ← ef]) _ hM hQ)
      · have i9 : ¬ (0 ≤ z ∧ z < nI K) := zb_0.mp c3
        refine z_aload_n dX11_cut_38 rfl ?_
        refine z_iconst (v := 3) dX11_cut_39 (by decide) ?_
        refine z_iload_n dX11_cut_40 rfl ?_
        refine z_V2 (mi' := mX11_refuses) dX11_cut_41 lX11_84 nX11_refuses kX11_refuses (by decide) (Nat.le_of_ble_eq_true rfl) (Nat.le_refl _) (Nat.le_refl _) (hM.1 _ (by decide)) rfl rfl ?_
        refine sX11_refuses hM (fun G1 hM hF => ?_)
        have hQ := hQ.tr hF
        exact z_ireturn (mi := mX11_cut) dX11_cut_44 rfl rfl (Nat.le_refl _) (Nat.le_refl _) (hR 3 z (by rw [zrCu, if_neg is, if_neg i_f, hL.n.2.2.2.2.2.2.1, if_pos i9]) _ hM hQ)
    · have i9 : ¬ (0 ≤ y ∧ y < nI F) := zb_0.mp c2
      refine z_aload_n dX11_cut_23 rfl ?_
      refine z_iconst (v := 3) dX11_cut_24 (by decide) ?_
      refine z_iload_n dX11_cut_25 rfl ?_
      refine z_V2 (mi' := mX11_refuses) dX11_cut_26 lX11_84 nX11_refuses kX11_refuses (by decide) (Nat.le_of_ble_eq_true rfl) (Nat.le_refl _) (Nat.le_refl _) (hM.1 _ (by decide)) rfl rfl ?_
      refine sX11_refuses hM (fun G1 hM hF => ?_)
      have hQ := hQ.tr hF
      exact z_ireturn (mi := mX11_cut) dX11_cut_29 rfl rfl (Nat.le_refl _) (Nat.le_refl _) (hR 3 y (by rw [zrCu, if_neg is, hL.n.2.2.1, if_pos i9]) _ hM hQ)
  · have i9 : ¬ (0 ≤ x ∧ x < nI S) := zb_0.mp c1
    refine z_aload_n dX11_cut_8 rfl ?_
    refine z_iconst (v := 3) dX11_cut_9 (by decide) ?_
    refine z_iload_n dX11_cut_10 rfl ?_
    refine z_V2 (mi' := mX11_refuses) dX11_cut_11 lX11_84 nX11_refuses kX11_refuses (by decide) (Nat.le_of_ble_eq_true rfl) (Nat.le_refl _) (Nat.le_refl _) (hM.1 _ (by decide)) rfl rfl ?_
    refine sX11_refuses hM (fun G1 hM hF => ?_)
    have hQ := hQ.tr hF
    exact z_ireturn (mi := mX11_cut) dX11_cut_14 rfl rfl (Nat.le_refl _) (Nat.le_refl _) (hR 3 x (by rw [zrCu, hL.n.1, if_pos i9]) _ hM hQ)
def zdp (g : Nat → Int32) (a b : Nat) : Nat → Int32 := fun j => if a ≤ j ∧ j < b then g (j + 4) else g j
theorem zdp_0 (g : Nat → Int32) (a j : Nat) : zdp g a a j = g j := if_neg (by omega)
theorem zdp_s (g : Nat → Int32) {a b : Nat} (h : a ≤ b) (j : Nat) : (if j = b then zdp g a b (b + 4) else zdp g a b j) = zdp g a (b + 1) j := by
  unfold zdp
  by_cases e : j = b
  · rw [if_pos e, if_neg (by omega), if_pos (by omega), e]
  · rw [if_neg e]
    by_cases q : a ≤ j ∧ j < b
    · rw [if_pos q, if_pos (by omega)]
    · rw [if_neg q, if_neg (by omega)]
/-- what the dropping of the k-th of m marks leaves -/
def zmdrop (ν : zSt) (s k m : Nat) : zSt := zu (zrw ν 1 (zdp (ν 1) (5 + 29 * s + 5 + 4 * k) (5 + 29 * s + 5 + 4 * (m - 1)))) 1 (5 + 29 * s + 4) (nI (m - 1))
set_option maxHeartbeats 4000000 in
set_option maxRecDepth 10000 in
theorem sX11_drops {Γ : zG} {d : Nat} {G : zH} {Post : zV} {am : Nat → Nat} {μ : zSt} (hM : zMod G am μ) {s k m : Nat} (hs : s < 6) (hk : k < m) (hm6 : m ≤ 6) (hc : μ 1 (5 + 29 * s + 4) = nI m) (hP : ∀ G1, zMod G1 am (zmdrop μ s k m) → zFrm G G1 am 8 → Post (none) G1) : zM Γ (d + 1) mX11_drops 0 0 [.ref (am 0), .int (nI s), .int (nI k)] G Post := by
  refine zM_of pnX11 rfl (Nat.le_of_ble_eq_true rfl) rfl ?_
  have hQ : zFrm G G am 8 := zFrm.rf
  have key : ∀ (r : Nat) (i : Nat) (G1 : zH), 4 * k ≤ i → i ≤ 4 * (m - 1) → 4 * (m - 1) < i + r → zMod G1 am (zrw μ 1 (zdp (μ 1) (5 + 29 * s + 5 + 4 * k) (5 + 29 * s + 5 + i))) → zFrm G G1 am 8 → zX Γ mX11_drops (d + 1) 0 0 14 [some (.ref (am 0)), some (.int (nI s)), some (.int (nI k)), some (.int (nI (m - 1))), some (.int (nI i))] [] G1 0 0 (zlift Post) := by
    intro r
    induction r with
    | zero =>
      intro i G1 hi0 hi1 hi2 hM hQ
      exact absurd hi2 (by omega)
    | succ r ih =>
      intro i G1 hi0 hi1 hi2 hM hQ
      refine z_iload dX11_drops_14 rfl ?_
      refine z_iconst (v := 4) dX11_drops_16 (by decide) ?_
      refine z_iload_n dX11_drops_17 rfl ?_
      refine z_imul dX11_drops_18 ?_
      rw [show (4 : Int32) = nI 4 from rfl, pk_mul]
      refine z_icmp_ge (tgt := 48) dX11_drops_19 (by decide) (fun c1 => ?_) (fun c1 => ?_)
      · have hi9 := zgeN (N := 4 * (m - 1)) rfl (by omega) (by omega) c1
        refine z_aload_n dX11_drops_48 rfl ?_
        refine z_iload_n dX11_drops_49 rfl ?_
        refine z_iconst (v := 4) dX11_drops_50 (by decide) ?_
        refine z_iload_n dX11_drops_51 rfl ?_
        refine z_V3 (mi' := mX11_lays) dX11_drops_52 lX11_91 nX11_lays kX11_lays (by decide) (Nat.le_of_ble_eq_true rfl) (Nat.le_refl _) (Nat.le_refl _) (hM.1 _ (by decide)) rfl rfl ?_
        refine sX11_lays hM (s := s) (w := 4) (by omega) (fun _ hM hF => ?_)
        have hQ := hQ.tr hF
        exact z_vreturn (mi := mX11_drops) dX11_drops_55 rfl (Nat.le_refl _) (Nat.le_refl _) (by rw [show i = 4 * (m - 1) by omega] at hM; exact hP _ hM hQ)
      · have hi9 := zltN (N := 4 * (m - 1)) rfl (by omega) (by omega) c1
        refine z_aload_n dX11_drops_22 rfl ?_
        refine z_iload_n dX11_drops_23 rfl ?_
        refine z_iconst (v := 5) dX11_drops_24 (by decide) ?_
        refine z_iload dX11_drops_25 rfl ?_
        refine z_iadd dX11_drops_27 ?_
        rw [show (5 : Int32) = nI 5 from rfl, nI_add]
        refine z_aload_n dX11_drops_28 rfl ?_
        refine z_iload_n dX11_drops_29 rfl ?_
        refine z_iconst (v := 5) dX11_drops_30 (by decide) ?_
        refine z_iload dX11_drops_31 rfl ?_
        refine z_iadd dX11_drops_33 ?_
        refine z_iconst (v := 4) dX11_drops_34 (by decide) ?_
        refine z_iadd dX11_drops_35 ?_
        rw [show (5 : Int32) = nI 5 from rfl, show (4 : Int32) = nI 4 from rfl, nI_add, nI_add]
        refine z_V2 (mi' := mX11_of) dX11_drops_36 lX11_70 nX11_of kX11_of (by decide) (Nat.le_of_ble_eq_true rfl) (Nat.le_refl _) (Nat.le_refl _) (hM.1 _ (by decide)) rfl rfl ?_
        refine sX11_of hM (s := s) (w := 5 + i + 4) (by omega) ?_
        rw [show zrw μ 1 (zdp (μ 1) (5 + 29 * s + 5 + 4 * k) (5 + 29 * s + 5 + i)) 1 (5 + 29 * s + (5 + i + 4)) = zdp (μ 1) (5 + 29 * s + 5 + 4 * k) (5 + 29 * s + 5 + i) (5 + 29 * s + 5 + i + 4) by rw [zrw_s, show 5 + 29 * s + (5 + i + 4) = 5 + 29 * s + 5 + i + 4 by omega]]
        refine z_V3 (mi' := mX11_lays) dX11_drops_39 lX11_91 nX11_lays kX11_lays (by decide) (Nat.le_of_ble_eq_true rfl) (Nat.le_refl _) (Nat.le_refl _) (hM.1 _ (by decide)) rfl rfl ?_
        refine sX11_lays hM (s := s) (w := 5 + i) (by omega) (fun _ hM hF => ?_)
        have hQ := hQ.tr hF
        refine z_iinc dX11_drops_42 rfl rfl (by decide) rfl ?_
        refine z_goto (tgt := 14) dX11_drops_45 (by decide) ?_
        exact z_sub (lv' := [some (.ref (am 0)), some (.int (nI s)), some (.int (nI k)), some (.int (nI (m - 1))), some (.int (nI (i + 1)))]) ⟨rfl, rfl, rfl, rfl, zsl (zinc i), trivial⟩ (ih (i + 1) _ (by omega) (by omega) (by omega) (by rw [show 5 + 29 * s + (5 + i) = 5 + 29 * s + 5 + i by omega, zu_zrw (zdp_s (μ 1) (by omega))] at hM; exact hM) hQ)
  refine z_aload_n dX11_drops_0 rfl ?_
  refine z_iload_n dX11_drops_1 rfl ?_
  refine z_iconst (v := 4) dX11_drops_2 (by decide) ?_
  refine z_V2 (mi' := mX11_of) dX11_drops_3 lX11_70 nX11_of kX11_of (by decide) (Nat.le_of_ble_eq_true rfl) (Nat.le_refl _) (Nat.le_refl _) (hM.1 _ (by decide)) rfl rfl ?_
  refine sX11_of hM (s := s) (w := 4) (by omega) ?_
  rw [hc]
  refine z_iconst (v := 1) dX11_drops_6 (by decide) ?_
  refine z_isub dX11_drops_7 ?_
  rw [show nI m - 1 = nI (m - 1) by rw [show m = (m - 1) + 1 by omega, nI_pred]; rfl]
  refine z_istore_n dX11_drops_8 (by decide) rfl ?_
  refine z_iconst (v := 4) dX11_drops_9 (by decide) ?_
  refine z_iload_n dX11_drops_10 rfl ?_
  refine z_imul dX11_drops_11 ?_
  rw [show (4 : Int32) = nI 4 from rfl, pk_mul]
  refine z_istore dX11_drops_12 (by decide) rfl ?_
  exact z_sub (lv' := [some (.ref (am 0)), some (.int (nI s)), some (.int (nI k)), some (.int (nI (m - 1))), some (.int (nI (4 * k)))]) ⟨rfl, rfl, rfl, rfl, rfl, trivial⟩ (key (4 * (m - 1) + 1) (4 * k) _ (by omega) (by omega) (by omega) (by rw [zrw_0 (zdp_0 (μ 1) (5 + 29 * s + 5 + 4 * k))]; exact hM) hQ)
theorem zmdrop_o {ν : zSt} {s k m j : Nat} (h : j < 5 + 29 * s + 4) : zmdrop ν s k m 1 j = ν 1 j := by
  rw [zmdrop, zu_j (by omega), zrw_s, zdp, if_neg (by omega)]
set_option maxHeartbeats 4000000 in
set_option maxRecDepth 10000 in
theorem sX11_efface {Γ : zG} {d : Nat} {G : zH} {Post : zV} {am : Nat → Nat} {μ : zSt} (hM : zMod G am μ) {σ : zSt} {S F E K : Nat} {mm : Nat → Nat} {fl : Nat → Nat → Nat} (hL : zRel σ S F E K (μ 1) mm fl) {ct : Nat} (hct : μ 0 5 = nI ct) (hc8 : ct ≤ 8) {x y : Int32} (hO : zrEf σ x y = none → ∀ s f k : Nat, s < S → f < F → k < mm s → fl s k = f → x = nI s → y = nI f → ∀ ν, ν = zmkeep μ 1 ct → ∀ G1, zMod G1 am (zu (zmdrop ν s k (mm s)) 1 2 (σ 13 6 + 1)) → zFrm G G1 am 8 → Post (some (.int (σ 10 (12 * s + f)))) G1) (hR : ∀ rn rd, zrEf σ x y = some (rn, rd) → ∀ G1, zMod G1 am (zmref μ rn rd) → zFrm G G1 am 8 → Post (some (.int 0)) G1) : zM Γ (d + 2) mX11_efface 0 0 [.ref (am 0), .int x, .int y] G Post := by
  refine zM_of pnX11 rfl (Nat.le_of_ble_eq_true rfl) rfl ?_
  have hS6 := hL.S6
  have hF12 := hL.F12
  have hE4 := hL.E4
  have hK3 := hL.K3
  have hQ : zFrm G G am 8 := zFrm.rf
  refine z_aload_n dX11_efface_0 rfl ?_
  refine z_iload_n dX11_efface_1 rfl ?_
  refine z_V1 (mi' := mX11_isStone) dX11_efface_2 lX11_101 nX11_isStone kX11_isStone (by decide) (Nat.le_of_ble_eq_true rfl) (Nat.le_refl _) (Nat.le_refl _) (hM.1 _ (by decide)) rfl rfl ?_
  refine sX11_isStone hM hL ?_
  refine z_if_ne (tgt := 15) dX11_efface_5 (by decide) (fun c1 => ?_) (fun c1 => ?_)
  · obtain ⟨s, hs, rfl⟩ := zhas (by omega) (zb_n.mp c1)
    have is : ¬ ¬ (0 ≤ nI s ∧ nI s < σ 13 1) := by
      rw [hL.n.1]
      exact not_not_intro (zb_n.mp c1)
    have ts : (nI s).toNatClampNeg = s := nI_clamp (by omega)
    refine z_aload_n dX11_efface_15 rfl ?_
    refine z_iload_n dX11_efface_16 rfl ?_
    refine z_V1 (mi' := mX11_isFlood) dX11_efface_17 lX11_105 nX11_isFlood kX11_isFlood (by decide) (Nat.le_of_ble_eq_true rfl) (Nat.le_refl _) (Nat.le_refl _) (hM.1 _ (by decide)) rfl rfl ?_
    refine sX11_isFlood hM hL ?_
    refine z_if_ne (tgt := 30) dX11_efface_20 (by decide) (fun c2 => ?_) (fun c2 => ?_)
    · obtain ⟨f, hf, rfl⟩ := zhas (by omega) (zb_n.mp c2)
      have i_f : ¬ ¬ (0 ≤ nI f ∧ nI f < σ 13 2) := by
        rw [hL.n.2.2.1]
        exact not_not_intro (zb_n.mp c2)
      have tf : (nI f).toNatClampNeg = f := nI_clamp (by omega)
      have hm6 := hL.m6 hs
      refine z_aload_n dX11_efface_30 rfl ?_
      refine z_iload_n dX11_efface_31 rfl ?_
      refine z_iload_n dX11_efface_32 rfl ?_
      refine z_V2 (mi' := mX11_placeOf) dX11_efface_33 lX11_111 nX11_placeOf kX11_placeOf (by decide) (Nat.le_of_ble_eq_true rfl) (Nat.le_refl _) (Nat.le_refl _) (hM.1 _ (by decide)) rfl rfl ?_
      refine sX11_placeOf hM hL hs (show f < 12 by omega) ?_
      refine z_istore_n dX11_efface_36 (by decide) rfl ?_
      refine z_iload_n dX11_efface_37 rfl ?_
      refine z_if_ge (tgt := 49) dX11_efface_38 (by decide) (fun c3 => ?_) (fun c3 => ?_)
      · obtain ⟨k, hk, ek, ef, n1⟩ := hL.plk hs (show f < 12 by omega) c3
        rw [ek]
        refine z_aload_n dX11_efface_49 rfl ?_
        refine z_aload_n dX11_efface_50 rfl ?_
        refine z_get dX11_efface_51 fX11_7.r (hM.1 _ (by decide)) rfl ?_
        refine z_V1 (mi' := mX11_keeps) dX11_efface_54 lX11_87 nX11_keeps kX11_keeps (by decide) (Nat.le_of_ble_eq_true rfl) (Nat.le_refl _) (Nat.le_refl _) (hM.1 _ (by decide)) rfl rfl ?_
        refine sX11_keeps hM (r := 1) (by decide) (by decide) (by decide) hct hc8 (fun G1 hM hF => ?_)
        obtain ⟨ν, hν⟩ : ∃ ν, ν = zmkeep μ 1 ct := ⟨_, rfl⟩
        rw [← hν] at hM
        have hQ := hQ.tr hF
        have hr1 : ν 1 = μ 1 := by rw [hν]; exact zmkeep_r (by decide) (by decide)
        replace hL : zRel σ S F E K (ν 1) mm fl := by rw [hr1]; exact hL
        refine z_aload_n dX11_efface_57 rfl ?_
        refine z_iload_n dX11_efface_58 rfl ?_
        refine z_iload_n dX11_efface_59 rfl ?_
        refine z_iconst (v := 1) dX11_efface_60 (by decide) ?_
        refine z_V3 (mi' := mX11_ofMark) dX11_efface_61 lX11_80 nX11_ofMark kX11_ofMark (by decide) (Nat.le_of_ble_eq_true rfl) (Nat.le_refl _) (Nat.le_refl _) (hM.1 _ (by decide)) rfl rfl ?_
        refine sX11_ofMark hM (s := s) (k := k) (w := 1) (by have := hL.m6 hs; have := hk; omega) ?_
        rw [show ν 1 (5 + 29 * s + 5 + 4 * k + 1) = _ from (hL.mk hs hk).2.2.1]
        refine z_istore dX11_efface_64 (by decide) rfl ?_
        refine z_aload_n dX11_efface_66 rfl ?_
        refine z_iload_n dX11_efface_67 rfl ?_
        refine z_iload_n dX11_efface_68 rfl ?_
        refine z_V2 (mi' := mX11_drops) dX11_efface_69 lX11_120 nX11_drops kX11_drops (by decide) (Nat.le_of_ble_eq_true rfl) (Nat.le_refl _) (Nat.le_refl _) (hM.1 _ (by decide)) rfl rfl ?_
        refine sX11_drops hM (show s < 6 by omega) hk hm6 (hL.st hs).2.2.2.2.1 (fun G2 hM hF => ?_)
        have hQ := hQ.tr hF
        refine z_aload_n dX11_efface_72 rfl ?_
        refine z_get dX11_efface_73 fX11_7.r (hM.1 _ (by decide)) rfl ?_
        refine z_iconst (v := 2) dX11_efface_76 (by decide) ?_
        refine z_dup2_11 dX11_efface_77 rfl rfl ?_
        refine z_iald dX11_efface_78 (hM.1 1 (by decide)) (show vp_in (nI 2) 229 from vp_in_nI (by decide) (by decide)) ?_
        rw [show zmdrop ν s k (mm s) 1 (Int32.toNatClampNeg 2) = σ 13 6 from (zmdrop_o (show 2 < 5 + 29 * s + 4 by omega)).trans hL.sc.2.2.1]
        refine z_iconst (v := 1) dX11_efface_79 (by decide) ?_
        refine z_iadd dX11_efface_80 ?_
        refine z_iast dX11_efface_81 (hM.1 1 (by decide)) (show vp_in (nI 2) 229 from vp_in_nI (by decide) (by decide)) ?_
        rw [show Int32.toNatClampNeg 2 = 2 from rfl]
        refine z_mset hM 1 2 (σ 13 6 + 1) (by decide) (by simp only [zmE, zu_row]) (fun _ hM hF => ?_)
        have hQ := hQ.tr hF
        refine z_iload dX11_efface_82 rfl ?_
        exact z_ireturn (mi := mX11_efface) dX11_efface_84 rfl rfl (Nat.le_refl _) (Nat.le_refl _) (by rw [ef]; exact hO (by rw [zrEf, if_neg is, if_neg i_f, ts, tf, if_pos n1]) s f k hs hf hk ef rfl rfl ν hν _ hM hQ)
      · have n1 := hL.pln hs (show f < 12 by omega) c3
        refine z_aload_n dX11_efface_41 rfl ?_
        refine z_bipush (v := 10) dX11_efface_42 (by decide) ?_
        refine z_iload_n dX11_efface_44 rfl ?_
        refine z_V2 (mi' := mX11_refuses) dX11_efface_45 lX11_84 nX11_refuses kX11_refuses (by decide) (Nat.le_of_ble_eq_true rfl) (Nat.le_refl _) (Nat.le_refl _) (hM.1 _ (by decide)) rfl rfl ?_
        refine sX11_refuses hM (fun G1 hM hF => ?_)
        have hQ := hQ.tr hF
        exact z_ireturn (mi := mX11_efface) dX11_efface_48 rfl rfl (Nat.le_refl _) (Nat.le_refl _) (hR 10 _ (by rw [zrEf, if_neg is, if_neg i_f, ts, tf, if_neg n1]) _ hM hQ)
    · have i9 : ¬ (0 ≤ y ∧ y < nI F) := zb_0.mp c2
      refine z_aload_n dX11_efface_23 rfl ?_
      refine z_iconst (v := 3) dX11_efface_24 (by decide) ?_
      refine z_iload_n dX11_efface_25 rfl ?_
      refine z_V2 (mi' := mX11_refuses) dX11_efface_26 lX11_84 nX11_refuses kX11_refuses (by decide) (Nat.le_of_ble_eq_true rfl) (Nat.le_refl _) (Nat.le_refl _) (hM.1 _ (by decide)) rfl rfl ?_
      refine sX11_refuses hM (fun G1 hM hF => ?_)
      have hQ := hQ.tr hF
      exact z_ireturn (mi := mX11_efface) dX11_efface_29 rfl rfl (Nat.le_refl _) (Nat.le_refl _) (hR 3 y (by rw [zrEf, if_neg is, hL.n.2.2.1, if_pos i9]) _ hM hQ)
  · have i9 : ¬ (0 ≤ x ∧ x < nI S) := zb_0.mp c1
    refine z_aload_n dX11_efface_8 rfl ?_
    refine z_iconst (v := 3) dX11_efface_9 (by decide) ?_
    refine z_iload_n dX11_efface_10 rfl ?_
    refine z_V2 (mi' := mX11_refuses) dX11_efface_11 lX11_84 nX11_refuses kX11_refuses (by decide) (Nat.le_of_ble_eq_true rfl) (Nat.le_refl _) (Nat.le_refl _) (hM.1 _ (by decide)) rfl rfl ?_
    refine sX11_refuses hM (fun G1 hM hF => ?_)
    have hQ := hQ.tr hF
    exact z_ireturn (mi := mX11_efface) dX11_efface_14 rfl rfl (Nat.le_refl _) (Nat.le_refl _) (hR 3 x (by rw [zrEf, hL.n.1, if_pos i9]) _ hM hQ)
