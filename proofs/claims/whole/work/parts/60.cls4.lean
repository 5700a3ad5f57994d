theorem zff_cong {p q : Nat → Bool} : ∀ {n : Nat}, (∀ k, k < n → p k = q k) → zff p n = zff q n
  | 0, _ => rfl
  | n + 1, h => by
    rw [zff, zff, zff_cong (fun k hk => h k (by omega)), h n (by omega)]
theorem zsubz {a b : Int32} (ha : zBet a (-100000000) 100000000) (hb : zBet b (-100000000) 100000000) : (¬ a - b = 0 ↔ ¬ a = b) ∧ (0 < a - b ↔ b < a) := by
  unfold zBet at ha hb
  have e1 := zsubI (x := a) (y := b) (by omega)
  refine ⟨?_, ?_⟩
  · rw [zeqI, zeqI, e1, z0I]
    omega
  · rw [Int32.lt_iff_toInt_lt, Int32.lt_iff_toInt_lt, e1, z0I]
    omega
theorem zcredB {σ : zSt} {S F E K : Nat} {Y : Int} (hB : zBnd σ S F E K Y) (hS6 : S ≤ 6) (hF12 : F ≤ 12) {f : Nat} (hf : f < F) : zBet (zcred σ E F S f) (-100000000) 100000000 := by
  have h6 := (hB.2.1 f hf).2.2
  have hd : zdOf σ E F S f ≤ 144 := by
    have h1 : zdOf σ E F S f ≤ S * 12 := by
      unfold zdOf
      exact zsm_le (fun k _ => Nat.le_trans (zct_le _ _) hF12)
    have h2 : S * 12 ≤ 6 * 12 := Nat.mul_le_mul_right 12 hS6
    omega
  have e1 := nI_toInt (show zdOf σ E F S f < 2147483648 by omega)
  have e10 : (10 : Int32).toInt = 10 := by decide
  have e5 : (5 : Int32).toInt = 5 := by decide
  unfold zBet at h6
  have m1 : ((10 : Int32) * σ 6 f).toInt = 10 * (σ 6 f).toInt := by
    rw [Int32.toInt_mul, e10]
    exact Int.bmod_eq_of_le (by omega) (by omega)
  have m2 : ((5 : Int32) * nI (zdOf σ E F S f)).toInt = 5 * (zdOf σ E F S f : Int) := by
    rw [Int32.toInt_mul, e5, e1]
    exact Int.bmod_eq_of_le (by omega) (by omega)
  have m3 := zsubI (x := 10 * σ 6 f) (y := 5 * nI (zdOf σ E F S f)) (by rw [m1, m2]; omega)
  unfold zcred
  split
  · unfold zBet
    rw [m3, m1, m2]
    omega
  · unfold zBet
    decide
/-- the class's comparing of differences against the reference's comparing -/
theorem zahd_M {σ : zSt} {S F E K : Nat} {Y : Int} (hB : zBnd σ S F E K Y) (hY : Y ≤ 100000000) {cr : Nat → Int32} (hcr : ∀ f, f < F → zBet (cr f) (-100000000) 100000000) {k f : Nat} (hk : k < F) (hf : f < F) : zahd σ cr k f = (decide (k ≠ f) && zahM σ cr k f) := by
  have h1 := zsubz (hcr k hk) (hcr f hf)
  have b1 := (hB.2.1 k hk).2.1
  have b2 := (hB.2.1 f hf).2.1
  have h2 := zsubz (a := σ 5 k) (b := σ 5 f) (by unfold zBet at *; omega) (by unfold zBet at *; omega)
  unfold zahd zahM
  by_cases e : k = f
  · rw [e, if_neg (fun q => h1.1.mp (by rw [e] at *; exact q) (by rw [e])), if_neg (fun q => h2.1.mp (by rw [e] at *; exact q) (by rw [e]))]
    rw [decide_eq_false (show ¬ f ≠ f from fun q => q rfl), Bool.false_and]
    exact decide_eq_false Int32.lt_irrefl
  · rw [decide_eq_true (show k ≠ f from e), Bool.true_and]
    by_cases q1 : cr k = cr f
    · rw [if_neg (show ¬ ¬ cr k - cr f = 0 from fun q => h1.1.mp q q1), if_neg (show ¬ ¬ cr k = cr f from fun q => q q1)]
      by_cases q2 : σ 5 k = σ 5 f
      · rw [if_neg (show ¬ ¬ σ 5 k - σ 5 f = 0 from fun q => h2.1.mp q q2), if_neg (show ¬ ¬ σ 5 k = σ 5 f from fun q => q q2)]
      · rw [if_pos (h2.1.mpr q2), if_pos q2]
        exact decide_eq_decide.mpr h2.2
    · rw [if_pos (h1.1.mpr q1), if_pos q1]
      exact decide_eq_decide.mpr h1.2
theorem zranked {σ : zSt} {S F E K : Nat} {Y : Int} (hB : zBnd σ S F E K Y) (hY : Y ≤ 100000000) (hS6 : S ≤ 6) (hF12 : F ≤ 12) {cr : Nat → Int32} (hcr : ∀ f, f < F → cr f = zcred σ E F S f) (x : Int32) : zff (fun f => decide (nI (zct (fun o => zahd σ cr o f) F) = x)) F = zff (zrkp σ E F S x) F := by
  refine zff_cong (fun f hf => ?_)
  unfold zrkp
  have e : zct (fun o => zahd σ cr o f) F = zct (fun k => decide (k ≠ f) && zahM σ (zcred σ E F S) k f) F := zct_cong (fun k hk => by
    rw [zahd_M hB hY (fun f hf => by rw [hcr f hf]; exact zcredB hB hS6 hF12 hf) hk hf]
    unfold zahM
    rw [hcr k hk, hcr f hf])
  rw [e]
def zfcr (γ : zSt) (cr : Nat → Int32) (i : Nat) : zSt := zrw γ 4 (fun j => if j < i then cr j else γ 4 j)
theorem zfcr_0 {γ : zSt} {cr : Nat → Int32} : zfcr γ cr 0 = γ := zrw_0 (fun j => if_neg (by omega))
theorem zfcr_s {γ : zSt} {cr : Nat → Int32} {i : Nat} : zu (zfcr γ cr i) 4 i (cr i) = zfcr γ cr (i + 1) := zu_zrw (fun j => by
  by_cases e : j = i
  · rw [if_pos e, if_pos (by omega), e]
  · rw [if_neg e]
    by_cases e2 : j < i
    · rw [if_pos e2, if_pos (by omega)]
    · rw [if_neg e2, if_neg (by omega)])
theorem zrk_y {σ : zSt} {S F E : Nat} {x : Int32} {p : Nat → Bool} (h : 0 ≤ zfi p F) (he : zff p F = zff (zrkp σ E F S x) F) : zvi (zfi p F) = zoRanked σ E F S x := by
  obtain ⟨h1, h2⟩ := zfi_ge h
  unfold zoRanked
  rw [← he, if_pos h1, h2]
theorem zrk_n {σ : zSt} {S F E : Nat} {x : Int32} {p : Nat → Bool} (hF : F ≤ 12) (h : ¬ 0 ≤ zfi p F) (he : zff p F = zff (zrkp σ E F S x) F) : .inr zNS = zoRanked σ E F S x := by
  have h1 := zfi_lt (by omega) h
  unfold zoRanked
  rw [← he, if_neg h1]
set_option maxHeartbeats 4000000 in
set_option maxRecDepth 10000 in
theorem sX10_ranked {Γ : zG} {d : Nat} {G : zH} {ax : Nat → Nat} {bq m : Nat} {ρ : Nat → zSt} {γ : zSt} (hC : zCls G ax bq m ρ γ) {S F E K : Nat} (hN : zN (ρ 0) S F E K) {Y : Int} (hB : zBnd (ρ 0) S F E K Y) (hY : Y ≤ 100000000) {Post : zP} {x : Int32} (hP : ∀ (o : zO) G1 γ9, o = zoRanked (ρ 0) E F S x → zCls G1 ax bq m ρ γ9 → (∀ r, r ≠ 4 → γ9 r = γ r) → zFC G G1 ax bq → Post o G1) : zMX Γ (d + 6) mX10_ranked 1 6 [.ref (ax 0), .int x] G Post := by
  refine zMX_of pnX10 rfl (Nat.le_of_ble_eq_true rfl) rfl ?_
  obtain ⟨hS, hS6, hF, hF12, hE, hE4, hK, hK3⟩ := id hN
  have hQ : zFC G G ax bq := zFC.rf
  have key : ∀ (r : Nat) (i : Nat) (G1 : zH), i ≤ F → F < i + r → zCls G1 ax bq m ρ (zfcr γ (zcred (ρ 0) E F S) i) → zFC G G1 ax bq → zX Γ mX10_ranked (d + 6) 1 6 2 [some (.ref (ax 0)), some (.int x), some (.int (nI i))] [] G1 0 0 (Post) := by
    intro r
    induction r with
    | zero =>
      intro i G1 hi1 hi2 hC hQ
      exact absurd hi2 (by omega)
    | succ r ih =>
      intro i G1 hi1 hi2 hC hQ
      refine z_iload_n dX10_ranked_2 rfl ?_
      refine z_aload_n dX10_ranked_3 rfl ?_
      refine z_get dX10_ranked_4 fX10_10.r (hC.1 _ (by decide)) rfl ?_
      refine z_get dX10_ranked_7 fX10_96 ((hC.2.1 0 (by decide)).1 _ (by decide)) rfl ?_
      refine z_get dX10_ranked_10 fX10_311.r ((hC.2.1 0 (by decide)).1 _ (by decide)) rfl ?_
      refine z_icmp_ge (tgt := 38) dX10_ranked_13 (by decide) (fun c1 => ?_) (fun c1 => ?_)
      · have hi9 := zgeN (N := F) hF (by omega) (by omega) c1
        have hiF : i = F := by omega
        refine z_aload_n dX10_ranked_38 rfl ?_
        refine z_get dX10_ranked_39 fX10_10.r (hC.1 _ (by decide)) rfl ?_
        refine z_iload_n dX10_ranked_42 rfl ?_
        refine z_aload_n dX10_ranked_43 rfl ?_
        refine z_get dX10_ranked_44 fX10_62.r (hC.1 _ (by decide)) rfl ?_
        refine z_V2 (mi' := mX6_floodAtRank) dX10_ranked_47 lX10_318 nX6_floodAtRank kX6_floodAtRank (by decide) (Nat.le_of_ble_eq_true rfl) (Nat.zero_le _) (Nat.zero_le _) ((hC.2.1 0 (by decide)).1 _ (by decide)) rfl rfl ?_
        refine sX6_floodAtRank (hC.2.1 0 (by decide)) hN (hC.1 8 (by decide)) hF12 (by decide) ?_
        refine z_istore_n dX10_ranked_50 (by decide) rfl ?_
        refine z_iload_n dX10_ranked_51 rfl ?_
        refine z_if_ge (tgt := 66) dX10_ranked_52 (by decide) (fun c2 => ?_) (fun c2 => ?_)
        · refine z_iload_n dX10_ranked_66 rfl ?_
          exact z_ireturn (mi := mX10_ranked) dX10_ranked_67 rfl rfl (Nat.zero_le _) (Nat.zero_le _) (hP _ _ _ (zrk_y c2 (zranked hB hY hS6 hF12 (cr := zfcr γ (zcred (ρ 0) E F S) i 4) (fun f hf => (congrFun (zrw_s γ 4 _) f).trans (if_pos (by omega))) x)) hC (fun r hr => zrw_n hr) hQ)
        · exact z_throwN (mi := mX10_ranked) (i := 28) rfl rfl rfl dX10_ranked_55 dX10_ranked_58 (Or.inr ⟨dX10_ranked_59, dX10_ranked_62, dX10_ranked_65⟩) (Nat.le_of_ble_eq_true rfl) (Nat.le_of_ble_eq_true rfl) (Nat.le_of_ble_eq_true rfl) (hP _ _ _ (zrk_n hF12 c2 (zranked hB hY hS6 hF12 (cr := zfcr γ (zcred (ρ 0) E F S) i 4) (fun f hf => (congrFun (zrw_s γ 4 _) f).trans (if_pos (by omega))) x)) hC (fun r hr => zrw_n hr) hQ)
      · have hi9 := zltN (N := F) hF (by omega) (by omega) c1
        refine z_aload_n dX10_ranked_16 rfl ?_
        refine z_get dX10_ranked_17 fX10_62.r (hC.1 _ (by decide)) rfl ?_
        refine z_iload_n dX10_ranked_20 rfl ?_
        refine z_aload_n dX10_ranked_21 rfl ?_
        refine z_get dX10_ranked_22 fX10_10.r (hC.1 _ (by decide)) rfl ?_
        refine z_iload_n dX10_ranked_25 rfl ?_
        refine z_V1 (mi' := mX6_creditOf) dX10_ranked_26 lX10_244 nX6_creditOf kX6_creditOf (by decide) (Nat.le_of_ble_eq_true rfl) (Nat.zero_le _) (Nat.zero_le _) ((hC.2.1 0 (by decide)).1 _ (by decide)) rfl rfl ?_
        refine sX6_creditOf (hC.2.1 0 (by decide)) hN (show i < 12 by omega) ?_
        refine z_S3 (mi' := mX7_set) dX10_ranked_29 lX10_314 nX7_set kX7_set (by decide) (Nat.le_of_ble_eq_true rfl) (Nat.zero_le _) (Nat.zero_le _) ?_
        refine sX7_set (hC.1 8 (by decide)) (by decide) (show i < 12 by omega) ?_
        refine z_carr hC 4 i (zcred (ρ 0) E F S i) (by decide) (by decide) (by simp only [zclE, zu_row]) (fun G2 hC hF9 => ?_)
        have hQ := hQ.tr hF9
        refine z_iinc dX10_ranked_32 rfl rfl (by decide) rfl ?_
        refine z_goto (tgt := 2) dX10_ranked_35 (by decide) ?_
        exact z_sub (lv' := [some (.ref (ax 0)), some (.int x), some (.int (nI (i + 1)))]) ⟨rfl, rfl, zsl (zinc i), trivial⟩ (ih (i + 1) _ (by omega) (by omega) (by rw [← zfcr_s]; exact hC) hQ)
  refine z_iconst (v := 0) dX10_ranked_0 (by decide) ?_
  refine z_istore_n dX10_ranked_1 (by decide) rfl ?_
  exact z_sub (lv' := [some (.ref (ax 0)), some (.int x), some (.int (nI 0))]) ⟨rfl, rfl, rfl, trivial⟩ (key (F + 1) 0 G (by omega) (by omega) (by rw [zfcr_0]; exact hC) hQ)
set_option maxHeartbeats 4000000 in
set_option maxRecDepth 10000 in
theorem sX10_estimate {Γ : zG} {d : Nat} {G : zH} {ax : Nat → Nat} {bq m : Nat} {ρ : Nat → zSt} {γ : zSt} (hC : zCls G ax bq m ρ γ) {S F E K : Nat} (hN : zN (ρ 0) S F E K) {Y : Int} (hB : zBnd (ρ 0) S F E K Y) {Post : zP} {x : Int32} (hP : Post (zoEst (ρ 0) E F S x) G) : zMX Γ (d + 4) mX10_estimate 1 6 [.ref (ax 0), .int x] G Post := by
  refine zMX_of pnX10 rfl (Nat.le_of_ble_eq_true rfl) rfl ?_
  obtain ⟨hS, hS6, hF, hF12, hE, hE4, hK, hK3⟩ := id hN
  refine z_aload_n dX10_estimate_0 rfl ?_
  refine z_get dX10_estimate_1 fX10_10.r (hC.1 _ (by decide)) rfl ?_
  refine z_get dX10_estimate_4 fX10_96 ((hC.2.1 0 (by decide)).1 _ (by decide)) rfl ?_
  refine z_iload_n dX10_estimate_7 rfl ?_
  refine z_V1 (mi' := mX2_has) dX10_estimate_8 lX10_226 nX2_has kX2_has (by decide) (Nat.le_of_ble_eq_true rfl) (Nat.zero_le _) (Nat.zero_le _) ((hC.2.1 0 (by decide)).1 _ (by decide)) rfl rfl ?_
  refine sX2_has (hC.2.1 0 (by decide)) ?_
  refine z_if_ne (tgt := 24) dX10_estimate_11 (by decide) (fun c1 => ?_) (fun c1 => ?_)
  · have e11 := zb_n.mp c1
    obtain ⟨f, hf, rfl⟩ := zhas (n := F) (by omega) (by rw [← hF]; exact e11)
    refine z_aload_n dX10_estimate_24 rfl ?_
    refine z_get dX10_estimate_25 fX10_10.r (hC.1 _ (by decide)) rfl ?_
    refine z_get dX10_estimate_28 fX10_145 ((hC.2.1 0 (by decide)).1 _ (by decide)) rfl ?_
    refine z_iload_n dX10_estimate_31 rfl ?_
    refine z_V1 (mi' := mX4_countFor) dX10_estimate_32 lX10_238 nX4_countFor kX4_countFor (by decide) (Nat.le_of_ble_eq_true rfl) (Nat.zero_le _) (Nat.zero_le _) ((hC.2.1 0 (by decide)).1 _ (by decide)) rfl rfl ?_
    refine sX4_countFor (hC.2.1 0 (by decide)) (show f < 12 by omega) ?_
    refine z_istore_n dX10_estimate_35 (by decide) rfl ?_
    refine z_iload_n dX10_estimate_36 rfl ?_
    refine z_if_ne (tgt := 51) dX10_estimate_37 (by decide) (fun c2 => ?_) (fun c2 => ?_)
    · refine z_aload_n dX10_estimate_51 rfl ?_
      refine z_get dX10_estimate_52 fX10_10.r (hC.1 _ (by decide)) rfl ?_
      refine z_iload_n dX10_estimate_55 rfl ?_
      refine z_V1 (mi' := mX6_crestsTold) dX10_estimate_56 lX10_408 nX6_crestsTold kX6_crestsTold (by decide) (Nat.le_of_ble_eq_true rfl) (Nat.zero_le _) (Nat.zero_le _) ((hC.2.1 0 (by decide)).1 _ (by decide)) rfl rfl ?_
      refine sX6_crestsTold (hC.2.1 0 (by decide)) hN (show f < 12 by omega) ?_
      refine z_i2d dX10_estimate_59 ?_
      refine z_iload_n dX10_estimate_60 rfl ?_
      refine z_i2d dX10_estimate_61 ?_
      refine z_ddiv dX10_estimate_62 (zfpd (by have := hB.told hf hS6 S (Nat.le_refl S); unfold zBet at this; omega) (Nat.pos_of_ne_zero (fun q => c2 (by rw [q]; rfl))) (zct_le _ 6)) ?_
      exact z_dreturn (mi := mX10_estimate) dX10_estimate_63 rfl (Nat.zero_le _) (Nat.zero_le _) (by rw [zoEst, if_neg (not_not_intro e11), nI_clamp (show f < 2 ^ 31 by omega), if_neg c2] at hP; exact hP)
    · exact z_throwW (mi := mX10_estimate) (cls := "java/lang/ArithmeticException") (ic := 407) (i := 35) rfl (by decide) gX10_403 rfl rfl dX10_estimate_40 dX10_estimate_43 dX10_estimate_44 dX10_estimate_47 dX10_estimate_50 (Nat.le_of_ble_eq_true rfl) (Nat.le_of_ble_eq_true rfl) (Nat.le_of_ble_eq_true rfl) (by rw [zoEst, if_neg (not_not_intro e11), nI_clamp (show f < 2 ^ 31 by omega), if_pos c2] at hP; exact hP)
  · have e11 := zb_0.mp c1
    exact z_throw (mi := mX10_estimate) (cls := "java/lang/IndexOutOfBoundsException") (ic := 196) (i := 18) rfl (by decide) gX10_192 rfl rfl dX10_estimate_14 dX10_estimate_17 dX10_estimate_18 dX10_estimate_20 dX10_estimate_23 (Nat.le_of_ble_eq_true rfl) (Nat.le_of_ble_eq_true rfl) (Nat.le_of_ble_eq_true rfl) (by rw [zoEst, if_pos e11] at hP; exact hP)
set_option maxHeartbeats 4000000 in
set_option maxRecDepth 10000 in
theorem sX10_meanEdge {Γ : zG} {d : Nat} {G : zH} {ax : Nat → Nat} {bq m : Nat} {ρ : Nat → zSt} {γ : zSt} (hC : zCls G ax bq m ρ γ) {S F E K : Nat} (hN : zN (ρ 0) S F E K) {Y : Int} (hB : zBnd (ρ 0) S F E K Y) {Post : zP} (hP : Post (zoMean (ρ 0) K) G) : zMX Γ (d + 2) mX10_meanEdge 1 6 [.ref (ax 0)] G Post := by
  refine zMX_of pnX10 rfl (Nat.le_of_ble_eq_true rfl) rfl ?_
  obtain ⟨hS, hS6, hF, hF12, hE, hE4, hK, hK3⟩ := id hN
  refine z_aload_n dX10_meanEdge_0 rfl ?_
  refine z_get dX10_meanEdge_1 fX10_10.r (hC.1 _ (by decide)) rfl ?_
  refine z_get dX10_meanEdge_4 fX10_123 ((hC.2.1 0 (by decide)).1 _ (by decide)) rfl ?_
  refine z_get dX10_meanEdge_7 fX10_411.r ((hC.2.1 0 (by decide)).1 _ (by decide)) rfl ?_
  refine z_istore_n dX10_meanEdge_10 (by decide) rfl ?_
  refine z_iload_n dX10_meanEdge_11 rfl ?_
  refine z_if_ne (tgt := 26) dX10_meanEdge_12 (by decide) (fun c1 => ?_) (fun c1 => ?_)
  · refine z_aload_n dX10_meanEdge_26 rfl ?_
    refine z_get dX10_meanEdge_27 fX10_10.r (hC.1 _ (by decide)) rfl ?_
    refine z_get dX10_meanEdge_30 fX10_123 ((hC.2.1 0 (by decide)).1 _ (by decide)) rfl ?_
    refine z_V0 (mi' := mX0_sum) dX10_meanEdge_33 lX10_414 nX0_sum kX0_sum (by decide) (Nat.le_of_ble_eq_true rfl) (Nat.zero_le _) (Nat.zero_le _) ((hC.2.1 0 (by decide)).1 _ (by decide)) rfl rfl ?_
    refine sX0_sum (hC.2.1 0 (by decide)) hN ?_
    refine z_i2f dX10_meanEdge_36 ?_
    refine z_iload_n dX10_meanEdge_37 rfl ?_
    refine z_i2f dX10_meanEdge_38 ?_
    rw [hK]
    refine z_fdiv dX10_meanEdge_39 (zfpf (zBet_up (hB.edges hK3 K (Nat.le_refl K)) (by omega)) (Nat.pos_of_ne_zero (fun q => c1 (by rw [hK, q]; rfl))) hK3) ?_
    exact z_freturn (mi := mX10_meanEdge) dX10_meanEdge_40 rfl (Nat.zero_le _) (Nat.zero_le _) (by rw [zoMean, if_neg c1, hK] at hP; exact hP)
  · exact z_throwW (mi := mX10_meanEdge) (cls := "java/lang/ArithmeticException") (ic := 407) (i := 36) rfl (by decide) gX10_403 rfl rfl dX10_meanEdge_15 dX10_meanEdge_18 dX10_meanEdge_19 dX10_meanEdge_22 dX10_meanEdge_25 (Nat.le_of_ble_eq_true rfl) (Nat.le_of_ble_eq_true rfl) (Nat.le_of_ble_eq_true rfl) (by rw [zoMean, if_pos c1] at hP; exact hP)
set_option maxHeartbeats 4000000 in
set_option maxRecDepth 10000 in
theorem sX9_kindOf {Γ : zG} {d : Nat} {G : zH} {ax : Nat → Nat} {bq m : Nat} {ρ : Nat → zSt} {γ : zSt} (hC : zCls G ax bq m ρ γ) {Post : zV} {j : Nat} (hj : j < 60) (hP : Post (some (.int (γ 2 j))) G) : zM Γ (d + 1) mX9_kindOf 0 0 [.ref (ax 4), .int (nI j)] G Post := by
  refine zM_of pnX9 rfl (Nat.le_of_ble_eq_true rfl) rfl ?_
  refine z_aload_n dX9_kindOf_0 rfl ?_
  refine z_get dX9_kindOf_1 fX9_17.r (hC.1 _ (by decide)) rfl ?_
  refine z_iload_n dX9_kindOf_4 rfl ?_
  refine z_S2 (mi' := mX7_at) dX9_kindOf_5 lX9_30 nX7_at kX7_at (by decide) (Nat.le_of_ble_eq_true rfl) (Nat.le_refl _) (Nat.le_refl _) ?_
  refine sX7_at (hC.1 6 (by decide)) (by decide) hj ?_
  exact z_ireturn (mi := mX9_kindOf) dX9_kindOf_8 rfl rfl (Nat.le_refl _) (Nat.le_refl _) (hP)
set_option maxHeartbeats 4000000 in
set_option maxRecDepth 10000 in
theorem sX9_numberOf {Γ : zG} {d : Nat} {G : zH} {ax : Nat → Nat} {bq m : Nat} {ρ : Nat → zSt} {γ : zSt} (hC : zCls G ax bq m ρ γ) {Post : zV} {j w : Nat} (hj : 3 * j + w < 180) (hP : Post (some (.int (γ 3 (3 * j + w)))) G) : zM Γ (d + 1) mX9_numberOf 0 0 [.ref (ax 4), .int (nI j), .int (nI w)] G Post := by
  refine zM_of pnX9 rfl (Nat.le_of_ble_eq_true rfl) rfl ?_
  refine z_aload_n dX9_numberOf_0 rfl ?_
  refine z_get dX9_numberOf_1 fX9_21.r (hC.1 _ (by decide)) rfl ?_
  refine z_iload_n dX9_numberOf_4 rfl ?_
  refine z_iconst (v := 3) dX9_numberOf_5 (by decide) ?_
  refine z_imul dX9_numberOf_6 ?_
  refine z_iload_n dX9_numberOf_7 rfl ?_
  refine z_iadd dX9_numberOf_8 ?_
  refine z_S2 (mi' := mX7_at) dX9_numberOf_9 lX9_30 nX7_at kX7_at (by decide) (Nat.le_of_ble_eq_true rfl) (Nat.le_refl _) (Nat.le_refl _) ?_
  rw [show nI j * 3 + nI w = nI (3 * j + w) by rw [show (3 : Int32) = nI 3 from rfl, pk_mul, nI_add, Nat.mul_comm]]
  refine sX7_at (hC.1 7 (by decide)) (by decide) hj ?_
  exact z_ireturn (mi := mX9_numberOf) dX9_numberOf_12 rfl rfl (Nat.le_refl _) (Nat.le_refl _) (hP)
set_option maxHeartbeats 4000000 in
set_option maxRecDepth 10000 in
theorem sX10_isRefused {Γ : zG} {d : Nat} {G : zH} {ax : Nat → Nat} {bq m : Nat} {ρ : Nat → zSt} {γ : zSt} (hC : zCls G ax bq m ρ γ) {S F E K : Nat} (hN : zN (ρ 1) S F E K) {Post : zV} {x1 : Int32} {ns : List Int32} {j : Nat} (hj : j ≤ 20) (hk0 : γ 2 j = x1) (hu : ∀ i, i < ns.length → γ 3 (3 * j + i) = ns.getD i 0) (hwf : zwf (x1, ns)) (hN9 : zrX (ρ 1) E (x1, ns) = none → Post (some (.int 0)) G) (hR9 : ∀ rn rd, zrX (ρ 1) E (x1, ns) = some (rn, rd) → ∀ G1, zCls G1 ax bq m ρ (zref γ rn rd) → zFC G G1 ax bq → Post (some (.int 1)) G1) : zM Γ (d + 5) mX10_isRefused 0 0 [.ref (ax 0), .int (nI j)] G Post := by
  refine zM_of pnX10 rfl (Nat.le_of_ble_eq_true rfl) rfl ?_
  refine z_aload_n dX10_isRefused_0 rfl ?_
  refine z_get dX10_isRefused_1 fX10_45.r (hC.1 _ (by decide)) rfl ?_
  refine z_iload_n dX10_isRefused_4 rfl ?_
  refine z_iconst (v := 0) dX10_isRefused_5 (by decide) ?_
  refine z_V2 (mi' := mX9_numberOf) dX10_isRefused_6 lX10_368 nX9_numberOf kX9_numberOf (by decide) (Nat.le_of_ble_eq_true rfl) (Nat.le_refl _) (Nat.le_refl _) (hC.1 _ (by decide)) rfl rfl ?_
  refine sX9_numberOf hC (j := j) (w := 0) (by omega) ?_
  refine z_istore_n dX10_isRefused_9 (by decide) rfl ?_
  refine z_aload_n dX10_isRefused_10 rfl ?_
  refine z_get dX10_isRefused_11 fX10_45.r (hC.1 _ (by decide)) rfl ?_
  refine z_iload_n dX10_isRefused_14 rfl ?_
  refine z_iconst (v := 1) dX10_isRefused_15 (by decide) ?_
  refine z_V2 (mi' := mX9_numberOf) dX10_isRefused_16 lX10_368 nX9_numberOf kX9_numberOf (by decide) (Nat.le_of_ble_eq_true rfl) (Nat.le_refl _) (Nat.le_refl _) (hC.1 _ (by decide)) rfl rfl ?_
  refine sX9_numberOf hC (j := j) (w := 1) (by omega) ?_
  refine z_istore_n dX10_isRefused_19 (by decide) rfl ?_
  refine z_aload_n dX10_isRefused_20 rfl ?_
  refine z_get dX10_isRefused_21 fX10_45.r (hC.1 _ (by decide)) rfl ?_
  refine z_iload_n dX10_isRefused_24 rfl ?_
  refine z_V1 (mi' := mX9_kindOf) dX10_isRefused_25 lX10_371 nX9_kindOf kX9_kindOf (by decide) (Nat.le_of_ble_eq_true rfl) (Nat.le_refl _) (Nat.le_refl _) (hC.1 _ (by decide)) rfl rfl ?_
  refine sX9_kindOf hC (show j < 60 by omega) ?_
  rw [hk0]
  by_cases t107 : x1 = 107
  · rw [t107]
    refine z_tableIn (tgt := 137) dX10_isRefused_28 (by decide) (by decide) rfl (by decide) ?_
    have tq : x1 = 107 := t107
    have hlen : ns.length = 1 := by rcases hwf with ⟨e, e2⟩ | ⟨e, e2⟩ | ⟨e, e2⟩ | ⟨e, e2⟩ | ⟨e, e2⟩ | ⟨e, e2⟩ <;> first | exact e2 | exact absurd (tq.symm.trans e) (by decide)
    have u0 : γ 3 (3 * j + 0) = ns.getD 0 0 := hu 0 (by omega)
    refine z_aload_n dX10_isRefused_137 rfl ?_
    refine z_get dX10_isRefused_138 fX10_16.r (hC.1 _ (by decide)) rfl ?_
    refine z_iload_n dX10_isRefused_141 rfl ?_
    refine z_aload_n dX10_isRefused_142 rfl ?_
    refine z_get dX10_isRefused_143 fX10_38.r (hC.1 _ (by decide)) rfl ?_
    refine z_V2 (mi' := mX6_refusesCheck) dX10_isRefused_146 lX10_164 nX6_refusesCheck kX6_refusesCheck (by decide) (Nat.le_of_ble_eq_true rfl) (Nat.le_refl _) (Nat.le_refl _) ((hC.2.1 1 (by decide)).1 _ (by decide)) rfl rfl ?_
    refine sX6_refusesCheck (hC.2.1 1 (by decide)) (hC.1 3 (by decide)) ?_ ?_
    · intro hz
      exact z_ireturn (mi := mX10_isRefused) dX10_isRefused_149 rfl rfl (Nat.le_refl _) (Nat.le_refl _) (hN9 (by rw [zrX_107 tq, ← u0]; exact hz))
    · intro rn rd hz
      exact z_ireturn (mi := mX10_isRefused) dX10_isRefused_149 rfl rfl (Nat.le_refl _) (Nat.le_refl _) (hR9 rn rd (by rw [zrX_107 tq, ← u0]; exact hz) _ (hC.ref rn rd) (zFC.set (by decide) _))
  by_cases t108 : x1 = 108
  · rw [t108]
    refine z_tableIn (tgt := 177) dX10_isRefused_28 (by decide) (by decide) rfl (by decide) ?_
    have tq : x1 = 121 := by rcases hwf with ⟨e, e2⟩ | ⟨e, e2⟩ | ⟨e, e2⟩ | ⟨e, e2⟩ | ⟨e, e2⟩ | ⟨e, e2⟩ <;> first | exact e | (exfalso; simp_all)
    have hlen : ns.length = 1 := by rcases hwf with ⟨e, e2⟩ | ⟨e, e2⟩ | ⟨e, e2⟩ | ⟨e, e2⟩ | ⟨e, e2⟩ | ⟨e, e2⟩ <;> first | exact e2 | exact absurd (tq.symm.trans e) (by decide)
    have u0 : γ 3 (3 * j + 0) = ns.getD 0 0 := hu 0 (by omega)
    refine z_aload_n dX10_isRefused_177 rfl ?_
    refine z_get dX10_isRefused_178 fX10_16.r (hC.1 _ (by decide)) rfl ?_
    refine z_iload_n dX10_isRefused_181 rfl ?_
    refine z_aload_n dX10_isRefused_182 rfl ?_
    refine z_get dX10_isRefused_183 fX10_38.r (hC.1 _ (by decide)) rfl ?_
    refine z_V2 (mi' := mX6_refusesYears) dX10_isRefused_186 lX10_180 nX6_refusesYears kX6_refusesYears (by decide) (Nat.le_of_ble_eq_true rfl) (Nat.le_refl _) (Nat.le_refl _) ((hC.2.1 1 (by decide)).1 _ (by decide)) rfl rfl ?_
    refine sX6_refusesYears (hC.2.1 1 (by decide)) (hC.1 3 (by decide)) ?_ ?_
    · intro hz
      exact z_ireturn (mi := mX10_isRefused) dX10_isRefused_189 rfl rfl (Nat.le_refl _) (Nat.le_refl _) (hN9 (by rw [zrX_121 tq, ← u0]; exact hz))
    · intro rn rd hz
      exact z_ireturn (mi := mX10_isRefused) dX10_isRefused_189 rfl rfl (Nat.le_refl _) (Nat.le_refl _) (hR9 rn rd (by rw [zrX_121 tq, ← u0]; exact hz) _ (hC.ref rn rd) (zFC.set (by decide) _))
  by_cases t109 : x1 = 109
  · rw [t109]
    refine z_tableIn (tgt := 100) dX10_isRefused_28 (by decide) (by decide) rfl (by decide) ?_
    have tq : x1 = 109 := t109
    have hlen : ns.length = 3 := by rcases hwf with ⟨e, e2⟩ | ⟨e, e2⟩ | ⟨e, e2⟩ | ⟨e, e2⟩ | ⟨e, e2⟩ | ⟨e, e2⟩ <;> first | exact e2 | exact absurd (tq.symm.trans e) (by decide)
    have u0 : γ 3 (3 * j + 0) = ns.getD 0 0 := hu 0 (by omega)
    have u1 : γ 3 (3 * j + 1) = ns.getD 1 0 := hu 1 (by omega)
    have u2 : γ 3 (3 * j + 2) = ns.getD 2 0 := hu 2 (by omega)
    refine z_aload_n dX10_isRefused_100 rfl ?_
    refine z_get dX10_isRefused_101 fX10_16.r (hC.1 _ (by decide)) rfl ?_
    refine z_iload_n dX10_isRefused_104 rfl ?_
    refine z_iload_n dX10_isRefused_105 rfl ?_
    refine z_aload_n dX10_isRefused_106 rfl ?_
    refine z_get dX10_isRefused_107 fX10_45.r (hC.1 _ (by decide)) rfl ?_
    refine z_iload_n dX10_isRefused_110 rfl ?_
    refine z_iconst (v := 2) dX10_isRefused_111 (by decide) ?_
    refine z_V2 (mi' := mX9_numberOf) dX10_isRefused_112 lX10_368 nX9_numberOf kX9_numberOf (by decide) (Nat.le_of_ble_eq_true rfl) (Nat.le_refl _) (Nat.le_refl _) (hC.1 _ (by decide)) rfl rfl ?_
    refine sX9_numberOf hC (j := j) (w := 2) (by omega) ?_
    refine z_aload_n dX10_isRefused_115 rfl ?_
    refine z_get dX10_isRefused_116 fX10_38.r (hC.1 _ (by decide)) rfl ?_
    refine z_V4 (mi' := mX6_refusesCut) dX10_isRefused_119 lX10_132 nX6_refusesCut kX6_refusesCut (by decide) (Nat.le_of_ble_eq_true rfl) (Nat.le_refl _) (Nat.le_refl _) ((hC.2.1 1 (by decide)).1 _ (by decide)) rfl rfl ?_
    refine sX6_refusesCut (hC.2.1 1 (by decide)) hN (hC.1 3 (by decide)) ?_ ?_
    · intro hz
      exact z_ireturn (mi := mX10_isRefused) dX10_isRefused_122 rfl rfl (Nat.le_refl _) (Nat.le_refl _) (hN9 (by rw [zrX_109 tq, ← u0, ← u1, ← u2]; exact hz))
    · intro rn rd hz
      exact z_ireturn (mi := mX10_isRefused) dX10_isRefused_122 rfl rfl (Nat.le_refl _) (Nat.le_refl _) (hR9 rn rd (by rw [zrX_109 tq, ← u0, ← u1, ← u2]; exact hz) _ (hC.ref rn rd) (zFC.set (by decide) _))
  by_cases t110 : x1 = 110
  · rw [t110]
    refine z_tableIn (tgt := 177) dX10_isRefused_28 (by decide) (by decide) rfl (by decide) ?_
    have tq : x1 = 121 := by rcases hwf with ⟨e, e2⟩ | ⟨e, e2⟩ | ⟨e, e2⟩ | ⟨e, e2⟩ | ⟨e, e2⟩ | ⟨e, e2⟩ <;> first | exact e | (exfalso; simp_all)
    have hlen : ns.length = 1 := by rcases hwf with ⟨e, e2⟩ | ⟨e, e2⟩ | ⟨e, e2⟩ | ⟨e, e2⟩ | ⟨e, e2⟩ | ⟨e, e2⟩ <;> first | exact e2 | exact absurd (tq.symm.trans e) (by decide)
    have u0 : γ 3 (3 * j + 0) = ns.getD 0 0 := hu 0 (by omega)
    refine z_aload_n dX10_isRefused_177 rfl ?_
    refine z_get dX10_isRefused_178 fX10_16.r (hC.1 _ (by decide)) rfl ?_
    refine z_iload_n dX10_isRefused_181 rfl ?_
    refine z_aload_n dX10_isRefused_182 rfl ?_
    refine z_get dX10_isRefused_183 fX10_38.r (hC.1 _ (by decide)) rfl ?_
    refine z_V2 (mi' := mX6_refusesYears) dX10_isRefused_186 lX10_180 nX6_refusesYears kX6_refusesYears (by decide) (Nat.le_of_ble_eq_true rfl) (Nat.le_refl _) (Nat.le_refl _) ((hC.2.1 1 (by decide)).1 _ (by decide)) rfl rfl ?_
    refine sX6_refusesYears (hC.2.1 1 (by decide)) (hC.1 3 (by decide)) ?_ ?_
    · intro hz
      exact z_ireturn (mi := mX10_isRefused) dX10_isRefused_189 rfl rfl (Nat.le_refl _) (Nat.le_refl _) (hN9 (by rw [zrX_121 tq, ← u0]; exact hz))
    · intro rn rd hz
      exact z_ireturn (mi := mX10_isRefused) dX10_isRefused_189 rfl rfl (Nat.le_refl _) (Nat.le_refl _) (hR9 rn rd (by rw [zrX_121 tq, ← u0]; exact hz) _ (hC.ref rn rd) (zFC.set (by decide) _))
  by_cases t111 : x1 = 111
  · rw [t111]
    refine z_tableIn (tgt := 177) dX10_isRefused_28 (by decide) (by decide) rfl (by decide) ?_
    have tq : x1 = 121 := by rcases hwf with ⟨e, e2⟩ | ⟨e, e2⟩ | ⟨e, e2⟩ | ⟨e, e2⟩ | ⟨e, e2⟩ | ⟨e, e2⟩ <;> first | exact e | (exfalso; simp_all)
    have hlen : ns.length = 1 := by rcases hwf with ⟨e, e2⟩ | ⟨e, e2⟩ | ⟨e, e2⟩ | ⟨e, e2⟩ | ⟨e, e2⟩ | ⟨e, e2⟩ <;> first | exact e2 | exact absurd (tq.symm.trans e) (by decide)
    have u0 : γ 3 (3 * j + 0) = ns.getD 0 0 := hu 0 (by omega)
    refine z_aload_n dX10_isRefused_177 rfl ?_
    refine z_get dX10_isRefused_178 fX10_16.r (hC.1 _ (by decide)) rfl ?_
    refine z_iload_n dX10_isRefused_181 rfl ?_
    refine z_aload_n dX10_isRefused_182 rfl ?_
    refine z_get dX10_isRefused_183 fX10_38.r (hC.1 _ (by decide)) rfl ?_
    refine z_V2 (mi' := mX6_refusesYears) dX10_isRefused_186 lX10_180 nX6_refusesYears kX6_refusesYears (by decide) (Nat.le_of_ble_eq_true rfl) (Nat.le_refl _) (Nat.le_refl _) ((hC.2.1 1 (by decide)).1 _ (by decide)) rfl rfl ?_
    refine sX6_refusesYears (hC.2.1 1 (by decide)) (hC.1 3 (by decide)) ?_ ?_
    · intro hz
      exact z_ireturn (mi := mX10_isRefused) dX10_isRefused_189 rfl rfl (Nat.le_refl _) (Nat.le_refl _) (hN9 (by rw [zrX_121 tq, ← u0]; exact hz))
    · intro rn rd hz
      exact z_ireturn (mi := mX10_isRefused) dX10_isRefused_189 rfl rfl (Nat.le_refl _) (Nat.le_refl _) (hR9 rn rd (by rw [zrX_121 tq, ← u0]; exact hz) _ (hC.ref rn rd) (zFC.set (by decide) _))
  by_cases t112 : x1 = 112
  · rw [t112]
    refine z_tableIn (tgt := 177) dX10_isRefused_28 (by decide) (by decide) rfl (by decide) ?_
    have tq : x1 = 121 := by rcases hwf with ⟨e, e2⟩ | ⟨e, e2⟩ | ⟨e, e2⟩ | ⟨e, e2⟩ | ⟨e, e2⟩ | ⟨e, e2⟩ <;> first | exact e | (exfalso; simp_all)
    have hlen : ns.length = 1 := by rcases hwf with ⟨e, e2⟩ | ⟨e, e2⟩ | ⟨e, e2⟩ | ⟨e, e2⟩ | ⟨e, e2⟩ | ⟨e, e2⟩ <;> first | exact e2 | exact absurd (tq.symm.trans e) (by decide)
    have u0 : γ 3 (3 * j + 0) = ns.getD 0 0 := hu 0 (by omega)
    refine z_aload_n dX10_isRefused_177 rfl ?_
    refine z_get dX10_isRefused_178 fX10_16.r (hC.1 _ (by decide)) rfl ?_
    refine z_iload_n dX10_isRefused_181 rfl ?_
    refine z_aload_n dX10_isRefused_182 rfl ?_
    refine z_get dX10_isRefused_183 fX10_38.r (hC.1 _ (by decide)) rfl ?_
    refine z_V2 (mi' := mX6_refusesYears) dX10_isRefused_186 lX10_180 nX6_refusesYears kX6_refusesYears (by decide) (Nat.le_of_ble_eq_true rfl) (Nat.le_refl _) (Nat.le_refl _) ((hC.2.1 1 (by decide)).1 _ (by decide)) rfl rfl ?_
    refine sX6_refusesYears (hC.2.1 1 (by decide)) (hC.1 3 (by decide)) ?_ ?_
    · intro hz
      exact z_ireturn (mi := mX10_isRefused) dX10_isRefused_189 rfl rfl (Nat.le_refl _) (Nat.le_refl _) (hN9 (by rw [zrX_121 tq, ← u0]; exact hz))
    · intro rn rd hz
      exact z_ireturn (mi := mX10_isRefused) dX10_isRefused_189 rfl rfl (Nat.le_refl _) (Nat.le_refl _) (hR9 rn rd (by rw [zrX_121 tq, ← u0]; exact hz) _ (hC.ref rn rd) (zFC.set (by decide) _))
  by_cases t113 : x1 = 113
  · rw [t113]
    refine z_tableIn (tgt := 177) dX10_isRefused_28 (by decide) (by decide) rfl (by decide) ?_
    have tq : x1 = 121 := by rcases hwf with ⟨e, e2⟩ | ⟨e, e2⟩ | ⟨e, e2⟩ | ⟨e, e2⟩ | ⟨e, e2⟩ | ⟨e, e2⟩ <;> first | exact e | (exfalso; simp_all)
    have hlen : ns.length = 1 := by rcases hwf with ⟨e, e2⟩ | ⟨e, e2⟩ | ⟨e, e2⟩ | ⟨e, e2⟩ | ⟨e, e2⟩ | ⟨e, e2⟩ <;> first | exact e2 | exact absurd (tq.symm.trans e) (by decide)
    have u0 : γ 3 (3 * j + 0) = ns.getD 0 0 := hu 0 (by omega)
    refine z_aload_n dX10_isRefused_177 rfl ?_
    refine z_get dX10_isRefused_178 fX10_16.r (hC.1 _ (by decide)) rfl ?_
    refine z_iload_n dX10_isRefused_181 rfl ?_
    refine z_aload_n dX10_isRefused_182 rfl ?_
    refine z_get dX10_isRefused_183 fX10_38.r (hC.1 _ (by decide)) rfl ?_
    refine z_V2 (mi' := mX6_refusesYears) dX10_isRefused_186 lX10_180 nX6_refusesYears kX6_refusesYears (by decide) (Nat.le_of_ble_eq_true rfl) (Nat.le_refl _) (Nat.le_refl _) ((hC.2.1 1 (by decide)).1 _ (by decide)) rfl rfl ?_
    refine sX6_refusesYears (hC.2.1 1 (by decide)) (hC.1 3 (by decide)) ?_ ?_
    · intro hz
      exact z_ireturn (mi := mX10_isRefused) dX10_isRefused_189 rfl rfl (Nat.le_refl _) (Nat.le_refl _) (hN9 (by rw [zrX_121 tq, ← u0]; exact hz))
    · intro rn rd hz
      exact z_ireturn (mi := mX10_isRefused) dX10_isRefused_189 rfl rfl (Nat.le_refl _) (Nat.le_refl _) (hR9 rn rd (by rw [zrX_121 tq, ← u0]; exact hz) _ (hC.ref rn rd) (zFC.set (by decide) _))
  by_cases t114 : x1 = 114
  · rw [t114]
    refine z_tableIn (tgt := 177) dX10_isRefused_28 (by decide) (by decide) rfl (by decide) ?_
    have tq : x1 = 121 := by rcases hwf with ⟨e, e2⟩ | ⟨e, e2⟩ | ⟨e, e2⟩ | ⟨e, e2⟩ | ⟨e, e2⟩ | ⟨e, e2⟩ <;> first | exact e | (exfalso; simp_all)
    have hlen : ns.length = 1 := by rcases hwf with ⟨e, e2⟩ | ⟨e, e2⟩ | ⟨e, e2⟩ | ⟨e, e2⟩ | ⟨e, e2⟩ | ⟨e, e2⟩ <;> first | exact e2 | exact absurd (tq.symm.trans e) (by decide)
    have u0 : γ 3 (3 * j + 0) = ns.getD 0 0 := hu 0 (by omega)
    refine z_aload_n dX10_isRefused_177 rfl ?_
    refine z_get dX10_isRefused_178 fX10_16.r (hC.1 _ (by decide)) rfl ?_
    refine z_iload_n dX10_isRefused_181 rfl ?_
    refine z_aload_n dX10_isRefused_182 rfl ?_
    refine z_get dX10_isRefused_183 fX10_38.r (hC.1 _ (by decide)) rfl ?_
    refine z_V2 (mi' := mX6_refusesYears) dX10_isRefused_186 lX10_180 nX6_refusesYears kX6_refusesYears (by decide) (Nat.le_of_ble_eq_true rfl) (Nat.le_refl _) (Nat.le_refl _) ((hC.2.1 1 (by decide)).1 _ (by decide)) rfl rfl ?_
    refine sX6_refusesYears (hC.2.1 1 (by decide)) (hC.1 3 (by decide)) ?_ ?_
    · intro hz
      exact z_ireturn (mi := mX10_isRefused) dX10_isRefused_189 rfl rfl (Nat.le_refl _) (Nat.le_refl _) (hN9 (by rw [zrX_121 tq, ← u0]; exact hz))
    · intro rn rd hz
      exact z_ireturn (mi := mX10_isRefused) dX10_isRefused_189 rfl rfl (Nat.le_refl _) (Nat.le_refl _) (hR9 rn rd (by rw [zrX_121 tq, ← u0]; exact hz) _ (hC.ref rn rd) (zFC.set (by decide) _))
  by_cases t115 : x1 = 115
  · rw [t115]
    refine z_tableIn (tgt := 150) dX10_isRefused_28 (by decide) (by decide) rfl (by decide) ?_
    have tq : x1 = 115 := t115
    have hlen : ns.length = 1 := by rcases hwf with ⟨e, e2⟩ | ⟨e, e2⟩ | ⟨e, e2⟩ | ⟨e, e2⟩ | ⟨e, e2⟩ | ⟨e, e2⟩ <;> first | exact e2 | exact absurd (tq.symm.trans e) (by decide)
    have u0 : γ 3 (3 * j + 0) = ns.getD 0 0 := hu 0 (by omega)
    refine z_aload_n dX10_isRefused_150 rfl ?_
    refine z_get dX10_isRefused_151 fX10_16.r (hC.1 _ (by decide)) rfl ?_
    refine z_iload_n dX10_isRefused_154 rfl ?_
    refine z_aload_n dX10_isRefused_155 rfl ?_
    refine z_get dX10_isRefused_156 fX10_38.r (hC.1 _ (by decide)) rfl ?_
    refine z_V2 (mi' := mX6_refusesSharpen) dX10_isRefused_159 lX10_154 nX6_refusesSharpen kX6_refusesSharpen (by decide) (Nat.le_of_ble_eq_true rfl) (Nat.le_refl _) (Nat.le_refl _) ((hC.2.1 1 (by decide)).1 _ (by decide)) rfl rfl ?_
    refine sX6_refusesSharpen (hC.2.1 1 (by decide)) (hC.1 3 (by decide)) ?_ ?_
    · intro hz
      exact z_ireturn (mi := mX10_isRefused) dX10_isRefused_162 rfl rfl (Nat.le_refl _) (Nat.le_refl _) (hN9 (by rw [zrX_115 tq, ← u0]; exact hz))
    · intro rn rd hz
      exact z_ireturn (mi := mX10_isRefused) dX10_isRefused_162 rfl rfl (Nat.le_refl _) (Nat.le_refl _) (hR9 rn rd (by rw [zrX_115 tq, ← u0]; exact hz) _ (hC.ref rn rd) (zFC.set (by decide) _))
  by_cases t116 : x1 = 116
  · rw [t116]
    refine z_tableIn (tgt := 177) dX10_isRefused_28 (by decide) (by decide) rfl (by decide) ?_
    have tq : x1 = 121 := by rcases hwf with ⟨e, e2⟩ | ⟨e, e2⟩ | ⟨e, e2⟩ | ⟨e, e2⟩ | ⟨e, e2⟩ | ⟨e, e2⟩ <;> first | exact e | (exfalso; simp_all)
    have hlen : ns.length = 1 := by rcases hwf with ⟨e, e2⟩ | ⟨e, e2⟩ | ⟨e, e2⟩ | ⟨e, e2⟩ | ⟨e, e2⟩ | ⟨e, e2⟩ <;> first | exact e2 | exact absurd (tq.symm.trans e) (by decide)
    have u0 : γ 3 (3 * j + 0) = ns.getD 0 0 := hu 0 (by omega)
    refine z_aload_n dX10_isRefused_177 rfl ?_
    refine z_get dX10_isRefused_178 fX10_16.r (hC.1 _ (by decide)) rfl ?_
    refine z_iload_n dX10_isRefused_181 rfl ?_
    refine z_aload_n dX10_isRefused_182 rfl ?_
    refine z_get dX10_isRefused_183 fX10_38.r (hC.1 _ (by decide)) rfl ?_
    refine z_V2 (mi' := mX6_refusesYears) dX10_isRefused_186 lX10_180 nX6_refusesYears kX6_refusesYears (by decide) (Nat.le_of_ble_eq_true rfl) (Nat.le_refl _) (Nat.le_refl _) ((hC.2.1 1 (by decide)).1 _ (by decide)) rfl rfl ?_
    refine sX6_refusesYears (hC.2.1 1 (by decide)) (hC.1 3 (by decide)) ?_ ?_
    · intro hz
      exact z_ireturn (mi := mX10_isRefused) dX10_isRefused_189 rfl rfl (Nat.le_refl _) (Nat.le_refl _) (hN9 (by rw [zrX_121 tq, ← u0]; exact hz))
    · intro rn rd hz
      exact z_ireturn (mi := mX10_isRefused) dX10_isRefused_189 rfl rfl (Nat.le_refl _) (Nat.le_refl _) (hR9 rn rd (by rw [zrX_121 tq, ← u0]; exact hz) _ (hC.ref rn rd) (zFC.set (by decide) _))
  by_cases t117 : x1 = 117
  · rw [t117]
    refine z_tableIn (tgt := 177) dX10_isRefused_28 (by decide) (by decide) rfl (by decide) ?_
    have tq : x1 = 121 := by rcases hwf with ⟨e, e2⟩ | ⟨e, e2⟩ | ⟨e, e2⟩ | ⟨e, e2⟩ | ⟨e, e2⟩ | ⟨e, e2⟩ <;> first | exact e | (exfalso; simp_all)
    have hlen : ns.length = 1 := by rcases hwf with ⟨e, e2⟩ | ⟨e, e2⟩ | ⟨e, e2⟩ | ⟨e, e2⟩ | ⟨e, e2⟩ | ⟨e, e2⟩ <;> first | exact e2 | exact absurd (tq.symm.trans e) (by decide)
    have u0 : γ 3 (3 * j + 0) = ns.getD 0 0 := hu 0 (by omega)
    refine z_aload_n dX10_isRefused_177 rfl ?_
    refine z_get dX10_isRefused_178 fX10_16.r (hC.1 _ (by decide)) rfl ?_
    refine z_iload_n dX10_isRefused_181 rfl ?_
    refine z_aload_n dX10_isRefused_182 rfl ?_
    refine z_get dX10_isRefused_183 fX10_38.r (hC.1 _ (by decide)) rfl ?_
    refine z_V2 (mi' := mX6_refusesYears) dX10_isRefused_186 lX10_180 nX6_refusesYears kX6_refusesYears (by decide) (Nat.le_of_ble_eq_true rfl) (Nat.le_refl _) (Nat.le_refl _) ((hC.2.1 1 (by decide)).1 _ (by decide)) rfl rfl ?_
    refine sX6_refusesYears (hC.2.1 1 (by decide)) (hC.1 3 (by decide)) ?_ ?_
    · intro hz
      exact z_ireturn (mi := mX10_isRefused) dX10_isRefused_189 rfl rfl (Nat.le_refl _) (Nat.le_refl _) (hN9 (by rw [zrX_121 tq, ← u0]; exact hz))
    · intro rn rd hz
      exact z_ireturn (mi := mX10_isRefused) dX10_isRefused_189 rfl rfl (Nat.le_refl _) (Nat.le_refl _) (hR9 rn rd (by rw [zrX_121 tq, ← u0]; exact hz) _ (hC.ref rn rd) (zFC.set (by decide) _))
  by_cases t118 : x1 = 118
  · rw [t118]
    refine z_tableIn (tgt := 177) dX10_isRefused_28 (by decide) (by decide) rfl (by decide) ?_
    have tq : x1 = 121 := by rcases hwf with ⟨e, e2⟩ | ⟨e, e2⟩ | ⟨e, e2⟩ | ⟨e, e2⟩ | ⟨e, e2⟩ | ⟨e, e2⟩ <;> first | exact e | (exfalso; simp_all)
    have hlen : ns.length = 1 := by rcases hwf with ⟨e, e2⟩ | ⟨e, e2⟩ | ⟨e, e2⟩ | ⟨e, e2⟩ | ⟨e, e2⟩ | ⟨e, e2⟩ <;> first | exact e2 | exact absurd (tq.symm.trans e) (by decide)
    have u0 : γ 3 (3 * j + 0) = ns.getD 0 0 := hu 0 (by omega)
    refine z_aload_n dX10_isRefused_177 rfl ?_
    refine z_get dX10_isRefused_178 fX10_16.r (hC.1 _ (by decide)) rfl ?_
    refine z_iload_n dX10_isRefused_181 rfl ?_
    refine z_aload_n dX10_isRefused_182 rfl ?_
    refine z_get dX10_isRefused_183 fX10_38.r (hC.1 _ (by decide)) rfl ?_
    refine z_V2 (mi' := mX6_refusesYears) dX10_isRefused_186 lX10_180 nX6_refusesYears kX6_refusesYears (by decide) (Nat.le_of_ble_eq_true rfl) (Nat.le_refl _) (Nat.le_refl _) ((hC.2.1 1 (by decide)).1 _ (by decide)) rfl rfl ?_
    refine sX6_refusesYears (hC.2.1 1 (by decide)) (hC.1 3 (by decide)) ?_ ?_
    · intro hz
      exact z_ireturn (mi := mX10_isRefused) dX10_isRefused_189 rfl rfl (Nat.le_refl _) (Nat.le_refl _) (hN9 (by rw [zrX_121 tq, ← u0]; exact hz))
    · intro rn rd hz
      exact z_ireturn (mi := mX10_isRefused) dX10_isRefused_189 rfl rfl (Nat.le_refl _) (Nat.le_refl _) (hR9 rn rd (by rw [zrX_121 tq, ← u0]; exact hz) _ (hC.ref rn rd) (zFC.set (by decide) _))
  by_cases t119 : x1 = 119
  · rw [t119]
    refine z_tableIn (tgt := 163) dX10_isRefused_28 (by decide) (by decide) rfl (by decide) ?_
    have tq : x1 = 119 := t119
    have hlen : ns.length = 2 := by rcases hwf with ⟨e, e2⟩ | ⟨e, e2⟩ | ⟨e, e2⟩ | ⟨e, e2⟩ | ⟨e, e2⟩ | ⟨e, e2⟩ <;> first | exact e2 | exact absurd (tq.symm.trans e) (by decide)
    have u0 : γ 3 (3 * j + 0) = ns.getD 0 0 := hu 0 (by omega)
    have u1 : γ 3 (3 * j + 1) = ns.getD 1 0 := hu 1 (by omega)
    refine z_aload_n dX10_isRefused_163 rfl ?_
    refine z_get dX10_isRefused_164 fX10_16.r (hC.1 _ (by decide)) rfl ?_
    refine z_iload_n dX10_isRefused_167 rfl ?_
    refine z_iload_n dX10_isRefused_168 rfl ?_
    refine z_aload_n dX10_isRefused_169 rfl ?_
    refine z_get dX10_isRefused_170 fX10_38.r (hC.1 _ (by decide)) rfl ?_
    refine z_V3 (mi' := mX6_refusesWitness) dX10_isRefused_173 lX10_172 nX6_refusesWitness kX6_refusesWitness (by decide) (Nat.le_of_ble_eq_true rfl) (Nat.le_refl _) (Nat.le_refl _) ((hC.2.1 1 (by decide)).1 _ (by decide)) rfl rfl ?_
    refine sX6_refusesWitness (hC.2.1 1 (by decide)) hN (hC.1 3 (by decide)) ?_ ?_
    · intro hz
      exact z_ireturn (mi := mX10_isRefused) dX10_isRefused_176 rfl rfl (Nat.le_refl _) (Nat.le_refl _) (hN9 (by rw [zrX_119 tq, ← u0, ← u1]; exact hz))
    · intro rn rd hz
      exact z_ireturn (mi := mX10_isRefused) dX10_isRefused_176 rfl rfl (Nat.le_refl _) (Nat.le_refl _) (hR9 rn rd (by rw [zrX_119 tq, ← u0, ← u1]; exact hz) _ (hC.ref rn rd) (zFC.set (by decide) _))
  by_cases t120 : x1 = 120
  · rw [t120]
    refine z_tableIn (tgt := 123) dX10_isRefused_28 (by decide) (by decide) rfl (by decide) ?_
    have tq : x1 = 120 := t120
    have hlen : ns.length = 2 := by rcases hwf with ⟨e, e2⟩ | ⟨e, e2⟩ | ⟨e, e2⟩ | ⟨e, e2⟩ | ⟨e, e2⟩ | ⟨e, e2⟩ <;> first | exact e2 | exact absurd (tq.symm.trans e) (by decide)
    have u0 : γ 3 (3 * j + 0) = ns.getD 0 0 := hu 0 (by omega)
    have u1 : γ 3 (3 * j + 1) = ns.getD 1 0 := hu 1 (by omega)
    refine z_aload_n dX10_isRefused_123 rfl ?_
    refine z_get dX10_isRefused_124 fX10_16.r (hC.1 _ (by decide)) rfl ?_
    refine z_iload_n dX10_isRefused_127 rfl ?_
    refine z_iload_n dX10_isRefused_128 rfl ?_
    refine z_aload_n dX10_isRefused_129 rfl ?_
    refine z_get dX10_isRefused_130 fX10_38.r (hC.1 _ (by decide)) rfl ?_
    refine z_V3 (mi' := mX6_refusesEfface) dX10_isRefused_133 lX10_140 nX6_refusesEfface kX6_refusesEfface (by decide) (Nat.le_of_ble_eq_true rfl) (Nat.le_refl _) (Nat.le_refl _) ((hC.2.1 1 (by decide)).1 _ (by decide)) rfl rfl ?_
    refine sX6_refusesEfface (hC.2.1 1 (by decide)) hN (hC.1 3 (by decide)) ?_ ?_
    · intro hz
      exact z_ireturn (mi := mX10_isRefused) dX10_isRefused_136 rfl rfl (Nat.le_refl _) (Nat.le_refl _) (hN9 (by rw [zrX_120 tq, ← u0, ← u1]; exact hz))
    · intro rn rd hz
      exact z_ireturn (mi := mX10_isRefused) dX10_isRefused_136 rfl rfl (Nat.le_refl _) (Nat.le_refl _) (hR9 rn rd (by rw [zrX_120 tq, ← u0, ← u1]; exact hz) _ (hC.ref rn rd) (zFC.set (by decide) _))
  refine z_tableOut (tgt := 177) dX10_isRefused_28 (by have u107 := lv_neT (a := 107) t107 (by decide); have u108 := lv_neT (a := 108) t108 (by decide); have u109 := lv_neT (a := 109) t109 (by decide); have u110 := lv_neT (a := 110) t110 (by decide); have u111 := lv_neT (a := 111) t111 (by decide); have u112 := lv_neT (a := 112) t112 (by decide); have u113 := lv_neT (a := 113) t113 (by decide); have u114 := lv_neT (a := 114) t114 (by decide); have u115 := lv_neT (a := 115) t115 (by decide); have u116 := lv_neT (a := 116) t116 (by decide); have u117 := lv_neT (a := 117) t117 (by decide); have u118 := lv_neT (a := 118) t118 (by decide); have u119 := lv_neT (a := 119) t119 (by decide); have u120 := lv_neT (a := 120) t120 (by decide); omega) (by decide) ?_
  have tq : x1 = 121 := by rcases hwf with ⟨e, e2⟩ | ⟨e, e2⟩ | ⟨e, e2⟩ | ⟨e, e2⟩ | ⟨e, e2⟩ | ⟨e, e2⟩ <;> first | exact e | (exfalso; simp_all)
  have hlen : ns.length = 1 := by rcases hwf with ⟨e, e2⟩ | ⟨e, e2⟩ | ⟨e, e2⟩ | ⟨e, e2⟩ | ⟨e, e2⟩ | ⟨e, e2⟩ <;> first | exact e2 | exact absurd (tq.symm.trans e) (by decide)
  have u0 : γ 3 (3 * j + 0) = ns.getD 0 0 := hu 0 (by omega)
  refine z_aload_n dX10_isRefused_177 rfl ?_
  refine z_get dX10_isRefused_178 fX10_16.r (hC.1 _ (by decide)) rfl ?_
  refine z_iload_n dX10_isRefused_181 rfl ?_
  refine z_aload_n dX10_isRefused_182 rfl ?_
  refine z_get dX10_isRefused_183 fX10_38.r (hC.1 _ (by decide)) rfl ?_
  refine z_V2 (mi' := mX6_refusesYears) dX10_isRefused_186 lX10_180 nX6_refusesYears kX6_refusesYears (by decide) (Nat.le_of_ble_eq_true rfl) (Nat.le_refl _) (Nat.le_refl _) ((hC.2.1 1 (by decide)).1 _ (by decide)) rfl rfl ?_
  refine sX6_refusesYears (hC.2.1 1 (by decide)) (hC.1 3 (by decide)) ?_ ?_
  · intro hz
    exact z_ireturn (mi := mX10_isRefused) dX10_isRefused_189 rfl rfl (Nat.le_refl _) (Nat.le_refl _) (hN9 (by rw [zrX_121 tq, ← u0]; exact hz))
  · intro rn rd hz
    exact z_ireturn (mi := mX10_isRefused) dX10_isRefused_189 rfl rfl (Nat.le_refl _) (Nat.le_refl _) (hR9 rn rd (by rw [zrX_121 tq, ← u0]; exact hz) _ (hC.ref rn rd) (zFC.set (by decide) _))
set_option maxHeartbeats 4000000 in
set_option maxRecDepth 10000 in
theorem sX10_carryOut {Γ : zG} {d : Nat} {G : zH} {ax : Nat → Nat} {bq m : Nat} {ρ : Nat → zSt} {γ : zSt} (hC : zCls G ax bq m ρ γ) {S F E K : Nat} (hN : zN (ρ 1) S F E K) {Post : zV} {x1 : Int32} {ns : List Int32} {j : Nat} (hj : j ≤ 20) (hk0 : γ 2 j = x1) (hu : ∀ i, i < ns.length → γ 3 (3 * j + i) = ns.getD i 0) (hwf : zwf (x1, ns)) (hz : zrX (ρ 1) E (x1, ns) = none) (hP : ∀ G1, zCls G1 ax bq m (zrv ρ 1 (znx (ρ 1) E S (x1, ns))) γ → zFC G G1 ax bq → Post none G1) : zM Γ (d + 5) mX10_carryOut 0 0 [.ref (ax 0), .int (nI j)] G Post := by
  refine zM_of pnX10 rfl (Nat.le_of_ble_eq_true rfl) rfl ?_
  obtain ⟨hS, hS6, hF, hF12, hE, hE4, hK, hK3⟩ := id hN
  have hQ : zFC G G ax bq := zFC.rf
  refine z_aload_n dX10_carryOut_0 rfl ?_
  refine z_get dX10_carryOut_1 fX10_45.r (hC.1 _ (by decide)) rfl ?_
  refine z_iload_n dX10_carryOut_4 rfl ?_
  refine z_iconst (v := 0) dX10_carryOut_5 (by decide) ?_
  refine z_V2 (mi' := mX9_numberOf) dX10_carryOut_6 lX10_368 nX9_numberOf kX9_numberOf (by decide) (Nat.le_of_ble_eq_true rfl) (Nat.le_refl _) (Nat.le_refl _) (hC.1 _ (by decide)) rfl rfl ?_
  refine sX9_numberOf hC (j := j) (w := 0) (by omega) ?_
  refine z_istore_n dX10_carryOut_9 (by decide) rfl ?_
  refine z_aload_n dX10_carryOut_10 rfl ?_
  refine z_get dX10_carryOut_11 fX10_45.r (hC.1 _ (by decide)) rfl ?_
  refine z_iload_n dX10_carryOut_14 rfl ?_
  refine z_iconst (v := 1) dX10_carryOut_15 (by decide) ?_
  refine z_V2 (mi' := mX9_numberOf) dX10_carryOut_16 lX10_368 nX9_numberOf kX9_numberOf (by decide) (Nat.le_of_ble_eq_true rfl) (Nat.le_refl _) (Nat.le_refl _) (hC.1 _ (by decide)) rfl rfl ?_
  refine sX9_numberOf hC (j := j) (w := 1) (by omega) ?_
  refine z_istore_n dX10_carryOut_19 (by decide) rfl ?_
  refine z_aload_n dX10_carryOut_20 rfl ?_
  refine z_get dX10_carryOut_21 fX10_45.r (hC.1 _ (by decide)) rfl ?_
  refine z_iload_n dX10_carryOut_24 rfl ?_
  refine z_V1 (mi' := mX9_kindOf) dX10_carryOut_25 lX10_371 nX9_kindOf kX9_kindOf (by decide) (Nat.le_of_ble_eq_true rfl) (Nat.le_refl _) (Nat.le_refl _) (hC.1 _ (by decide)) rfl rfl ?_
  refine sX9_kindOf hC (show j < 60 by omega) ?_
  rw [hk0]
  by_cases t107 : x1 = 107
  · rw [t107]
    refine z_tableIn (tgt := 138) dX10_carryOut_28 (by decide) (by decide) rfl (by decide) ?_
    have tq : x1 = 107 := t107
    have hlen : ns.length = 1 := by rcases hwf with ⟨e, e2⟩ | ⟨e, e2⟩ | ⟨e, e2⟩ | ⟨e, e2⟩ | ⟨e, e2⟩ | ⟨e, e2⟩ <;> first | exact e2 | exact absurd (tq.symm.trans e) (by decide)
    have u0 : γ 3 (3 * j + 0) = ns.getD 0 0 := hu 0 (by omega)
    obtain ⟨s, hs, e1⟩ := zrCk_n hN (by rw [← zrX_107 tq]; exact hz)
    rw [u0, e1]
    refine z_aload_n dX10_carryOut_138 rfl ?_
    refine z_get dX10_carryOut_139 fX10_16.r (hC.1 _ (by decide)) rfl ?_
    refine z_get dX10_carryOut_142 fX10_81 ((hC.2.1 1 (by decide)).1 _ (by decide)) rfl ?_
    refine z_iload_n dX10_carryOut_145 rfl ?_
    refine z_V1 (mi' := mX8_setRight) dX10_carryOut_146 lX10_169 nX8_setRight kX8_setRight (by decide) (Nat.le_of_ble_eq_true rfl) (Nat.le_refl _) (Nat.le_refl _) ((hC.2.1 1 (by decide)).1 _ (by decide)) rfl rfl ?_
    refine sX8_setRight (hC.2.1 1 (by decide)) (show s < 6 by omega) (fun _ hR hF => ?_)
    have hC := hC.riv (r := 1) (by decide) hR hF
    have hQ := hQ.tr (zFC.frm (by decide) hF)
    refine z_pop dX10_carryOut_149 rfl ?_
    refine z_goto (tgt := 193) dX10_carryOut_150 (by decide) ?_
    exact z_vreturn (mi := mX10_carryOut) dX10_carryOut_193 rfl (Nat.le_refl _) (Nat.le_refl _) (by rw [znx_107 tq, e1, nI_clamp (show s < 2147483648 by omega)] at hP; exact hP _ hC hQ)
  by_cases t108 : x1 = 108
  · rw [t108]
    refine z_tableIn (tgt := 184) dX10_carryOut_28 (by decide) (by decide) rfl (by decide) ?_
    have tq : x1 = 121 := by rcases hwf with ⟨e, e2⟩ | ⟨e, e2⟩ | ⟨e, e2⟩ | ⟨e, e2⟩ | ⟨e, e2⟩ | ⟨e, e2⟩ <;> first | exact e | (exfalso; simp_all)
    have hlen : ns.length = 1 := by rcases hwf with ⟨e, e2⟩ | ⟨e, e2⟩ | ⟨e, e2⟩ | ⟨e, e2⟩ | ⟨e, e2⟩ | ⟨e, e2⟩ <;> first | exact e2 | exact absurd (tq.symm.trans e) (by decide)
    have u0 : γ 3 (3 * j + 0) = ns.getD 0 0 := hu 0 (by omega)
    obtain ⟨i, ⟨hi1, hi2⟩, e1⟩ := zrYe_n (by rw [← zrX_121 tq]; exact hz)
    rw [u0, e1]
    refine z_aload_n dX10_carryOut_184 rfl ?_
    refine z_get dX10_carryOut_185 fX10_16.r (hC.1 _ (by decide)) rfl ?_
    refine z_iload_n dX10_carryOut_188 rfl ?_
    refine z_V1 (mi' := mX6_passYears) dX10_carryOut_189 lX10_185 nX6_passYears kX6_passYears (by decide) (Nat.le_of_ble_eq_true rfl) (Nat.le_refl _) (Nat.le_refl _) ((hC.2.1 1 (by decide)).1 _ (by decide)) rfl rfl ?_
    refine sX6_passYears (hC.2.1 1 (by decide)) hN (show i < 2147483000 by omega) (fun _ hR hF => ?_)
    have hC := hC.riv (r := 1) (by decide) hR hF
    have hQ := hQ.tr (zFC.frm (by decide) hF)
    refine z_pop dX10_carryOut_192 rfl ?_
    exact z_vreturn (mi := mX10_carryOut) dX10_carryOut_193 rfl (Nat.le_refl _) (Nat.le_refl _) (by rw [znx_121 tq, e1, nI_clamp (show i < 2147483648 by omega)] at hP; exact hP _ hC hQ)
  by_cases t109 : x1 = 109
  · rw [t109]
    refine z_tableIn (tgt := 100) dX10_carryOut_28 (by decide) (by decide) rfl (by decide) ?_
    have tq : x1 = 109 := t109
    have hlen : ns.length = 3 := by rcases hwf with ⟨e, e2⟩ | ⟨e, e2⟩ | ⟨e, e2⟩ | ⟨e, e2⟩ | ⟨e, e2⟩ | ⟨e, e2⟩ <;> first | exact e2 | exact absurd (tq.symm.trans e) (by decide)
    have u0 : γ 3 (3 * j + 0) = ns.getD 0 0 := hu 0 (by omega)
    have u1 : γ 3 (3 * j + 1) = ns.getD 1 0 := hu 1 (by omega)
    have u2 : γ 3 (3 * j + 2) = ns.getD 2 0 := hu 2 (by omega)
    obtain ⟨s, f, c, ⟨hs, hf, hc9⟩, e1, e2, e3⟩ := zrCu_n hN (by rw [← zrX_109 tq]; exact hz)
    rw [u0, u1, e1, e2]
    refine z_aload_n dX10_carryOut_100 rfl ?_
    refine z_get dX10_carryOut_101 fX10_16.r (hC.1 _ (by decide)) rfl ?_
    refine z_iload_n dX10_carryOut_104 rfl ?_
    refine z_iload_n dX10_carryOut_105 rfl ?_
    refine z_aload_n dX10_carryOut_106 rfl ?_
    refine z_get dX10_carryOut_107 fX10_45.r (hC.1 _ (by decide)) rfl ?_
    refine z_iload_n dX10_carryOut_110 rfl ?_
    refine z_iconst (v := 2) dX10_carryOut_111 (by decide) ?_
    refine z_V2 (mi' := mX9_numberOf) dX10_carryOut_112 lX10_368 nX9_numberOf kX9_numberOf (by decide) (Nat.le_of_ble_eq_true rfl) (Nat.le_refl _) (Nat.le_refl _) (hC.1 _ (by decide)) rfl rfl ?_
    refine sX9_numberOf hC (j := j) (w := 2) (by omega) ?_
    rw [u2, e3]
    refine z_V3 (mi' := mX6_cutMark) dX10_carryOut_115 lX10_137 nX6_cutMark kX6_cutMark (by decide) (Nat.le_of_ble_eq_true rfl) (Nat.le_refl _) (Nat.le_refl _) ((hC.2.1 1 (by decide)).1 _ (by decide)) rfl rfl ?_
    refine sX6_cutMark (hC.2.1 1 (by decide)) hN (show s < 6 by omega) (show f < 12 by omega) (show c < 3 by omega) (fun _ hR hF => ?_)
    have hC := hC.riv (r := 1) (by decide) hR hF
    have hQ := hQ.tr (zFC.frm (by decide) hF)
    refine z_pop dX10_carryOut_118 rfl ?_
    refine z_goto (tgt := 193) dX10_carryOut_119 (by decide) ?_
    exact z_vreturn (mi := mX10_carryOut) dX10_carryOut_193 rfl (Nat.le_refl _) (Nat.le_refl _) (by rw [znx_109 tq, e1, e2, e3, nI_clamp (show s < 2147483648 by omega), nI_clamp (show f < 2147483648 by omega), nI_clamp (show c < 2147483648 by omega)] at hP; exact hP _ hC hQ)
  by_cases t110 : x1 = 110
  · rw [t110]
    refine z_tableIn (tgt := 184) dX10_carryOut_28 (by decide) (by decide) rfl (by decide) ?_
    have tq : x1 = 121 := by rcases hwf with ⟨e, e2⟩ | ⟨e, e2⟩ | ⟨e, e2⟩ | ⟨e, e2⟩ | ⟨e, e2⟩ | ⟨e, e2⟩ <;> first | exact e | (exfalso; simp_all)
    have hlen : ns.length = 1 := by rcases hwf with ⟨e, e2⟩ | ⟨e, e2⟩ | ⟨e, e2⟩ | ⟨e, e2⟩ | ⟨e, e2⟩ | ⟨e, e2⟩ <;> first | exact e2 | exact absurd (tq.symm.trans e) (by decide)
    have u0 : γ 3 (3 * j + 0) = ns.getD 0 0 := hu 0 (by omega)
    obtain ⟨i, ⟨hi1, hi2⟩, e1⟩ := zrYe_n (by rw [← zrX_121 tq]; exact hz)
    rw [u0, e1]
    refine z_aload_n dX10_carryOut_184 rfl ?_
    refine z_get dX10_carryOut_185 fX10_16.r (hC.1 _ (by decide)) rfl ?_
    refine z_iload_n dX10_carryOut_188 rfl ?_
    refine z_V1 (mi' := mX6_passYears) dX10_carryOut_189 lX10_185 nX6_passYears kX6_passYears (by decide) (Nat.le_of_ble_eq_true rfl) (Nat.le_refl _) (Nat.le_refl _) ((hC.2.1 1 (by decide)).1 _ (by decide)) rfl rfl ?_
    refine sX6_passYears (hC.2.1 1 (by decide)) hN (show i < 2147483000 by omega) (fun _ hR hF => ?_)
    have hC := hC.riv (r := 1) (by decide) hR hF
    have hQ := hQ.tr (zFC.frm (by decide) hF)
    refine z_pop dX10_carryOut_192 rfl ?_
    exact z_vreturn (mi := mX10_carryOut) dX10_carryOut_193 rfl (Nat.le_refl _) (Nat.le_refl _) (by rw [znx_121 tq, e1, nI_clamp (show i < 2147483648 by omega)] at hP; exact hP _ hC hQ)
  by_cases t111 : x1 = 111
  · rw [t111]
    refine z_tableIn (tgt := 184) dX10_carryOut_28 (by decide) (by decide) rfl (by decide) ?_
    have tq : x1 = 121 := by rcases hwf with ⟨e, e2⟩ | ⟨e, e2⟩ | ⟨e, e2⟩ | ⟨e, e2⟩ | ⟨e, e2⟩ | ⟨e, e2⟩ <;> first | exact e | (exfalso; simp_all)
    have hlen : ns.length = 1 := by rcases hwf with ⟨e, e2⟩ | ⟨e, e2⟩ | ⟨e, e2⟩ | ⟨e, e2⟩ | ⟨e, e2⟩ | ⟨e, e2⟩ <;> first | exact e2 | exact absurd (tq.symm.trans e) (by decide)
    have u0 : γ 3 (3 * j + 0) = ns.getD 0 0 := hu 0 (by omega)
    obtain ⟨i, ⟨hi1, hi2⟩, e1⟩ := zrYe_n (by rw [← zrX_121 tq]; exact hz)
    rw [u0, e1]
    refine z_aload_n dX10_carryOut_184 rfl ?_
    refine z_get dX10_carryOut_185 fX10_16.r (hC.1 _ (by decide)) rfl ?_
    refine z_iload_n dX10_carryOut_188 rfl ?_
    refine z_V1 (mi' := mX6_passYears) dX10_carryOut_189 lX10_185 nX6_passYears kX6_passYears (by decide) (Nat.le_of_ble_eq_true rfl) (Nat.le_refl _) (Nat.le_refl _) ((hC.2.1 1 (by decide)).1 _ (by decide)) rfl rfl ?_
    refine sX6_passYears (hC.2.1 1 (by decide)) hN (show i < 2147483000 by omega) (fun _ hR hF => ?_)
    have hC := hC.riv (r := 1) (by decide) hR hF
    have hQ := hQ.tr (zFC.frm (by decide) hF)
    refine z_pop dX10_carryOut_192 rfl ?_
    exact z_vreturn (mi := mX10_carryOut) dX10_carryOut_193 rfl (Nat.le_refl _) (Nat.le_refl _) (by rw [znx_121 tq, e1, nI_clamp (show i < 2147483648 by omega)] at hP; exact hP _ hC hQ)
  by_cases t112 : x1 = 112
  · rw [t112]
    refine z_tableIn (tgt := 184) dX10_carryOut_28 (by decide) (by decide) rfl (by decide) ?_
    have tq : x1 = 121 := by rcases hwf with ⟨e, e2⟩ | ⟨e, e2⟩ | ⟨e, e2⟩ | ⟨e, e2⟩ | ⟨e, e2⟩ | ⟨e, e2⟩ <;> first | exact e | (exfalso; simp_all)
    have hlen : ns.length = 1 := by rcases hwf with ⟨e, e2⟩ | ⟨e, e2⟩ | ⟨e, e2⟩ | ⟨e, e2⟩ | ⟨e, e2⟩ | ⟨e, e2⟩ <;> first | exact e2 | exact absurd (tq.symm.trans e) (by decide)
    have u0 : γ 3 (3 * j + 0) = ns.getD 0 0 := hu 0 (by omega)
    obtain ⟨i, ⟨hi1, hi2⟩, e1⟩ := zrYe_n (by rw [← zrX_121 tq]; exact hz)
    rw [u0, e1]
    refine z_aload_n dX10_carryOut_184 rfl ?_
    refine z_get dX10_carryOut_185 fX10_16.r (hC.1 _ (by decide)) rfl ?_
    refine z_iload_n dX10_carryOut_188 rfl ?_
    refine z_V1 (mi' := mX6_passYears) dX10_carryOut_189 lX10_185 nX6_passYears kX6_passYears (by decide) (Nat.le_of_ble_eq_true rfl) (Nat.le_refl _) (Nat.le_refl _) ((hC.2.1 1 (by decide)).1 _ (by decide)) rfl rfl ?_
    refine sX6_passYears (hC.2.1 1 (by decide)) hN (show i < 2147483000 by omega) (fun _ hR hF => ?_)
    have hC := hC.riv (r := 1) (by decide) hR hF
    have hQ := hQ.tr (zFC.frm (by decide) hF)
    refine z_pop dX10_carryOut_192 rfl ?_
    exact z_vreturn (mi := mX10_carryOut) dX10_carryOut_193 rfl (Nat.le_refl _) (Nat.le_refl _) (by rw [znx_121 tq, e1, nI_clamp (show i < 2147483648 by omega)] at hP; exact hP _ hC hQ)
  by_cases t113 : x1 = 113
  · rw [t113]
    refine z_tableIn (tgt := 184) dX10_carryOut_28 (by decide) (by decide) rfl (by decide) ?_
    have tq : x1 = 121 := by rcases hwf with ⟨e, e2⟩ | ⟨e, e2⟩ | ⟨e, e2⟩ | ⟨e, e2⟩ | ⟨e, e2⟩ | ⟨e, e2⟩ <;> first | exact e | (exfalso; simp_all)
    have hlen : ns.length = 1 := by rcases hwf with ⟨e, e2⟩ | ⟨e, e2⟩ | ⟨e, e2⟩ | ⟨e, e2⟩ | ⟨e, e2⟩ | ⟨e, e2⟩ <;> first | exact e2 | exact absurd (tq.symm.trans e) (by decide)
    have u0 : γ 3 (3 * j + 0) = ns.getD 0 0 := hu 0 (by omega)
    obtain ⟨i, ⟨hi1, hi2⟩, e1⟩ := zrYe_n (by rw [← zrX_121 tq]; exact hz)
    rw [u0, e1]
    refine z_aload_n dX10_carryOut_184 rfl ?_
    refine z_get dX10_carryOut_185 fX10_16.r (hC.1 _ (by decide)) rfl ?_
    refine z_iload_n dX10_carryOut_188 rfl ?_
    refine z_V1 (mi' := mX6_passYears) dX10_carryOut_189 lX10_185 nX6_passYears kX6_passYears (by decide) (Nat.le_of_ble_eq_true rfl) (Nat.le_refl _) (Nat.le_refl _) ((hC.2.1 1 (by decide)).1 _ (by decide)) rfl rfl ?_
    refine sX6_passYears (hC.2.1 1 (by decide)) hN (show i < 2147483000 by omega) (fun _ hR hF => ?_)
    have hC := hC.riv (r := 1) (by decide) hR hF
    have hQ := hQ.tr (zFC.frm (by decide) hF)
    refine z_pop dX10_carryOut_192 rfl ?_
    exact z_vreturn (mi := mX10_carryOut) dX10_carryOut_193 rfl (Nat.le_refl _) (Nat.le_refl _) (by rw [znx_121 tq, e1, nI_clamp (show i < 2147483648 by omega)] at hP; exact hP _ hC hQ)
  by_cases t114 : x1 = 114
  · rw [t114]
    refine z_tableIn (tgt := 184) dX10_carryOut_28 (by decide) (by decide) rfl (by decide) ?_
    have tq : x1 = 121 := by rcases hwf with ⟨e, e2⟩ | ⟨e, e2⟩ | ⟨e, e2⟩ | ⟨e, e2⟩ | ⟨e, e2⟩ | ⟨e, e2⟩ <;> first | exact e | (exfalso; simp_all)
    have hlen : ns.length = 1 := by rcases hwf with ⟨e, e2⟩ | ⟨e, e2⟩ | ⟨e, e2⟩ | ⟨e, e2⟩ | ⟨e, e2⟩ | ⟨e, e2⟩ <;> first | exact e2 | exact absurd (tq.symm.trans e) (by decide)
    have u0 : γ 3 (3 * j + 0) = ns.getD 0 0 := hu 0 (by omega)
    obtain ⟨i, ⟨hi1, hi2⟩, e1⟩ := zrYe_n (by rw [← zrX_121 tq]; exact hz)
    rw [u0, e1]
    refine z_aload_n dX10_carryOut_184 rfl ?_
    refine z_get dX10_carryOut_185 fX10_16.r (hC.1 _ (by decide)) rfl ?_
    refine z_iload_n dX10_carryOut_188 rfl ?_
    refine z_V1 (mi' := mX6_passYears) dX10_carryOut_189 lX10_185 nX6_passYears kX6_passYears (by decide) (Nat.le_of_ble_eq_true rfl) (Nat.le_refl _) (Nat.le_refl _) ((hC.2.1 1 (by decide)).1 _ (by decide)) rfl rfl ?_
    refine sX6_passYears (hC.2.1 1 (by decide)) hN (show i < 2147483000 by omega) (fun _ hR hF => ?_)
    have hC := hC.riv (r := 1) (by decide) hR hF
    have hQ := hQ.tr (zFC.frm (by decide) hF)
    refine z_pop dX10_carryOut_192 rfl ?_
    exact z_vreturn (mi := mX10_carryOut) dX10_carryOut_193 rfl (Nat.le_refl _) (Nat.le_refl _) (by rw [znx_121 tq, e1, nI_clamp (show i < 2147483648 by omega)] at hP; exact hP _ hC hQ)
  by_cases t115 : x1 = 115
  · rw [t115]
    refine z_tableIn (tgt := 153) dX10_carryOut_28 (by decide) (by decide) rfl (by decide) ?_
    have tq : x1 = 115 := t115
    have hlen : ns.length = 1 := by rcases hwf with ⟨e, e2⟩ | ⟨e, e2⟩ | ⟨e, e2⟩ | ⟨e, e2⟩ | ⟨e, e2⟩ | ⟨e, e2⟩ <;> first | exact e2 | exact absurd (tq.symm.trans e) (by decide)
    have u0 : γ 3 (3 * j + 0) = ns.getD 0 0 := hu 0 (by omega)
    obtain ⟨c, hc9, e1⟩ := zrSh_n hN (by rw [← zrX_115 tq]; exact hz)
    rw [u0, e1]
    refine z_aload_n dX10_carryOut_153 rfl ?_
    refine z_get dX10_carryOut_154 fX10_16.r (hC.1 _ (by decide)) rfl ?_
    refine z_get dX10_carryOut_157 fX10_123 ((hC.2.1 1 (by decide)).1 _ (by decide)) rfl ?_
    refine z_iload_n dX10_carryOut_160 rfl ?_
    refine z_V1 (mi' := mX0_renew) dX10_carryOut_161 lX10_160 nX0_renew kX0_renew (by decide) (Nat.le_of_ble_eq_true rfl) (Nat.le_refl _) (Nat.le_refl _) ((hC.2.1 1 (by decide)).1 _ (by decide)) rfl rfl ?_
    refine sX0_renew (hC.2.1 1 (by decide)) (show c < 3 by omega) (fun _ hR hF => ?_)
    have hC := hC.riv (r := 1) (by decide) hR hF
    have hQ := hQ.tr (zFC.frm (by decide) hF)
    refine z_pop dX10_carryOut_164 rfl ?_
    refine z_goto (tgt := 193) dX10_carryOut_165 (by decide) ?_
    exact z_vreturn (mi := mX10_carryOut) dX10_carryOut_193 rfl (Nat.le_refl _) (Nat.le_refl _) (by rw [znx_115 tq, e1, nI_clamp (show c < 2147483648 by omega)] at hP; exact hP _ hC hQ)
  by_cases t116 : x1 = 116
  · rw [t116]
    refine z_tableIn (tgt := 184) dX10_carryOut_28 (by decide) (by decide) rfl (by decide) ?_
    have tq : x1 = 121 := by rcases hwf with ⟨e, e2⟩ | ⟨e, e2⟩ | ⟨e, e2⟩ | ⟨e, e2⟩ | ⟨e, e2⟩ | ⟨e, e2⟩ <;> first | exact e | (exfalso; simp_all)
    have hlen : ns.length = 1 := by rcases hwf with ⟨e, e2⟩ | ⟨e, e2⟩ | ⟨e, e2⟩ | ⟨e, e2⟩ | ⟨e, e2⟩ | ⟨e, e2⟩ <;> first | exact e2 | exact absurd (tq.symm.trans e) (by decide)
    have u0 : γ 3 (3 * j + 0) = ns.getD 0 0 := hu 0 (by omega)
    obtain ⟨i, ⟨hi1, hi2⟩, e1⟩ := zrYe_n (by rw [← zrX_121 tq]; exact hz)
    rw [u0, e1]
    refine z_aload_n dX10_carryOut_184 rfl ?_
    refine z_get dX10_carryOut_185 fX10_16.r (hC.1 _ (by decide)) rfl ?_
    refine z_iload_n dX10_carryOut_188 rfl ?_
    refine z_V1 (mi' := mX6_passYears) dX10_carryOut_189 lX10_185 nX6_passYears kX6_passYears (by decide) (Nat.le_of_ble_eq_true rfl) (Nat.le_refl _) (Nat.le_refl _) ((hC.2.1 1 (by decide)).1 _ (by decide)) rfl rfl ?_
    refine sX6_passYears (hC.2.1 1 (by decide)) hN (show i < 2147483000 by omega) (fun _ hR hF => ?_)
    have hC := hC.riv (r := 1) (by decide) hR hF
    have hQ := hQ.tr (zFC.frm (by decide) hF)
    refine z_pop dX10_carryOut_192 rfl ?_
    exact z_vreturn (mi := mX10_carryOut) dX10_carryOut_193 rfl (Nat.le_refl _) (Nat.le_refl _) (by rw [znx_121 tq, e1, nI_clamp (show i < 2147483648 by omega)] at hP; exact hP _ hC hQ)
  by_cases t117 : x1 = 117
  · rw [t117]
    refine z_tableIn (tgt := 184) dX10_carryOut_28 (by decide) (by decide) rfl (by decide) ?_
    have tq : x1 = 121 := by rcases hwf with ⟨e, e2⟩ | ⟨e, e2⟩ | ⟨e, e2⟩ | ⟨e, e2⟩ | ⟨e, e2⟩ | ⟨e, e2⟩ <;> first | exact e | (exfalso; simp_all)
    have hlen : ns.length = 1 := by rcases hwf with ⟨e, e2⟩ | ⟨e, e2⟩ | ⟨e, e2⟩ | ⟨e, e2⟩ | ⟨e, e2⟩ | ⟨e, e2⟩ <;> first | exact e2 | exact absurd (tq.symm.trans e) (by decide)
    have u0 : γ 3 (3 * j + 0) = ns.getD 0 0 := hu 0 (by omega)
    obtain ⟨i, ⟨hi1, hi2⟩, e1⟩ := zrYe_n (by rw [← zrX_121 tq]; exact hz)
    rw [u0, e1]
    refine z_aload_n dX10_carryOut_184 rfl ?_
    refine z_get dX10_carryOut_185 fX10_16.r (hC.1 _ (by decide)) rfl ?_
    refine z_iload_n dX10_carryOut_188 rfl ?_
    refine z_V1 (mi' := mX6_passYears) dX10_carryOut_189 lX10_185 nX6_passYears kX6_passYears (by decide) (Nat.le_of_ble_eq_true rfl) (Nat.le_refl _) (Nat.le_refl _) ((hC.2.1 1 (by decide)).1 _ (by decide)) rfl rfl ?_
    refine sX6_passYears (hC.2.1 1 (by decide)) hN (show i < 2147483000 by omega) (fun _ hR hF => ?_)
    have hC := hC.riv (r := 1) (by decide) hR hF
    have hQ := hQ.tr (zFC.frm (by decide) hF)
    refine z_pop dX10_carryOut_192 rfl ?_
    exact z_vreturn (mi := mX10_carryOut) dX10_carryOut_193 rfl (Nat.le_refl _) (Nat.le_refl _) (by rw [znx_121 tq, e1, nI_clamp (show i < 2147483648 by omega)] at hP; exact hP _ hC hQ)
  by_cases t118 : x1 = 118
  · rw [t118]
    refine z_tableIn (tgt := 184) dX10_carryOut_28 (by decide) (by decide) rfl (by decide) ?_
    have tq : x1 = 121 := by rcases hwf with ⟨e, e2⟩ | ⟨e, e2⟩ | ⟨e, e2⟩ | ⟨e, e2⟩ | ⟨e, e2⟩ | ⟨e, e2⟩ <;> first | exact e | (exfalso; simp_all)
    have hlen : ns.length = 1 := by rcases hwf with ⟨e, e2⟩ | ⟨e, e2⟩ | ⟨e, e2⟩ | ⟨e, e2⟩ | ⟨e, e2⟩ | ⟨e, e2⟩ <;> first | exact e2 | exact absurd (tq.symm.trans e) (by decide)
    have u0 : γ 3 (3 * j + 0) = ns.getD 0 0 := hu 0 (by omega)
    obtain ⟨i, ⟨hi1, hi2⟩, e1⟩ := zrYe_n (by rw [← zrX_121 tq]; exact hz)
    rw [u0, e1]
    refine z_aload_n dX10_carryOut_184 rfl ?_
    refine z_get dX10_carryOut_185 fX10_16.r (hC.1 _ (by decide)) rfl ?_
    refine z_iload_n dX10_carryOut_188 rfl ?_
    refine z_V1 (mi' := mX6_passYears) dX10_carryOut_189 lX10_185 nX6_passYears kX6_passYears (by decide) (Nat.le_of_ble_eq_true rfl) (Nat.le_refl _) (Nat.le_refl _) ((hC.2.1 1 (by decide)).1 _ (by decide)) rfl rfl ?_
    refine sX6_passYears (hC.2.1 1 (by decide)) hN (show i < 2147483000 by omega) (fun _ hR hF => ?_)
    have hC := hC.riv (r := 1) (by decide) hR hF
    have hQ := hQ.tr (zFC.frm (by decide) hF)
    refine z_pop dX10_carryOut_192 rfl ?_
    exact z_vreturn (mi := mX10_carryOut) dX10_carryOut_193 rfl (Nat.le_refl _) (Nat.le_refl _) (by rw [znx_121 tq, e1, nI_clamp (show i < 2147483648 by omega)] at hP; exact hP _ hC hQ)
  by_cases t119 : x1 = 119
  · rw [t119]
    refine z_tableIn (tgt := 168) dX10_carryOut_28 (by decide) (by decide) rfl (by decide) ?_
    have tq : x1 = 119 := t119
    have hlen : ns.length = 2 := by rcases hwf with ⟨e, e2⟩ | ⟨e, e2⟩ | ⟨e, e2⟩ | ⟨e, e2⟩ | ⟨e, e2⟩ | ⟨e, e2⟩ <;> first | exact e2 | exact absurd (tq.symm.trans e) (by decide)
    have u0 : γ 3 (3 * j + 0) = ns.getD 0 0 := hu 0 (by omega)
    have u1 : γ 3 (3 * j + 1) = ns.getD 1 0 := hu 1 (by omega)
    obtain ⟨f, hf, e1⟩ := zrWi_n hN (by rw [← zrX_119 tq]; exact hz)
    rw [u0, u1, e1]
    refine z_aload_n dX10_carryOut_168 rfl ?_
    refine z_get dX10_carryOut_169 fX10_16.r (hC.1 _ (by decide)) rfl ?_
    refine z_get dX10_carryOut_172 fX10_96 ((hC.2.1 1 (by decide)).1 _ (by decide)) rfl ?_
    refine z_iload_n dX10_carryOut_175 rfl ?_
    refine z_iload_n dX10_carryOut_176 rfl ?_
    refine z_V2 (mi' := mX2_addWitnesses) dX10_carryOut_177 lX10_177 nX2_addWitnesses kX2_addWitnesses (by decide) (Nat.le_of_ble_eq_true rfl) (Nat.le_refl _) (Nat.le_refl _) ((hC.2.1 1 (by decide)).1 _ (by decide)) rfl rfl ?_
    refine sX2_addWitnesses (hC.2.1 1 (by decide)) (show f < 12 by omega) (fun _ hR hF => ?_)
    have hC := hC.riv (r := 1) (by decide) hR hF
    have hQ := hQ.tr (zFC.frm (by decide) hF)
    refine z_pop dX10_carryOut_180 rfl ?_
    refine z_goto (tgt := 193) dX10_carryOut_181 (by decide) ?_
    exact z_vreturn (mi := mX10_carryOut) dX10_carryOut_193 rfl (Nat.le_refl _) (Nat.le_refl _) (by rw [znx_119 tq, e1, nI_clamp (show f < 2147483648 by omega)] at hP; exact hP _ hC hQ)
  by_cases t120 : x1 = 120
  · rw [t120]
    refine z_tableIn (tgt := 122) dX10_carryOut_28 (by decide) (by decide) rfl (by decide) ?_
    have tq : x1 = 120 := t120
    have hlen : ns.length = 2 := by rcases hwf with ⟨e, e2⟩ | ⟨e, e2⟩ | ⟨e, e2⟩ | ⟨e, e2⟩ | ⟨e, e2⟩ | ⟨e, e2⟩ <;> first | exact e2 | exact absurd (tq.symm.trans e) (by decide)
    have u0 : γ 3 (3 * j + 0) = ns.getD 0 0 := hu 0 (by omega)
    have u1 : γ 3 (3 * j + 1) = ns.getD 1 0 := hu 1 (by omega)
    obtain ⟨s, f, ⟨hs, hf⟩, e1, e2⟩ := zrEf_n hN (by rw [← zrX_120 tq]; exact hz)
    rw [u0, u1, e1, e2]
    refine z_aload_n dX10_carryOut_122 rfl ?_
    refine z_get dX10_carryOut_123 fX10_16.r (hC.1 _ (by decide)) rfl ?_
    refine z_get dX10_carryOut_126 fX10_145 ((hC.2.1 1 (by decide)).1 _ (by decide)) rfl ?_
    refine z_iload_n dX10_carryOut_129 rfl ?_
    refine z_iload_n dX10_carryOut_130 rfl ?_
    refine z_V2 (mi' := mX4_takeOff) dX10_carryOut_131 lX10_149 nX4_takeOff kX4_takeOff (by decide) (Nat.le_of_ble_eq_true rfl) (Nat.le_refl _) (Nat.le_refl _) ((hC.2.1 1 (by decide)).1 _ (by decide)) rfl rfl ?_
    refine sX4_takeOff (hC.2.1 1 (by decide)) (show s < 6 by omega) (show f < 12 by omega) (fun _ hR hF => ?_)
    have hC := hC.riv (r := 1) (by decide) hR hF
    have hQ := hQ.tr (zFC.frm (by decide) hF)
    refine z_pop dX10_carryOut_134 rfl ?_
    refine z_goto (tgt := 193) dX10_carryOut_135 (by decide) ?_
    exact z_vreturn (mi := mX10_carryOut) dX10_carryOut_193 rfl (Nat.le_refl _) (Nat.le_refl _) (by rw [znx_120 tq, e1, e2, nI_clamp (show s < 2147483648 by omega), nI_clamp (show f < 2147483648 by omega)] at hP; exact hP _ hC hQ)
  refine z_tableOut (tgt := 184) dX10_carryOut_28 (by have u107 := lv_neT (a := 107) t107 (by decide); have u108 := lv_neT (a := 108) t108 (by decide); have u109 := lv_neT (a := 109) t109 (by decide); have u110 := lv_neT (a := 110) t110 (by decide); have u111 := lv_neT (a := 111) t111 (by decide); have u112 := lv_neT (a := 112) t112 (by decide); have u113 := lv_neT (a := 113) t113 (by decide); have u114 := lv_neT (a := 114) t114 (by decide); have u115 := lv_neT (a := 115) t115 (by decide); have u116 := lv_neT (a := 116) t116 (by decide); have u117 := lv_neT (a := 117) t117 (by decide); have u118 := lv_neT (a := 118) t118 (by decide); have u119 := lv_neT (a := 119) t119 (by decide); have u120 := lv_neT (a := 120) t120 (by decide); omega) (by decide) ?_
  have tq : x1 = 121 := by rcases hwf with ⟨e, e2⟩ | ⟨e, e2⟩ | ⟨e, e2⟩ | ⟨e, e2⟩ | ⟨e, e2⟩ | ⟨e, e2⟩ <;> first | exact e | (exfalso; simp_all)
  have hlen : ns.length = 1 := by rcases hwf with ⟨e, e2⟩ | ⟨e, e2⟩ | ⟨e, e2⟩ | ⟨e, e2⟩ | ⟨e, e2⟩ | ⟨e, e2⟩ <;> first | exact e2 | exact absurd (tq.symm.trans e) (by decide)
  have u0 : γ 3 (3 * j + 0) = ns.getD 0 0 := hu 0 (by omega)
  obtain ⟨i, ⟨hi1, hi2⟩, e1⟩ := zrYe_n (by rw [← zrX_121 tq]; exact hz)
  rw [u0, e1]
  refine z_aload_n dX10_carryOut_184 rfl ?_
  refine z_get dX10_carryOut_185 fX10_16.r (hC.1 _ (by decide)) rfl ?_
  refine z_iload_n dX10_carryOut_188 rfl ?_
  refine z_V1 (mi' := mX6_passYears) dX10_carryOut_189 lX10_185 nX6_passYears kX6_passYears (by decide) (Nat.le_of_ble_eq_true rfl) (Nat.le_refl _) (Nat.le_refl _) ((hC.2.1 1 (by decide)).1 _ (by decide)) rfl rfl ?_
  refine sX6_passYears (hC.2.1 1 (by decide)) hN (show i < 2147483000 by omega) (fun _ hR hF => ?_)
  have hC := hC.riv (r := 1) (by decide) hR hF
  have hQ := hQ.tr (zFC.frm (by decide) hF)
  refine z_pop dX10_carryOut_192 rfl ?_
  exact z_vreturn (mi := mX10_carryOut) dX10_carryOut_193 rfl (Nat.le_refl _) (Nat.le_refl _) (by rw [znx_121 tq, e1, nI_clamp (show i < 2147483648 by omega)] at hP; exact hP _ hC hQ)
