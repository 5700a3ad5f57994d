theorem zfpD : ∀ n, n < 960 → ∀ c, c < 6 → vf_n64 (FP.ddiv (FP.i2d (nI n - 60)) (FP.i2d (nI (c + 1)))) := by
  unfold vf_n64
  decide +kernel
theorem zfpF : ∀ n, n < 61 → ∀ c, c < 3 → vf_n32 (FP.fdiv (FP.i2f (nI n)) (FP.i2f (nI (c + 1)))) := by
  unfold vf_n32
  decide +kernel
theorem zfpd {x : Int32} {c : Nat} (h : -60 ≤ x.toInt ∧ x.toInt < 900) (h1 : 1 ≤ c) (h6 : c ≤ 6) : vf_n64 (FP.ddiv (FP.i2d x) (FP.i2d (nI c))) := by
  have e : x = nI (x.toInt + 60).toNat - 60 := by
    have e60 : (60 : Int32).toInt = 60 := by decide
    have en := nI_toInt (show (x.toInt + 60).toNat < 2147483648 by omega)
    refine zeqI.mpr ?_
    rw [zsubI (by omega), en, e60]
    omega
  have h9 := zfpD (x.toInt + 60).toNat (by omega) (c - 1) (by omega)
  rw [← e, show c - 1 + 1 = c by omega] at h9
  exact h9
theorem zfpf {x : Int32} {c : Nat} (h : zBet x 0 60) (h1 : 1 ≤ c) (h3 : c ≤ 3) : vf_n32 (FP.fdiv (FP.i2f x) (FP.i2f (nI c))) := by
  unfold zBet at h
  have e : x = nI x.toInt.toNat := by
    have en := nI_toInt (show x.toInt.toNat < 2147483648 by omega)
    refine zeqI.mpr ?_
    omega
  have h9 := zfpF x.toInt.toNat (by omega) (c - 1) (by omega)
  rw [← e, show c - 1 + 1 = c by omega] at h9
  exact h9
theorem zd5 {x : Int32} (h : zBet x 0 50) : zBet (x / 5) 0 10 := by
  unfold zBet at h
  have e : x = nI x.toInt.toNat := by
    have en := nI_toInt (show x.toInt.toNat < 2147483648 by omega)
    refine zeqI.mpr ?_
    omega
  have key : ∀ k, k < 51 → zBet (nI k / 5) 0 10 := by unfold zBet; decide
  have := key x.toInt.toNat (by omega)
  rw [← e] at this
  exact this
theorem zBnd.told {σ : zSt} {S F E K : Nat} {Y : Int} (hB : zBnd σ S F E K Y) {f : Nat} (hf : f < F) (hS6 : S ≤ 6) : ∀ n, n ≤ S → zBet (ztold σ E f n) (-9 * n) (148 * n)
  | 0, _ => by unfold ztold zBet; decide
  | n + 1, h => by
    have ih := hB.told hf hS6 n (by omega)
    rw [ztold]
    by_cases e : zmk σ n f = true
    · rw [if_pos e]
      have h1 := hB.tr (show n < S by omega) hf e
      have h2 := zd5 (hB.1 n (by omega)).1
      have h3 := (hB.1 n (by omega)).2.1
      unfold zBet at ih h1 h2 h3 ⊢
      have e1 := zaddI (x := σ 0 n / 5) (y := σ 1 n) (by omega)
      have e2 := zaddI (x := ztrue σ E n f) (y := σ 0 n / 5 + σ 1 n) (by omega)
      rw [zaddI (by omega)]
      omega
    · rw [if_neg e]
      unfold zBet at ih ⊢
      omega
theorem zBnd.edges {σ : zSt} {S F E K : Nat} {Y : Int} (hB : zBnd σ S F E K Y) (hK3 : K ≤ 3) : ∀ n, n ≤ K → zBet (zsumI (σ 9) n) 0 (20 * n)
  | 0, _ => by unfold zsumI zBet; decide
  | n + 1, h => by
    have ih := hB.edges hK3 n (by omega)
    have h1 := hB.2.2.2.1 n (by omega)
    rw [zsumI]
    unfold zBet at ih h1 ⊢
    rw [zaddI (by omega)]
    omega
/-! what the class answers -/
def zoEst (σ : zSt) (E F S : Nat) (x : Int32) : zO := if ¬ (0 ≤ x ∧ x < σ 13 2) then .inr zIO else if nI (zct (fun s => zmk σ s x.toNatClampNeg) 6) = 0 then .inr zAE else .inl (some (.double (FP.ddiv (FP.i2d (ztold σ E x.toNatClampNeg S)) (FP.i2d (nI (zct (fun s => zmk σ s x.toNatClampNeg) 6))))))
def zoMean (σ : zSt) (K : Nat) : zO := if σ 13 4 = 0 then .inr zAE else .inl (some (.float (FP.fdiv (FP.i2f (zsumI (σ 9) K)) (FP.i2f (σ 13 4)))))
def zansD (cs : List String) : zO → UInt64 → Int32 → Prop
  | .inl (some (.double v)), r, c => c = 0 ∧ r = v
  | .inr E, _, c => zcd E cs 1 = some c
  | _, _, _ => False
def zansF (cs : List String) : zO → UInt32 → Int32 → Prop
  | .inl (some (.float v)), r, c => c = 0 ∧ r = v
  | .inr E, _, c => zcd E cs 1 = some c
  | _, _, _ => False
theorem zt3 (a b c d : Int32) : a + (b + c + d) = a + (b + (d + c)) := by grind
set_option maxHeartbeats 4000000 in
set_option maxRecDepth 10000 in
theorem sX11_undo {Γ : zG} {d : Nat} {G : zH} {Post : zV} {am : Nat → Nat} {μ : zSt} (hM : zMod G am μ) {ct : Nat} (hct : μ 0 5 = nI ct) (hc8 : ct ≤ 8) (hO : 0 < ct → ∀ G1, zMod G1 am (zrw (zu (zu μ 0 7 0) 0 5 (nI (ct - 1))) 1 (zcy (μ 1) (μ 2) 0 (229 * (ct - 1)) 229)) → zFrm G G1 am 8 → Post (some (.int (nI (ct - 1)))) G1) (hE : ct = 0 → ∀ G1, zMod G1 am (zu μ 0 7 1) → zFrm G G1 am 8 → Post (some (.int 0)) G1) : zM Γ (d + 1) mX11_undo 0 0 [.ref (am 0)] G Post := by
  refine zM_of pnX11 rfl (Nat.le_of_ble_eq_true rfl) rfl ?_
  refine z_aload_n dX11_undo_0 rfl ?_
  refine z_aload_n dX11_undo_1 rfl ?_
  refine z_get dX11_undo_2 fX11_55.r (hM.1 _ (by decide)) rfl ?_
  refine z_if_ne (tgt := 12) dX11_undo_5 (by decide) (fun c1 => ?_) (fun c1 => ?_)
  · have h1 : 0 < ct := Nat.pos_of_ne_zero (fun q => c1 (by rw [hct, q]; rfl))
    refine z_iconst (v := 0) dX11_undo_12 (by decide) ?_
    refine z_V1 (mi' := mX11_fails) dX11_undo_13 lX11_149 nX11_fails kX11_fails (by decide) (Nat.le_of_ble_eq_true rfl) (Nat.le_refl _) (Nat.le_refl _) (hM.1 _ (by decide)) rfl rfl ?_
    refine sX11_fails hM (fun G1 hM hQ => ?_)
    rw [zfb0]
    refine z_if_eq (tgt := 21) dX11_undo_16 (by decide) (fun c2 => ?_) (fun c2 => ?_)
    · refine z_aload_n dX11_undo_21 rfl ?_
      refine z_dup dX11_undo_22 rfl ?_
      refine z_get dX11_undo_23 fX11_55.r (hM.1 _ (by decide)) rfl ?_
      rw [show zu μ 0 7 0 0 5 = nI ct from hct]
      refine z_iconst (v := 1) dX11_undo_26 (by decide) ?_
      refine z_isub dX11_undo_27 ?_
      rw [show nI ct - 1 = nI (ct - 1) by rw [show nI ct = nI (ct - 1 + 1) by rw [show ct - 1 + 1 = ct by omega], nI_pred]]
      refine z_put dX11_undo_28 fX11_55 (hM.1 _ (by decide)) rfl rfl (Nat.le_of_ble_eq_true rfl) ?_
      refine z_mset hM 0 5 (nI (ct - 1)) (by decide) rfl (fun _ hM hF => ?_)
      have hQ := hQ.tr hF
      refine z_aload_n dX11_undo_31 rfl ?_
      refine z_get dX11_undo_32 fX11_13.r (hM.1 _ (by decide)) rfl ?_
      refine z_sipush (v := 229) dX11_undo_35 (by decide) ?_
      refine z_aload_n dX11_undo_38 rfl ?_
      refine z_get dX11_undo_39 fX11_55.r (hM.1 _ (by decide)) rfl ?_
      refine z_imul dX11_undo_42 ?_
      refine z_aload_n dX11_undo_43 rfl ?_
      refine z_get dX11_undo_44 fX11_7.r (hM.1 _ (by decide)) rfl ?_
      refine z_iconst (v := 0) dX11_undo_47 (by decide) ?_
      rw [show zu (zu μ 0 7 0) 0 5 (nI (ct - 1)) 0 5 = nI (ct - 1) from rfl, show (229 : Int32) = nI 229 from rfl, pk_mul]
      refine z_S4 (mi' := mX11_copies) dX11_undo_48 lX11_58 nX11_copies kX11_copies (by decide) (Nat.le_of_ble_eq_true rfl) (Nat.le_refl _) (Nat.le_refl _) ?_
      refine sX11_copies hM (r1 := 2) (r2 := 1) (p := 229 * (ct - 1)) (q := 0) (by decide) (by decide) (by decide) (by decide) (by decide) (show 229 * (ct - 1) + 229 ≤ 1832 by omega) (by decide) (fun G2 hM hF => ?_)
      have hQ := hQ.tr hF
      refine z_aload_n dX11_undo_51 rfl ?_
      refine z_get dX11_undo_52 fX11_55.r (hM.1 _ (by decide)) rfl ?_
      exact z_ireturn (mi := mX11_undo) dX11_undo_55 rfl rfl (Nat.le_refl _) (Nat.le_refl _) (hO h1 _ hM hQ)
    · exact absurd rfl c2
  · have h1 : ct = 0 := znI_inj (by omega) (by decide) (hct.symm.trans (show μ 0 5 = nI 0 from c1))
    refine z_iconst (v := 1) dX11_undo_8 (by decide) ?_
    refine z_goto (tgt := 13) dX11_undo_9 (by decide) ?_
    refine z_V1 (mi' := mX11_fails) dX11_undo_13 lX11_149 nX11_fails kX11_fails (by decide) (Nat.le_of_ble_eq_true rfl) (Nat.le_refl _) (Nat.le_refl _) (hM.1 _ (by decide)) rfl rfl ?_
    refine sX11_fails hM (fun G1 hM hQ => ?_)
    rw [zfb1]
    refine z_if_eq (tgt := 21) dX11_undo_16 (by decide) (fun c3 => ?_) (fun c3 => ?_)
    · exact absurd c3 zi10
    · refine z_iconst (v := 0) dX11_undo_19 (by decide) ?_
      exact z_ireturn (mi := mX11_undo) dX11_undo_20 rfl rfl (Nat.le_refl _) (Nat.le_refl _) (hE h1 _ hM hQ)
set_option maxHeartbeats 4000000 in
set_option maxRecDepth 10000 in
theorem sX11_save {Γ : zG} {d : Nat} {G : zH} {Post : zV} {am : Nat → Nat} {μ : zSt} (hM : zMod G am μ) (hP : ∀ G1, zMod G1 am (zrw (zu (zu μ 0 7 0) 0 4 1) 3 (zcy (μ 3) (μ 1) 0 0 229)) → zFrm G G1 am 8 → Post (some (.int (μ 1 0))) G1) : zM Γ (d + 1) mX11_save 0 0 [.ref (am 0)] G Post := by
  refine zM_of pnX11 rfl (Nat.le_of_ble_eq_true rfl) rfl ?_
  have hQ : zFrm G G am 8 := zFrm.rf
  refine z_aload_n dX11_save_0 rfl ?_
  refine z_iconst (v := 0) dX11_save_1 (by decide) ?_
  refine z_put dX11_save_2 fX11_36 (hM.1 _ (by decide)) rfl rfl (Nat.le_of_ble_eq_true rfl) ?_
  refine z_mset hM 0 7 (0) (by decide) rfl (fun _ hM hF => ?_)
  have hQ := hQ.tr hF
  refine z_aload_n dX11_save_5 rfl ?_
  refine z_iconst (v := 1) dX11_save_6 (by decide) ?_
  refine z_put dX11_save_7 fX11_239 (hM.1 _ (by decide)) rfl rfl (Nat.le_of_ble_eq_true rfl) ?_
  refine z_mset hM 0 4 (1) (by decide) rfl (fun _ hM hF => ?_)
  have hQ := hQ.tr hF
  refine z_aload_n dX11_save_10 rfl ?_
  refine z_get dX11_save_11 fX11_7.r (hM.1 _ (by decide)) rfl ?_
  refine z_iconst (v := 0) dX11_save_14 (by decide) ?_
  refine z_aload_n dX11_save_15 rfl ?_
  refine z_get dX11_save_16 fX11_16.r (hM.1 _ (by decide)) rfl ?_
  refine z_iconst (v := 0) dX11_save_19 (by decide) ?_
  refine z_S4 (mi' := mX11_copies) dX11_save_20 lX11_58 nX11_copies kX11_copies (by decide) (Nat.le_of_ble_eq_true rfl) (Nat.le_refl _) (Nat.le_refl _) ?_
  refine sX11_copies hM (r1 := 1) (r2 := 3) (p := 0) (q := 0) (by decide) (by decide) (by decide) (by decide) (by decide) (by decide) (by decide) (fun G2 hM hF => ?_)
  have hQ := hQ.tr hF
  refine z_aload_n dX11_save_23 rfl ?_
  refine z_get dX11_save_24 fX11_7.r (hM.1 _ (by decide)) rfl ?_
  refine z_iconst (v := 0) dX11_save_27 (by decide) ?_
  refine z_iald dX11_save_28 (hM.1 1 (by decide)) (show vp_in (nI 0) 229 from vp_in_nI (by decide) (by decide)) ?_
  exact z_ireturn (mi := mX11_save) dX11_save_29 rfl rfl (Nat.le_refl _) (Nat.le_refl _) (hP _ hM hQ)
set_option maxHeartbeats 4000000 in
set_option maxRecDepth 10000 in
theorem sX11_restore {Γ : zG} {d : Nat} {G : zH} {Post : zV} {am : Nat → Nat} {μ : zSt} (hM : zMod G am μ) (hO : ¬ μ 0 4 = 0 → ∀ G1, zMod G1 am (zu (zrw (zu μ 0 7 0) 1 (zcy (μ 1) (μ 3) 0 0 229)) 0 5 0) → zFrm G G1 am 8 → Post (some (.int (μ 3 0))) G1) (hE : μ 0 4 = 0 → ∀ G1, zMod G1 am (zu μ 0 7 1) → zFrm G G1 am 8 → Post (some (.int 0)) G1) : zM Γ (d + 1) mX11_restore 0 0 [.ref (am 0)] G Post := by
  refine zM_of pnX11 rfl (Nat.le_of_ble_eq_true rfl) rfl ?_
  refine z_aload_n dX11_restore_0 rfl ?_
  refine z_aload_n dX11_restore_1 rfl ?_
  refine z_get dX11_restore_2 fX11_239.r (hM.1 _ (by decide)) rfl ?_
  refine z_if_eq (tgt := 12) dX11_restore_5 (by decide) (fun c1 => ?_) (fun c1 => ?_)
  · have h1 : μ 0 4 = 0 := c1
    refine z_iconst (v := 1) dX11_restore_12 (by decide) ?_
    refine z_V1 (mi' := mX11_fails) dX11_restore_13 lX11_149 nX11_fails kX11_fails (by decide) (Nat.le_of_ble_eq_true rfl) (Nat.le_refl _) (Nat.le_refl _) (hM.1 _ (by decide)) rfl rfl ?_
    refine sX11_fails hM (fun G1 hM hQ => ?_)
    rw [zfb1]
    refine z_if_eq (tgt := 21) dX11_restore_16 (by decide) (fun c2 => ?_) (fun c2 => ?_)
    · exact absurd c2 zi10
    · refine z_iconst (v := 0) dX11_restore_19 (by decide) ?_
      exact z_ireturn (mi := mX11_restore) dX11_restore_20 rfl rfl (Nat.le_refl _) (Nat.le_refl _) (hE h1 _ hM hQ)
  · have h1 : ¬ μ 0 4 = 0 := c1
    refine z_iconst (v := 0) dX11_restore_8 (by decide) ?_
    refine z_goto (tgt := 13) dX11_restore_9 (by decide) ?_
    refine z_V1 (mi' := mX11_fails) dX11_restore_13 lX11_149 nX11_fails kX11_fails (by decide) (Nat.le_of_ble_eq_true rfl) (Nat.le_refl _) (Nat.le_refl _) (hM.1 _ (by decide)) rfl rfl ?_
    refine sX11_fails hM (fun G1 hM hQ => ?_)
    rw [zfb0]
    refine z_if_eq (tgt := 21) dX11_restore_16 (by decide) (fun c3 => ?_) (fun c3 => ?_)
    · refine z_aload_n dX11_restore_21 rfl ?_
      refine z_get dX11_restore_22 fX11_16.r (hM.1 _ (by decide)) rfl ?_
      refine z_iconst (v := 0) dX11_restore_25 (by decide) ?_
      refine z_aload_n dX11_restore_26 rfl ?_
      refine z_get dX11_restore_27 fX11_7.r (hM.1 _ (by decide)) rfl ?_
      refine z_iconst (v := 0) dX11_restore_30 (by decide) ?_
      refine z_S4 (mi' := mX11_copies) dX11_restore_31 lX11_58 nX11_copies kX11_copies (by decide) (Nat.le_of_ble_eq_true rfl) (Nat.le_refl _) (Nat.le_refl _) ?_
      refine sX11_copies hM (r1 := 3) (r2 := 1) (p := 0) (q := 0) (by decide) (by decide) (by decide) (by decide) (by decide) (by decide) (by decide) (fun G2 hM hF => ?_)
      have hQ := hQ.tr hF
      refine z_aload_n dX11_restore_34 rfl ?_
      refine z_iconst (v := 0) dX11_restore_35 (by decide) ?_
      refine z_put dX11_restore_36 fX11_55 (hM.1 _ (by decide)) rfl rfl (Nat.le_of_ble_eq_true rfl) ?_
      refine z_mset hM 0 5 (0) (by decide) rfl (fun _ hM hF => ?_)
      have hQ := hQ.tr hF
      refine z_aload_n dX11_restore_39 rfl ?_
      refine z_get dX11_restore_40 fX11_7.r (hM.1 _ (by decide)) rfl ?_
      refine z_iconst (v := 0) dX11_restore_43 (by decide) ?_
      refine z_iald dX11_restore_44 (hM.1 1 (by decide)) (show vp_in (nI 0) 229 from vp_in_nI (by decide) (by decide)) ?_
      exact z_ireturn (mi := mX11_restore) dX11_restore_45 rfl rfl (Nat.le_refl _) (Nat.le_refl _) (hO h1 _ hM hQ)
    · exact absurd rfl c3
set_option maxHeartbeats 4000000 in
set_option maxRecDepth 10000 in
theorem sX11_estimate {Γ : zG} {d : Nat} {G : zH} {Post : zV} {am : Nat → Nat} {μ : zSt} (hM : zMod G am μ) {σ : zSt} {S F E K : Nat} {mm : Nat → Nat} {fl : Nat → Nat → Nat} (hL : zRel σ S F E K (μ 1) mm fl) {Y : Int} (hB : zBnd σ S F E K Y) {x : Int32} (hP : ∀ (r : UInt64) (c : Int32) (G1 : zH), zansD [zIO, zAE] (zoEst σ E F S x) r c → zMod G1 am (zu μ 0 7 c) → zFrm G G1 am 8 → Post (some (.double r)) G1) : zM Γ (d + 3) mX11_estimate 0 0 [.ref (am 0), .int x] G Post := by
  refine zM_of pnX11 rfl (Nat.le_of_ble_eq_true rfl) rfl ?_
  have hS6 := hL.S6
  have hF12 := hL.F12
  have hE4 := hL.E4
  have hK3 := hL.K3
  refine z_aload_n dX11_estimate_0 rfl ?_
  refine z_aload_n dX11_estimate_1 rfl ?_
  refine z_iload_n dX11_estimate_2 rfl ?_
  refine z_V1 (mi' := mX11_isFlood) dX11_estimate_3 lX11_105 nX11_isFlood kX11_isFlood (by decide) (Nat.le_of_ble_eq_true rfl) (Nat.le_refl _) (Nat.le_refl _) (hM.1 _ (by decide)) rfl rfl ?_
  refine sX11_isFlood hM hL ?_
  refine z_if_ne (tgt := 13) dX11_estimate_6 (by decide) (fun c1 => ?_) (fun c1 => ?_)
  · have h1 : ¬ ¬ (0 ≤ x ∧ x < σ 13 2) := by rw [hL.n.2.2.1]; exact not_not_intro (zb_n.mp c1)
    obtain ⟨f, hf, rfl⟩ := zhas (by omega) (zb_n.mp c1)
    refine z_aload_n dX11_estimate_13 rfl ?_
    refine z_iload_n dX11_estimate_14 rfl ?_
    refine z_V1 (mi' := mX11_marksFor) dX11_estimate_15 lX11_155 nX11_marksFor kX11_marksFor (by decide) (Nat.le_of_ble_eq_true rfl) (Nat.le_refl _) (Nat.le_refl _) (hM.1 _ (by decide)) rfl rfl ?_
    refine sX11_marksFor hM hL (show f < 12 by omega) ?_
    refine z_if_ne (tgt := 25) dX11_estimate_18 (by decide) (fun c2 => ?_) (fun c2 => ?_)
    · have h2 : ¬ nI (zct (fun s => zmk σ s f) 6) = 0 := c2
      have hcn1 : 1 ≤ (zct (fun s => zmk σ s f) 6) := Nat.pos_of_ne_zero (fun q => h2 (by rw [q]; rfl))
      refine z_iconst (v := 0) dX11_estimate_25 (by decide) ?_
      refine z_V1 (mi' := mX11_fails) dX11_estimate_26 lX11_149 nX11_fails kX11_fails (by decide) (Nat.le_of_ble_eq_true rfl) (Nat.le_refl _) (Nat.le_refl _) (hM.1 _ (by decide)) rfl rfl ?_
      refine sX11_fails hM (fun G1 hM hQ => ?_)
      replace hL := zrel_u (j := 7) (x := 0) hL
      rw [zfb0]
      refine z_if_eq (tgt := 34) dX11_estimate_29 (by decide) (fun c3 => ?_) (fun c3 => ?_)
      · refine z_iconst (v := 0) dX11_estimate_34 (by decide) ?_
        refine z_istore_n dX11_estimate_35 (by decide) rfl ?_
        refine z_iconst (v := 0) dX11_estimate_36 (by decide) ?_
        refine z_istore_n dX11_estimate_37 (by decide) rfl ?_
        have key : ∀ (r : Nat) (i : Nat), i ≤ S → S < i + r → zX Γ mX11_estimate (d + 3) 0 0 38 [some (.ref (am 0)), some (.int (nI f)), some (.int (ztold σ E f i)), some (.int (nI i))] [] G1 0 0 (zlift Post) := by
          intro r
          induction r with
          | zero =>
            intro i hi1 hi2
            exact absurd hi2 (by omega)
          | succ r ih =>
            intro i hi1 hi2
            refine z_iload_n dX11_estimate_38 rfl ?_
            refine z_aload_n dX11_estimate_39 rfl ?_
            refine z_get dX11_estimate_40 fX11_7.r (hM.1 _ (by decide)) rfl ?_
            refine z_iconst (v := 4) dX11_estimate_43 (by decide) ?_
            refine z_iald dX11_estimate_44 (hM.1 1 (by decide)) (show vp_in (nI 4) 229 from vp_in_nI (by decide) (by decide)) ?_
            rw [show zu μ 0 7 0 1 (Int32.toNatClampNeg 4) = nI S from hL.sc.2.2.2.2.1]
            refine z_icmp_ge (tgt := 93) dX11_estimate_45 (by decide) (fun c1 => ?_) (fun c1 => ?_)
            · have hi9 := zgeN (N := S) rfl (by omega) (by omega) c1
              refine z_iload_n dX11_estimate_93 rfl ?_
              refine z_i2d dX11_estimate_94 ?_
              refine z_aload_n dX11_estimate_95 rfl ?_
              refine z_iload_n dX11_estimate_96 rfl ?_
              refine z_V1 (mi' := mX11_marksFor) dX11_estimate_97 lX11_155 nX11_marksFor kX11_marksFor (by decide) (Nat.le_of_ble_eq_true rfl) (Nat.le_refl _) (Nat.le_refl _) (hM.1 _ (by decide)) rfl rfl ?_
              refine sX11_marksFor hM hL (show f < 12 by omega) ?_
              refine z_i2d dX11_estimate_100 ?_
              refine z_ddiv dX11_estimate_101 (by rw [show i = S by omega]; exact zfpd (by have := hB.told hf hS6 S (Nat.le_refl S); unfold zBet at this; omega) hcn1 (zct_le _ 6)) ?_
              exact z_dreturn (mi := mX11_estimate) dX11_estimate_102 rfl (Nat.le_refl _) (Nat.le_refl _) (by rw [show i = S by omega]; exact hP _ _ _ (by rw [zoEst, if_neg h1, nI_clamp (by omega), if_neg h2]; exact ⟨rfl, rfl⟩) hM hQ)
            · have hi9 := zltN (N := S) rfl (by omega) (by omega) c1
              refine z_aload_n dX11_estimate_48 rfl ?_
              refine z_iload_n dX11_estimate_49 rfl ?_
              refine z_iload_n dX11_estimate_50 rfl ?_
              refine z_V2 (mi' := mX11_placeOf) dX11_estimate_51 lX11_111 nX11_placeOf kX11_placeOf (by decide) (Nat.le_of_ble_eq_true rfl) (Nat.le_refl _) (Nat.le_refl _) (hM.1 _ (by decide)) rfl rfl ?_
              refine sX11_placeOf hM hL hi9 (show f < 12 by omega) ?_
              refine z_if_lt (tgt := 87) dX11_estimate_54 (by decide) (fun c2 => ?_) (fun c2 => ?_)
              · have n1 := hL.pln hi9 (show f < 12 by omega) (Int32.not_le.mpr c2)
                have e9 : ztold σ E f i = ztold σ E f (i + 1) := by rw [ztold, if_neg n1]
                refine z_iinc dX11_estimate_87 rfl rfl (by decide) rfl ?_
                refine z_goto (tgt := 38) dX11_estimate_90 (by decide) ?_
                exact z_sub (lv' := [some (.ref (am 0)), some (.int (nI f)), some (.int (ztold σ E f (i + 1))), some (.int (nI (i + 1)))]) ⟨rfl, rfl, zsl e9, zsl (zinc i), trivial⟩ (ih (i + 1) (by omega) (by omega))
              · obtain ⟨k, hk, ek, ef, n1⟩ := hL.plk hi9 (show f < 12 by omega) (Int32.not_lt.mp c2)
                have e9 : ztold σ E f i + (ztrue σ E i f + σ 1 i + σ 0 i / 5) = ztold σ E f (i + 1) := by rw [ztold, if_pos n1, zt3]
                refine z_iload_n dX11_estimate_57 rfl ?_
                refine z_aload_n dX11_estimate_58 rfl ?_
                refine z_iload_n dX11_estimate_59 rfl ?_
                refine z_aload_n dX11_estimate_60 rfl ?_
                refine z_iload_n dX11_estimate_61 rfl ?_
                refine z_iload_n dX11_estimate_62 rfl ?_
                refine z_V2 (mi' := mX11_placeOf) dX11_estimate_63 lX11_111 nX11_placeOf kX11_placeOf (by decide) (Nat.le_of_ble_eq_true rfl) (Nat.le_refl _) (Nat.le_refl _) (hM.1 _ (by decide)) rfl rfl ?_
                refine sX11_placeOf hM hL hi9 (show f < 12 by omega) ?_
                rw [ek]
                refine z_V2 (mi' := mX11_trueOf) dX11_estimate_66 lX11_137 nX11_trueOf kX11_trueOf (by decide) (Nat.le_of_ble_eq_true rfl) (Nat.le_refl _) (Nat.le_refl _) (hM.1 _ (by decide)) rfl rfl ?_
                refine sX11_trueOf hM hL hi9 hk ?_
                rw [ef]
                refine z_aload_n dX11_estimate_69 rfl ?_
                refine z_iload_n dX11_estimate_70 rfl ?_
                refine z_iconst (v := 1) dX11_estimate_71 (by decide) ?_
                refine z_V2 (mi' := mX11_of) dX11_estimate_72 lX11_70 nX11_of kX11_of (by decide) (Nat.le_of_ble_eq_true rfl) (Nat.le_refl _) (Nat.le_refl _) (hM.1 _ (by decide)) rfl rfl ?_
                refine sX11_of hM (s := i) (w := 1) (by omega) ?_
                rw [show zu μ 0 7 0 1 (5 + 29 * i + 1) = _ from (hL.st hi9).2.1]
                refine z_iadd dX11_estimate_75 ?_
                refine z_aload_n dX11_estimate_76 rfl ?_
                refine z_iload_n dX11_estimate_77 rfl ?_
                refine z_iconst (v := 0) dX11_estimate_78 (by decide) ?_
                refine z_V2 (mi' := mX11_of) dX11_estimate_79 lX11_70 nX11_of kX11_of (by decide) (Nat.le_of_ble_eq_true rfl) (Nat.le_refl _) (Nat.le_refl _) (hM.1 _ (by decide)) rfl rfl ?_
                refine sX11_of hM (s := i) (w := 0) (by omega) ?_
                rw [show zu μ 0 7 0 1 (5 + 29 * i + 0) = _ from (hL.st hi9).1]
                refine z_iconst (v := 5) dX11_estimate_82 (by decide) ?_
                refine z_idiv dX11_estimate_83 (by decide) ?_
                refine z_iadd dX11_estimate_84 ?_
                refine z_iadd dX11_estimate_85 ?_
                refine z_istore_n dX11_estimate_86 (by decide) rfl ?_
                refine z_iinc dX11_estimate_87 rfl rfl (by decide) rfl ?_
                refine z_goto (tgt := 38) dX11_estimate_90 (by decide) ?_
                exact z_sub (lv' := [some (.ref (am 0)), some (.int (nI f)), some (.int (ztold σ E f (i + 1))), some (.int (nI (i + 1)))]) ⟨rfl, rfl, zsl e9, zsl (zinc i), trivial⟩ (ih (i + 1) (by omega) (by omega))
        exact z_sub (lv' := [some (.ref (am 0)), some (.int (nI f)), some (.int (ztold σ E f 0)), some (.int (nI 0))]) ⟨rfl, rfl, rfl, rfl, trivial⟩ (key (S + 1) 0 (by omega) (by omega))
      · exact absurd rfl c3
    · have h2 : nI (zct (fun s => zmk σ s f) 6) = 0 := c2
      refine z_iconst (v := 2) dX11_estimate_21 (by decide) ?_
      refine z_goto (tgt := 26) dX11_estimate_22 (by decide) ?_
      refine z_V1 (mi' := mX11_fails) dX11_estimate_26 lX11_149 nX11_fails kX11_fails (by decide) (Nat.le_of_ble_eq_true rfl) (Nat.le_refl _) (Nat.le_refl _) (hM.1 _ (by decide)) rfl rfl ?_
      refine sX11_fails hM (fun G1 hM hQ => ?_)
      replace hL := zrel_u (j := 7) (x := 2) hL
      rw [zfb2]
      refine z_if_eq (tgt := 34) dX11_estimate_29 (by decide) (fun c4 => ?_) (fun c4 => ?_)
      · exact absurd c4 zi10
      · refine z_dconst0 dX11_estimate_32 ?_
        exact z_dreturn (mi := mX11_estimate) dX11_estimate_33 rfl (Nat.le_refl _) (Nat.le_refl _) (hP _ _ _ (by rw [zoEst, if_neg h1, nI_clamp (by omega), if_pos h2]; rfl) hM hQ)
  · have h1 : ¬ (0 ≤ x ∧ x < σ 13 2) := by rw [hL.n.2.2.1]; exact zb_0.mp c1
    refine z_iconst (v := 1) dX11_estimate_9 (by decide) ?_
    refine z_goto (tgt := 26) dX11_estimate_10 (by decide) ?_
    refine z_V1 (mi' := mX11_fails) dX11_estimate_26 lX11_149 nX11_fails kX11_fails (by decide) (Nat.le_of_ble_eq_true rfl) (Nat.le_refl _) (Nat.le_refl _) (hM.1 _ (by decide)) rfl rfl ?_
    refine sX11_fails hM (fun G1 hM hQ => ?_)
    replace hL := zrel_u (j := 7) (x := 1) hL
    rw [zfb1]
    refine z_if_eq (tgt := 34) dX11_estimate_29 (by decide) (fun c5 => ?_) (fun c5 => ?_)
    · exact absurd c5 zi10
    · refine z_dconst0 dX11_estimate_32 ?_
      exact z_dreturn (mi := mX11_estimate) dX11_estimate_33 rfl (Nat.le_refl _) (Nat.le_refl _) (hP _ _ _ (by rw [zoEst, if_pos h1]; rfl) hM hQ)
set_option maxHeartbeats 4000000 in
set_option maxRecDepth 10000 in
theorem sX11_meanEdge {Γ : zG} {d : Nat} {G : zH} {Post : zV} {am : Nat → Nat} {μ : zSt} (hM : zMod G am μ) {σ : zSt} {S F E K : Nat} {mm : Nat → Nat} {fl : Nat → Nat → Nat} (hL : zRel σ S F E K (μ 1) mm fl) {Y : Int} (hB : zBnd σ S F E K Y) (hP : ∀ (r : UInt32) (c : Int32) (G1 : zH), zansF [zAE] (zoMean σ K) r c → zMod G1 am (zu μ 0 7 c) → zFrm G G1 am 8 → Post (some (.float r)) G1) : zM Γ (d + 1) mX11_meanEdge 0 0 [.ref (am 0)] G Post := by
  refine zM_of pnX11 rfl (Nat.le_of_ble_eq_true rfl) rfl ?_
  have hS6 := hL.S6
  have hF12 := hL.F12
  have hE4 := hL.E4
  have hK3 := hL.K3
  have key : ∀ (r : Nat) (i : Nat), i ≤ K → K < i + r → zX Γ mX11_meanEdge (d + 1) 0 0 4 [some (.ref (am 0)), some (.int (zsumI (σ 9) i)), some (.int (nI i))] [] G 0 0 (zlift Post) := by
    intro r
    induction r with
    | zero =>
      intro i hi1 hi2
      exact absurd hi2 (by omega)
    | succ r ih =>
      intro i hi1 hi2
      refine z_iload_n dX11_meanEdge_4 rfl ?_
      refine z_aload_n dX11_meanEdge_5 rfl ?_
      refine z_get dX11_meanEdge_6 fX11_7.r (hM.1 _ (by decide)) rfl ?_
      refine z_sipush (v := 225) dX11_meanEdge_9 (by decide) ?_
      refine z_iald dX11_meanEdge_12 (hM.1 1 (by decide)) (show vp_in (nI 225) 229 from vp_in_nI (by decide) (by decide)) ?_
      rw [show μ 1 (Int32.toNatClampNeg 225) = nI K from hL.sc.2.2.2.2.2.2.2]
      refine z_icmp_ge (tgt := 35) dX11_meanEdge_13 (by decide) (fun c1 => ?_) (fun c1 => ?_)
      · have hi9 := zgeN (N := K) rfl (by omega) (by omega) c1
        refine z_aload_n dX11_meanEdge_35 rfl ?_
        refine z_aload_n dX11_meanEdge_36 rfl ?_
        refine z_get dX11_meanEdge_37 fX11_7.r (hM.1 _ (by decide)) rfl ?_
        refine z_sipush (v := 225) dX11_meanEdge_40 (by decide) ?_
        refine z_iald dX11_meanEdge_43 (hM.1 1 (by decide)) (show vp_in (nI 225) 229 from vp_in_nI (by decide) (by decide)) ?_
        rw [show μ 1 (Int32.toNatClampNeg 225) = nI K from hL.sc.2.2.2.2.2.2.2]
        refine z_if_ne (tgt := 51) dX11_meanEdge_44 (by decide) (fun c2 => ?_) (fun c2 => ?_)
        · have h2 : ¬ K = 0 := fun q => c2 (by rw [q]; rfl)
          refine z_iconst (v := 0) dX11_meanEdge_51 (by decide) ?_
          refine z_V1 (mi' := mX11_fails) dX11_meanEdge_52 lX11_149 nX11_fails kX11_fails (by decide) (Nat.le_of_ble_eq_true rfl) (Nat.le_refl _) (Nat.le_refl _) (hM.1 _ (by decide)) rfl rfl ?_
          refine sX11_fails hM (fun G1 hM hQ => ?_)
          replace hL := zrel_u (j := 7) (x := 0) hL
          rw [zfb0]
          refine z_if_eq (tgt := 62) dX11_meanEdge_55 (by decide) (fun c3 => ?_) (fun c3 => ?_)
          · refine z_iload_n dX11_meanEdge_62 rfl ?_
            refine z_i2f dX11_meanEdge_63 ?_
            refine z_aload_n dX11_meanEdge_64 rfl ?_
            refine z_get dX11_meanEdge_65 fX11_7.r (hM.1 _ (by decide)) rfl ?_
            refine z_sipush (v := 225) dX11_meanEdge_68 (by decide) ?_
            refine z_iald dX11_meanEdge_71 (hM.1 1 (by decide)) (show vp_in (nI 225) 229 from vp_in_nI (by decide) (by decide)) ?_
            rw [show zu μ 0 7 0 1 (Int32.toNatClampNeg 225) = nI K from hL.sc.2.2.2.2.2.2.2]
            refine z_i2f dX11_meanEdge_72 ?_
            refine z_fdiv dX11_meanEdge_73 (by rw [show i = K by omega]; exact zfpf (zBet_up (hB.edges hK3 K (Nat.le_refl K)) (by omega)) (by omega) hK3) ?_
            exact z_freturn (mi := mX11_meanEdge) dX11_meanEdge_74 rfl (Nat.le_refl _) (Nat.le_refl _) (by rw [show i = K by omega]; exact hP _ _ _ (by rw [zoMean, hL.n.2.2.2.2.2.2.1, if_neg (fun (q : nI K = 0) => h2 (znI_inj (by omega) (by decide) (show nI K = nI 0 from q)))]; exact ⟨rfl, rfl⟩) hM hQ)
          · exact absurd rfl c3
        · have h2 : K = 0 := znI_inj (by omega) (by decide) (show nI K = nI 0 from c2)
          refine z_iconst (v := 1) dX11_meanEdge_47 (by decide) ?_
          refine z_goto (tgt := 52) dX11_meanEdge_48 (by decide) ?_
          refine z_V1 (mi' := mX11_fails) dX11_meanEdge_52 lX11_149 nX11_fails kX11_fails (by decide) (Nat.le_of_ble_eq_true rfl) (Nat.le_refl _) (Nat.le_refl _) (hM.1 _ (by decide)) rfl rfl ?_
          refine sX11_fails hM (fun G1 hM hQ => ?_)
          replace hL := zrel_u (j := 7) (x := 1) hL
          rw [zfb1]
          refine z_if_eq (tgt := 62) dX11_meanEdge_55 (by decide) (fun c4 => ?_) (fun c4 => ?_)
          · exact absurd c4 zi10
          · refine z_fconst0 dX11_meanEdge_58 ?_
            refine z_goto (tgt := 74) dX11_meanEdge_59 (by decide) ?_
            exact z_freturn (mi := mX11_meanEdge) dX11_meanEdge_74 rfl (Nat.le_refl _) (Nat.le_refl _) (hP _ _ _ (by rw [zoMean, hL.n.2.2.2.2.2.2.1, if_pos (by rw [h2]; rfl)]; rfl) hM hQ)
      · have hi9 := zltN (N := K) rfl (by omega) (by omega) c1
        refine z_iload_n dX11_meanEdge_16 rfl ?_
        refine z_aload_n dX11_meanEdge_17 rfl ?_
        refine z_get dX11_meanEdge_18 fX11_7.r (hM.1 _ (by decide)) rfl ?_
        refine z_sipush (v := 226) dX11_meanEdge_21 (by decide) ?_
        refine z_iload_n dX11_meanEdge_24 rfl ?_
        refine z_iadd dX11_meanEdge_25 ?_
        rw [zixC]
        refine z_iald dX11_meanEdge_26 (hM.1 1 (by decide)) (vp_in_nI (show 226 + i < 229 by omega) (by decide)) ?_
        rw [nI_clamp (show 226 + i < 2147483648 by omega), hL.ch hi9]
        refine z_iadd dX11_meanEdge_27 ?_
        refine z_istore_n dX11_meanEdge_28 (by decide) rfl ?_
        refine z_iinc dX11_meanEdge_29 rfl rfl (by decide) rfl ?_
        refine z_goto (tgt := 4) dX11_meanEdge_32 (by decide) ?_
        exact z_sub (lv' := [some (.ref (am 0)), some (.int (zsumI (σ 9) (i + 1))), some (.int (nI (i + 1)))]) ⟨rfl, rfl, zsl (zinc i), trivial⟩ (ih (i + 1) (by omega) (by omega))
  refine z_iconst (v := 0) dX11_meanEdge_0 (by decide) ?_
  refine z_istore_n dX11_meanEdge_1 (by decide) rfl ?_
  refine z_iconst (v := 0) dX11_meanEdge_2 (by decide) ?_
  refine z_istore_n dX11_meanEdge_3 (by decide) rfl ?_
  exact z_sub (lv' := [some (.ref (am 0)), some (.int (zsumI (σ 9) 0)), some (.int (nI 0))]) ⟨rfl, rfl, rfl, trivial⟩ (key (K + 1) 0 (by omega) (by omega))
