theorem zb_cong {p q : Prop} [Decidable p] [Decidable q] (h : p ↔ q) : zb p = zb q := by
  by_cases hp : p
  · rw [zb_t hp, zb_t (h.mp hp)]
  · rw [zb_f hp, zb_f (fun c => hp (h.mpr c))]
theorem zbn {p : Prop} [Decidable p] : narrow FieldType.boolean (.int (zb p)) = .int (zb p) := by
  by_cases hp : p
  · rw [zb_t hp]; rfl
  · rw [zb_f hp]; rfl
set_option maxHeartbeats 4000000 in
set_option maxRecDepth 10000 in
theorem sX11_thrown {Γ : zG} {d : Nat} {G : zH} {Post : zV} {am : Nat → Nat} {μ : zSt} (hM : zMod G am μ) (hP : Post (some (.int (μ 0 7))) G) : zM Γ d mX11_thrown 0 0 [.ref (am 0)] G Post := by
  refine zM_of pnX11 rfl (Nat.le_of_ble_eq_true rfl) rfl ?_
  refine z_aload_n dX11_thrown_0 rfl ?_
  refine z_get dX11_thrown_1 fX11_36.r (hM.1 _ (by decide)) rfl ?_
  exact z_ireturn (mi := mX11_thrown) dX11_thrown_4 rfl rfl (Nat.le_refl _) (Nat.le_refl _) (hP)
set_option maxHeartbeats 4000000 in
set_option maxRecDepth 10000 in
theorem sX11_fails {Γ : zG} {d : Nat} {G : zH} {Post : zV} {am : Nat → Nat} {μ : zSt} (hM : zMod G am μ) {p : Int32} (hP : ∀ G1, zMod G1 am (zu μ 0 7 p) → zFrm G G1 am 8 → Post (some (.int (zb (0 < p)))) G1) : zM Γ d mX11_fails 0 0 [.ref (am 0), .int p] G Post := by
  refine zM_of pnX11 rfl (Nat.le_of_ble_eq_true rfl) rfl ?_
  have hQ : zFrm G G am 8 := zFrm.rf
  refine z_aload_n dX11_fails_0 rfl ?_
  refine z_iload_n dX11_fails_1 rfl ?_
  refine z_put dX11_fails_2 fX11_36 (hM.1 _ (by decide)) rfl rfl (Nat.le_of_ble_eq_true rfl) ?_
  refine z_mset hM 0 7 (p) (by decide) rfl (fun _ hM hF => ?_)
  have hQ := hQ.tr hF
  refine z_iload_n dX11_fails_5 rfl ?_
  refine z_if_le (tgt := 13) dX11_fails_6 (by decide) (fun c1 => ?_) (fun c1 => ?_)
  · refine z_iconst (v := 0) dX11_fails_13 (by decide) ?_
    exact z_ireturn (mi := mX11_fails) dX11_fails_14 rfl rfl (Nat.le_refl _) (Nat.le_refl _) (by rw [zb_f (Int32.not_lt.mpr c1)] at hP; exact hP _ hM hQ)
  · refine z_iconst (v := 1) dX11_fails_9 (by decide) ?_
    refine z_goto (tgt := 14) dX11_fails_10 (by decide) ?_
    exact z_ireturn (mi := mX11_fails) dX11_fails_14 rfl rfl (Nat.le_refl _) (Nat.le_refl _) (by rw [zb_t (Int32.not_le.mp c1)] at hP; exact hP _ hM hQ)
/-- what a refusal leaves in the reference -/
def zmref (μ : zSt) (rn rd : Int32) : zSt := zu (zu (zu (zu μ 0 7 1) 0 8 rn) 0 9 rd) 0 10 (if μ 0 6 = 0 then 0 else μ 0 11)
set_option maxHeartbeats 4000000 in
set_option maxRecDepth 10000 in
theorem sX11_refuses {Γ : zG} {d : Nat} {G : zH} {Post : zV} {am : Nat → Nat} {μ : zSt} (hM : zMod G am μ) {r p : Int32} (hP : ∀ G1, zMod G1 am (zmref μ r p) → zFrm G G1 am 8 → Post (some (.int 0)) G1) : zM Γ d mX11_refuses 0 0 [.ref (am 0), .int r, .int p] G Post := by
  refine zM_of pnX11 rfl (Nat.le_of_ble_eq_true rfl) rfl ?_
  have hQ : zFrm G G am 8 := zFrm.rf
  refine z_aload_n dX11_refuses_0 rfl ?_
  refine z_iconst (v := 1) dX11_refuses_1 (by decide) ?_
  refine z_put dX11_refuses_2 fX11_36 (hM.1 _ (by decide)) rfl rfl (Nat.le_of_ble_eq_true rfl) ?_
  refine z_mset hM 0 7 (1) (by decide) rfl (fun _ hM hF => ?_)
  have hQ := hQ.tr hF
  refine z_aload_n dX11_refuses_5 rfl ?_
  refine z_iload_n dX11_refuses_6 rfl ?_
  refine z_put dX11_refuses_7 fX11_39 (hM.1 _ (by decide)) rfl rfl (Nat.le_of_ble_eq_true rfl) ?_
  refine z_mset hM 0 8 (r) (by decide) rfl (fun _ hM hF => ?_)
  have hQ := hQ.tr hF
  refine z_aload_n dX11_refuses_10 rfl ?_
  refine z_iload_n dX11_refuses_11 rfl ?_
  refine z_put dX11_refuses_12 fX11_42 (hM.1 _ (by decide)) rfl rfl (Nat.le_of_ble_eq_true rfl) ?_
  refine z_mset hM 0 9 (p) (by decide) rfl (fun _ hM hF => ?_)
  have hQ := hQ.tr hF
  refine z_aload_n dX11_refuses_15 rfl ?_
  refine z_aload_n dX11_refuses_16 rfl ?_
  refine z_get dX11_refuses_17 fX11_45.r (hM.1 _ (by decide)) rfl ?_
  refine z_if_eq (tgt := 30) dX11_refuses_20 (by decide) (fun c1 => ?_) (fun c1 => ?_)
  · have e9 : (0 : Int32) = (if μ 0 6 = 0 then 0 else μ 0 11) := (if_pos c1).symm
    refine z_iconst (v := 0) dX11_refuses_30 (by decide) ?_
    rw [e9]
    refine z_put dX11_refuses_31 fX11_52 (hM.1 _ (by decide)) rfl rfl (Nat.le_of_ble_eq_true rfl) ?_
    refine z_mset hM 0 10 (if μ 0 6 = 0 then 0 else μ 0 11) (by decide) rfl (fun _ hM hF => ?_)
    have hQ := hQ.tr hF
    refine z_iconst (v := 0) dX11_refuses_34 (by decide) ?_
    exact z_ireturn (mi := mX11_refuses) dX11_refuses_35 rfl rfl (Nat.le_refl _) (Nat.le_refl _) (hP _ hM hQ)
  · have e9 : (zu (zu (zu μ 0 7 1) 0 8 r) 0 9 p) 0 11 = (if μ 0 6 = 0 then 0 else μ 0 11) := (if_neg c1).symm
    refine z_aload_n dX11_refuses_23 rfl ?_
    refine z_get dX11_refuses_24 fX11_49.r (hM.1 _ (by decide)) rfl ?_
    refine z_goto (tgt := 31) dX11_refuses_27 (by decide) ?_
    rw [e9]
    refine z_put dX11_refuses_31 fX11_52 (hM.1 _ (by decide)) rfl rfl (Nat.le_of_ble_eq_true rfl) ?_
    refine z_mset hM 0 10 (if μ 0 6 = 0 then 0 else μ 0 11) (by decide) rfl (fun _ hM hF => ?_)
    have hQ := hQ.tr hF
    refine z_iconst (v := 0) dX11_refuses_34 (by decide) ?_
    exact z_ireturn (mi := mX11_refuses) dX11_refuses_35 rfl rfl (Nat.le_refl _) (Nat.le_refl _) (hP _ hM hQ)
set_option maxHeartbeats 4000000 in
set_option maxRecDepth 10000 in
theorem sX11_in {Γ : zG} {d : Nat} {G : zH} {Post : zV} {x a b : Int32} (hP : Post (some (.int (zb (a ≤ x ∧ x ≤ b)))) G) : zM Γ d mX11_in 0 0 [.int x, .int a, .int b] G Post := by
  refine zM_of pnX11 rfl (Nat.le_of_ble_eq_true rfl) rfl ?_
  refine z_iload_n dX11_in_0 rfl ?_
  refine z_iload_n dX11_in_1 rfl ?_
  refine z_icmp_lt (tgt := 14) dX11_in_2 (by decide) (fun c1 => ?_) (fun c1 => ?_)
  · refine z_iconst (v := 0) dX11_in_14 (by decide) ?_
    exact z_ireturn (mi := mX11_in) dX11_in_15 rfl rfl (Nat.le_refl _) (Nat.le_refl _) (by rw [zb_f (fun q => Int32.not_le.mpr c1 q.1)] at hP; exact hP)
  · refine z_iload_n dX11_in_5 rfl ?_
    refine z_iload_n dX11_in_6 rfl ?_
    refine z_icmp_gt (tgt := 14) dX11_in_7 (by decide) (fun c2 => ?_) (fun c2 => ?_)
    · refine z_iconst (v := 0) dX11_in_14 (by decide) ?_
      exact z_ireturn (mi := mX11_in) dX11_in_15 rfl rfl (Nat.le_refl _) (Nat.le_refl _) (by rw [zb_f (fun q => Int32.not_le.mpr c2 q.2)] at hP; exact hP)
    · refine z_iconst (v := 1) dX11_in_10 (by decide) ?_
      refine z_goto (tgt := 15) dX11_in_11 (by decide) ?_
      exact z_ireturn (mi := mX11_in) dX11_in_15 rfl rfl (Nat.le_refl _) (Nat.le_refl _) (by rw [zb_t ⟨Int32.not_lt.mp c1, Int32.not_lt.mp c2⟩] at hP; exact hP)
set_option maxHeartbeats 4000000 in
set_option maxRecDepth 10000 in
theorem sX11_less {Γ : zG} {d : Nat} {G : zH} {Post : zV} {a b : Int32} (hP : Post (some (.int (if a < b then a else b))) G) : zM Γ d mX11_less 0 0 [.int a, .int b] G Post := by
  refine zM_of pnX11 rfl (Nat.le_of_ble_eq_true rfl) rfl ?_
  refine z_iload_n dX11_less_0 rfl ?_
  refine z_iload_n dX11_less_1 rfl ?_
  refine z_icmp_ge (tgt := 9) dX11_less_2 (by decide) (fun c1 => ?_) (fun c1 => ?_)
  · refine z_iload_n dX11_less_9 rfl ?_
    exact z_ireturn (mi := mX11_less) dX11_less_10 rfl rfl (Nat.le_refl _) (Nat.le_refl _) (by rw [if_neg (Int32.not_lt.mpr c1)] at hP; exact hP)
  · refine z_iload_n dX11_less_5 rfl ?_
    refine z_goto (tgt := 10) dX11_less_6 (by decide) ?_
    exact z_ireturn (mi := mX11_less) dX11_less_10 rfl rfl (Nat.le_refl _) (Nat.le_refl _) (by rw [if_pos (Int32.not_le.mp c1)] at hP; exact hP)
set_option maxHeartbeats 4000000 in
set_option maxRecDepth 10000 in
theorem sX11_more {Γ : zG} {d : Nat} {G : zH} {Post : zV} {a b : Int32} (hP : Post (some (.int (if b < a then a else b))) G) : zM Γ d mX11_more 0 0 [.int a, .int b] G Post := by
  refine zM_of pnX11 rfl (Nat.le_of_ble_eq_true rfl) rfl ?_
  refine z_iload_n dX11_more_0 rfl ?_
  refine z_iload_n dX11_more_1 rfl ?_
  refine z_icmp_le (tgt := 9) dX11_more_2 (by decide) (fun c1 => ?_) (fun c1 => ?_)
  · refine z_iload_n dX11_more_9 rfl ?_
    exact z_ireturn (mi := mX11_more) dX11_more_10 rfl rfl (Nat.le_refl _) (Nat.le_refl _) (by rw [if_neg (Int32.not_lt.mpr c1)] at hP; exact hP)
  · refine z_iload_n dX11_more_5 rfl ?_
    refine z_goto (tgt := 10) dX11_more_6 (by decide) ?_
    exact z_ireturn (mi := mX11_more) dX11_more_10 rfl rfl (Nat.le_refl _) (Nat.le_refl _) (by rw [if_pos (Int32.not_le.mp c1)] at hP; exact hP)
set_option maxHeartbeats 4000000 in
set_option maxRecDepth 10000 in
theorem sX11_of {Γ : zG} {d : Nat} {G : zH} {Post : zV} {am : Nat → Nat} {μ : zSt} (hM : zMod G am μ) {s w : Nat} (h : 5 + 29 * s + w < 229) (hP : Post (some (.int (μ 1 (5 + 29 * s + w)))) G) : zM Γ d mX11_of 0 0 [.ref (am 0), .int (nI s), .int (nI w)] G Post := by
  refine zM_of pnX11 rfl (Nat.le_of_ble_eq_true rfl) rfl ?_
  refine z_aload_n dX11_of_0 rfl ?_
  refine z_get dX11_of_1 fX11_7.r (hM.1 _ (by decide)) rfl ?_
  refine z_iconst (v := 5) dX11_of_4 (by decide) ?_
  refine z_bipush (v := 29) dX11_of_5 (by decide) ?_
  refine z_iload_n dX11_of_7 rfl ?_
  refine z_imul dX11_of_8 ?_
  refine z_iadd dX11_of_9 ?_
  refine z_iload_n dX11_of_10 rfl ?_
  refine z_iadd dX11_of_11 ?_
  rw [zixO]
  refine z_iald dX11_of_12 (hM.1 1 (by decide)) (vp_in_nI h (by decide)) ?_
  exact z_ireturn (mi := mX11_of) dX11_of_13 rfl rfl (Nat.le_refl _) (Nat.le_refl _) (by rw [nI_clamp (by omega)]; exact hP)
set_option maxHeartbeats 4000000 in
set_option maxRecDepth 10000 in
theorem sX11_lays {Γ : zG} {d : Nat} {G : zH} {Post : zV} {am : Nat → Nat} {μ : zSt} (hM : zMod G am μ) {s w : Nat} {x : Int32} (h : 5 + 29 * s + w < 229) (hP : ∀ G1, zMod G1 am (zu μ 1 (5 + 29 * s + w) x) → zFrm G G1 am 8 → Post (none) G1) : zM Γ d mX11_lays 0 0 [.ref (am 0), .int (nI s), .int (nI w), .int x] G Post := by
  refine zM_of pnX11 rfl (Nat.le_of_ble_eq_true rfl) rfl ?_
  refine z_aload_n dX11_lays_0 rfl ?_
  refine z_get dX11_lays_1 fX11_7.r (hM.1 _ (by decide)) rfl ?_
  refine z_iconst (v := 5) dX11_lays_4 (by decide) ?_
  refine z_bipush (v := 29) dX11_lays_5 (by decide) ?_
  refine z_iload_n dX11_lays_7 rfl ?_
  refine z_imul dX11_lays_8 ?_
  refine z_iadd dX11_lays_9 ?_
  refine z_iload_n dX11_lays_10 rfl ?_
  refine z_iadd dX11_lays_11 ?_
  refine z_iload_n dX11_lays_12 rfl ?_
  rw [zixO]
  refine z_iast dX11_lays_13 (hM.1 1 (by decide)) (vp_in_nI h (by decide)) ?_
  rw [nI_clamp (by omega)]
  refine z_mset hM 1 (5 + 29 * s + w) x (by decide) (by simp only [zmE, zu_row]) (fun _ hM hF => ?_)
  exact z_vreturn (mi := mX11_lays) dX11_lays_14 rfl (Nat.le_refl _) (Nat.le_refl _) (hP _ hM hF)
set_option maxHeartbeats 4000000 in
set_option maxRecDepth 10000 in
theorem sX11_ofMark {Γ : zG} {d : Nat} {G : zH} {Post : zV} {am : Nat → Nat} {μ : zSt} (hM : zMod G am μ) {s k w : Nat} (h : 5 + 29 * s + 5 + 4 * k + w < 229) (hP : Post (some (.int (μ 1 (5 + 29 * s + 5 + 4 * k + w)))) G) : zM Γ d mX11_ofMark 0 0 [.ref (am 0), .int (nI s), .int (nI k), .int (nI w)] G Post := by
  refine zM_of pnX11 rfl (Nat.le_of_ble_eq_true rfl) rfl ?_
  refine z_aload_n dX11_ofMark_0 rfl ?_
  refine z_get dX11_ofMark_1 fX11_7.r (hM.1 _ (by decide)) rfl ?_
  refine z_iconst (v := 5) dX11_ofMark_4 (by decide) ?_
  refine z_bipush (v := 29) dX11_ofMark_5 (by decide) ?_
  refine z_iload_n dX11_ofMark_7 rfl ?_
  refine z_imul dX11_ofMark_8 ?_
  refine z_iadd dX11_ofMark_9 ?_
  refine z_iconst (v := 5) dX11_ofMark_10 (by decide) ?_
  refine z_iadd dX11_ofMark_11 ?_
  refine z_iconst (v := 4) dX11_ofMark_12 (by decide) ?_
  refine z_iload_n dX11_ofMark_13 rfl ?_
  refine z_imul dX11_ofMark_14 ?_
  refine z_iadd dX11_ofMark_15 ?_
  refine z_iload_n dX11_ofMark_16 rfl ?_
  refine z_iadd dX11_ofMark_17 ?_
  rw [zixM]
  refine z_iald dX11_ofMark_18 (hM.1 1 (by decide)) (vp_in_nI h (by decide)) ?_
  exact z_ireturn (mi := mX11_ofMark) dX11_ofMark_19 rfl rfl (Nat.le_refl _) (Nat.le_refl _) (by rw [nI_clamp (by omega)]; exact hP)
set_option maxHeartbeats 4000000 in
set_option maxRecDepth 10000 in
theorem sX11_ofFlood {Γ : zG} {d : Nat} {G : zH} {Post : zV} {am : Nat → Nat} {μ : zSt} (hM : zMod G am μ) {f w : Nat} (h : 180 + 3 * f + w < 229) (hP : Post (some (.int (μ 1 (180 + 3 * f + w)))) G) : zM Γ d mX11_ofFlood 0 0 [.ref (am 0), .int (nI f), .int (nI w)] G Post := by
  refine zM_of pnX11 rfl (Nat.le_of_ble_eq_true rfl) rfl ?_
  refine z_aload_n dX11_ofFlood_0 rfl ?_
  refine z_get dX11_ofFlood_1 fX11_7.r (hM.1 _ (by decide)) rfl ?_
  refine z_sipush (v := 180) dX11_ofFlood_4 (by decide) ?_
  refine z_iconst (v := 3) dX11_ofFlood_7 (by decide) ?_
  refine z_iload_n dX11_ofFlood_8 rfl ?_
  refine z_imul dX11_ofFlood_9 ?_
  refine z_iadd dX11_ofFlood_10 ?_
  refine z_iload_n dX11_ofFlood_11 rfl ?_
  refine z_iadd dX11_ofFlood_12 ?_
  rw [zixF]
  refine z_iald dX11_ofFlood_13 (hM.1 1 (by decide)) (vp_in_nI h (by decide)) ?_
  exact z_ireturn (mi := mX11_ofFlood) dX11_ofFlood_14 rfl rfl (Nat.le_refl _) (Nat.le_refl _) (by rw [nI_clamp (by omega)]; exact hP)
set_option maxHeartbeats 4000000 in
set_option maxRecDepth 10000 in
theorem sX11_isStone {Γ : zG} {d : Nat} {G : zH} {Post : zV} {am : Nat → Nat} {μ : zSt} (hM : zMod G am μ) {σ : zSt} {S F E K : Nat} {mm : Nat → Nat} {fl : Nat → Nat → Nat} (hL : zRel σ S F E K (μ 1) mm fl) {x : Int32} (hP : Post (some (.int (zb (0 ≤ x ∧ x < nI S)))) G) : zM Γ (d + 1) mX11_isStone 0 0 [.ref (am 0), .int x] G Post := by
  refine zM_of pnX11 rfl (Nat.le_of_ble_eq_true rfl) rfl ?_
  refine z_iload_n dX11_isStone_0 rfl ?_
  refine z_iconst (v := 0) dX11_isStone_1 (by decide) ?_
  refine z_aload_n dX11_isStone_2 rfl ?_
  refine z_get dX11_isStone_3 fX11_7.r (hM.1 _ (by decide)) rfl ?_
  refine z_iconst (v := 4) dX11_isStone_6 (by decide) ?_
  refine z_iald dX11_isStone_7 (hM.1 1 (by decide)) (show vp_in (nI 4) 229 from vp_in_nI (by decide) (by decide)) ?_
  rw [show μ 1 (Int32.toNatClampNeg 4) = nI S from hL.sc.2.2.2.2.1]
  refine z_iconst (v := 1) dX11_isStone_8 (by decide) ?_
  refine z_isub dX11_isStone_9 ?_
  refine z_S3 (mi' := mX11_in) dX11_isStone_10 lX11_62 nX11_in kX11_in (by decide) (Nat.le_of_ble_eq_true rfl) (Nat.le_refl _) (Nat.le_refl _) ?_
  refine sX11_in ?_
  exact z_ireturn (mi := mX11_isStone) dX11_isStone_13 rfl zbn (Nat.le_refl _) (Nat.le_refl _) (by rw [zb_cong (zlem1 (x := x) (n := S) (by have := hL.S6; omega))]; exact hP)
set_option maxHeartbeats 4000000 in
set_option maxRecDepth 10000 in
theorem sX11_isFlood {Γ : zG} {d : Nat} {G : zH} {Post : zV} {am : Nat → Nat} {μ : zSt} (hM : zMod G am μ) {σ : zSt} {S F E K : Nat} {mm : Nat → Nat} {fl : Nat → Nat → Nat} (hL : zRel σ S F E K (μ 1) mm fl) {x : Int32} (hP : Post (some (.int (zb (0 ≤ x ∧ x < nI F)))) G) : zM Γ (d + 1) mX11_isFlood 0 0 [.ref (am 0), .int x] G Post := by
  refine zM_of pnX11 rfl (Nat.le_of_ble_eq_true rfl) rfl ?_
  refine z_iload_n dX11_isFlood_0 rfl ?_
  refine z_iconst (v := 0) dX11_isFlood_1 (by decide) ?_
  refine z_aload_n dX11_isFlood_2 rfl ?_
  refine z_get dX11_isFlood_3 fX11_7.r (hM.1 _ (by decide)) rfl ?_
  refine z_sipush (v := 179) dX11_isFlood_6 (by decide) ?_
  refine z_iald dX11_isFlood_9 (hM.1 1 (by decide)) (show vp_in (nI 179) 229 from vp_in_nI (by decide) (by decide)) ?_
  rw [show μ 1 (Int32.toNatClampNeg 179) = nI F from hL.sc.2.2.2.2.2.1]
  refine z_iconst (v := 1) dX11_isFlood_10 (by decide) ?_
  refine z_isub dX11_isFlood_11 ?_
  refine z_S3 (mi' := mX11_in) dX11_isFlood_12 lX11_62 nX11_in kX11_in (by decide) (Nat.le_of_ble_eq_true rfl) (Nat.le_refl _) (Nat.le_refl _) ?_
  refine sX11_in ?_
  exact z_ireturn (mi := mX11_isFlood) dX11_isFlood_15 rfl zbn (Nat.le_refl _) (Nat.le_refl _) (by rw [zb_cong (zlem1 (x := x) (n := F) (by have := hL.F12; omega))]; exact hP)
set_option maxHeartbeats 4000000 in
set_option maxRecDepth 10000 in
theorem sX11_isChisel {Γ : zG} {d : Nat} {G : zH} {Post : zV} {am : Nat → Nat} {μ : zSt} (hM : zMod G am μ) {σ : zSt} {S F E K : Nat} {mm : Nat → Nat} {fl : Nat → Nat → Nat} (hL : zRel σ S F E K (μ 1) mm fl) {x : Int32} (hP : Post (some (.int (zb (0 ≤ x ∧ x < nI K)))) G) : zM Γ (d + 1) mX11_isChisel 0 0 [.ref (am 0), .int x] G Post := by
  refine zM_of pnX11 rfl (Nat.le_of_ble_eq_true rfl) rfl ?_
  refine z_iload_n dX11_isChisel_0 rfl ?_
  refine z_iconst (v := 0) dX11_isChisel_1 (by decide) ?_
  refine z_aload_n dX11_isChisel_2 rfl ?_
  refine z_get dX11_isChisel_3 fX11_7.r (hM.1 _ (by decide)) rfl ?_
  refine z_sipush (v := 225) dX11_isChisel_6 (by decide) ?_
  refine z_iald dX11_isChisel_9 (hM.1 1 (by decide)) (show vp_in (nI 225) 229 from vp_in_nI (by decide) (by decide)) ?_
  rw [show μ 1 (Int32.toNatClampNeg 225) = nI K from hL.sc.2.2.2.2.2.2.2]
  refine z_iconst (v := 1) dX11_isChisel_10 (by decide) ?_
  refine z_isub dX11_isChisel_11 ?_
  refine z_S3 (mi' := mX11_in) dX11_isChisel_12 lX11_62 nX11_in kX11_in (by decide) (Nat.le_of_ble_eq_true rfl) (Nat.le_refl _) (Nat.le_refl _) ?_
  refine sX11_in ?_
  exact z_ireturn (mi := mX11_isChisel) dX11_isChisel_15 rfl zbn (Nat.le_refl _) (Nat.le_refl _) (by rw [zb_cong (zlem1 (x := x) (n := K) (by have := hL.K3; omega))]; exact hP)
