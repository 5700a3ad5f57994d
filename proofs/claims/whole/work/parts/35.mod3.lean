theorem zct_ext {p : Nat → Bool} {S : Nat} : ∀ {N : Nat}, S ≤ N → (∀ k, S ≤ k → k < N → p k = false) → zct p N = zct p S
  | 0, h, _ => by rw [show S = 0 by omega]
  | N + 1, h, h1 => by
    by_cases e : S = N + 1
    · rw [e]
    · rw [zct, h1 N (by omega) (by omega), zct_ext (N := N) (by omega) (fun k a b => h1 k a (by omega))]
      rfl
theorem zmore0 (X : Int32) : (if X < 0 then 0 else X) = (if 0 < X then X else 0) := by
  have h0 : (0 : Int32).toInt = 0 := by decide
  by_cases h1 : X < 0
  · have h2 : ¬ 0 < X := fun q => by
      have a := Int32.lt_iff_toInt_lt.mp h1
      have b := Int32.lt_iff_toInt_lt.mp q
      omega
    rw [if_pos h1, if_neg h2]
  · rw [if_neg h1]
    by_cases h2 : 0 < X
    · rw [if_pos h2]
    · rw [if_neg h2]
      have a : ¬ X.toInt < (0 : Int32).toInt := fun q => h1 (Int32.lt_iff_toInt_lt.mpr q)
      have b : ¬ (0 : Int32).toInt < X.toInt := fun q => h2 (Int32.lt_iff_toInt_lt.mpr q)
      have e : X.toInt = (0 : Int32).toInt := by omega
      exact Int32.toInt_inj.mp e
/-- the reference's order of two floods -/
def zahM (σ : zSt) (cr : Nat → Int32) (a b : Nat) : Bool := if ¬ cr a = cr b then decide (cr b < cr a) else if ¬ σ 5 a = σ 5 b then decide (σ 5 b < σ 5 a) else decide (σ 4 a < σ 4 b)
/-- how many marks on a stone are lower -/
def zbl (σ : zSt) (mm : Nat → Nat) (fl : Nat → Nat → Nat) (s k : Nat) : Nat := zct (fun j => decide (σ 10 (12 * s + fl s j) < σ 10 (12 * s + fl s k))) (mm s)
set_option maxHeartbeats 4000000 in
set_option maxRecDepth 10000 in
theorem sX11_errs {Γ : zG} {d : Nat} {G : zH} {Post : zV} {x : Int32} (hP : Post (some (.int (zdrift x))) G) : zM Γ (d + 1) mX11_errs 0 0 [.int x] G Post := by
  refine zM_of pnX11 rfl (Nat.le_of_ble_eq_true rfl) rfl ?_
  refine z_iload_n dX11_errs_0 rfl ?_
  refine z_if_ge (tgt := 15) dX11_errs_1 (by decide) (fun c1 => ?_) (fun c1 => ?_)
  · refine z_bipush (v := 9) dX11_errs_15 (by decide) ?_
    refine z_iload_n dX11_errs_17 rfl ?_
    refine z_iconst (v := 1) dX11_errs_18 (by decide) ?_
    refine z_iadd dX11_errs_19 ?_
    refine z_S2 (mi' := mX11_less) dX11_errs_20 lX11_124 nX11_less kX11_less (by decide) (Nat.le_of_ble_eq_true rfl) (Nat.le_refl _) (Nat.le_refl _) ?_
    refine sX11_less ?_
    exact z_ireturn (mi := mX11_errs) dX11_errs_23 rfl rfl (Nat.le_refl _) (Nat.le_refl _) (by rw [zdrift, if_pos c1] at hP; exact hP)
  · refine z_bipush (v := (-9)) dX11_errs_4 (by decide) ?_
    refine z_iload_n dX11_errs_6 rfl ?_
    refine z_iconst (v := 1) dX11_errs_7 (by decide) ?_
    refine z_isub dX11_errs_8 ?_
    refine z_S2 (mi' := mX11_more) dX11_errs_9 lX11_98 nX11_more kX11_more (by decide) (Nat.le_of_ble_eq_true rfl) (Nat.le_refl _) (Nat.le_refl _) ?_
    refine sX11_more ?_
    refine z_goto (tgt := 23) dX11_errs_12 (by decide) ?_
    exact z_ireturn (mi := mX11_errs) dX11_errs_23 rfl rfl (Nat.le_refl _) (Nat.le_refl _) (by rw [zdrift, if_neg c1] at hP; exact hP)
set_option maxHeartbeats 4000000 in
set_option maxRecDepth 10000 in
theorem sX11_goneIn {Γ : zG} {d : Nat} {G : zH} {Post : zV} {am : Nat → Nat} {μ : zSt} (hM : zMod G am μ) {σ : zSt} {S F E K : Nat} {mm : Nat → Nat} {fl : Nat → Nat → Nat} (hL : zRel σ S F E K (μ 1) mm fl) {x : Int32} (hP : Post (some (.int ((σ 13 0 / 5 + x) * 5 - σ 13 0))) G) : zM Γ d mX11_goneIn 0 0 [.ref (am 0), .int x] G Post := by
  refine zM_of pnX11 rfl (Nat.le_of_ble_eq_true rfl) rfl ?_
  refine z_iconst (v := 5) dX11_goneIn_0 (by decide) ?_
  refine z_aload_n dX11_goneIn_1 rfl ?_
  refine z_get dX11_goneIn_2 fX11_7.r (hM.1 _ (by decide)) rfl ?_
  refine z_iconst (v := 0) dX11_goneIn_5 (by decide) ?_
  refine z_iald dX11_goneIn_6 (hM.1 1 (by decide)) (show vp_in (nI 0) 229 from vp_in_nI (by decide) (by decide)) ?_
  rw [show μ 1 (Int32.toNatClampNeg 0) = σ 13 0 from hL.sc.1]
  refine z_iconst (v := 5) dX11_goneIn_7 (by decide) ?_
  refine z_irem dX11_goneIn_8 (by decide) ?_
  refine z_isub dX11_goneIn_9 ?_
  refine z_iconst (v := 5) dX11_goneIn_10 (by decide) ?_
  refine z_iload_n dX11_goneIn_11 rfl ?_
  refine z_iconst (v := 1) dX11_goneIn_12 (by decide) ?_
  refine z_isub dX11_goneIn_13 ?_
  refine z_imul dX11_goneIn_14 ?_
  refine z_iadd dX11_goneIn_15 ?_
  exact z_ireturn (mi := mX11_goneIn) dX11_goneIn_16 rfl rfl (Nat.le_refl _) (Nat.le_refl _) (by rw [show (5 : Int32) - (σ 13 0 - σ 13 0 / 5 * 5) + 5 * (x - 1) = (σ 13 0 / 5 + x) * 5 - σ 13 0 from by grind]; exact hP)
set_option maxHeartbeats 4000000 in
set_option maxRecDepth 10000 in
theorem sX11_areInDoubt {Γ : zG} {d : Nat} {G : zH} {Post : zV} {am : Nat → Nat} {μ : zSt} (hM : zMod G am μ) {σ : zSt} {S F E K : Nat} {mm : Nat → Nat} {fl : Nat → Nat → Nat} (hL : zRel σ S F E K (μ 1) mm fl) {s a b : Nat} (hs : s < S) (ha : a < mm s) (hb : b < mm s) (hP : Post (some (.int (zb (zcmp (σ 5 (fl s a) - σ 5 (fl s b)) (ztrue σ E s (fl s a) - ztrue σ E s (fl s b)) = true)))) G) : zM Γ (d + 3) mX11_areInDoubt 0 0 [.ref (am 0), .int (nI s), .int (nI a), .int (nI b)] G Post := by
  refine zM_of pnX11 rfl (Nat.le_of_ble_eq_true rfl) rfl ?_
  have hS6 := hL.S6
  have hF12 := hL.F12
  have hE4 := hL.E4
  have hK3 := hL.K3
  have hfa := (hL.mk hs ha).1
  have hfb := (hL.mk hs hb).1
  refine z_aload_n dX11_areInDoubt_0 rfl ?_
  refine z_aload_n dX11_areInDoubt_1 rfl ?_
  refine z_iload_n dX11_areInDoubt_2 rfl ?_
  refine z_iload_n dX11_areInDoubt_3 rfl ?_
  refine z_iconst (v := 0) dX11_areInDoubt_4 (by decide) ?_
  refine z_V3 (mi' := mX11_ofMark) dX11_areInDoubt_5 lX11_80 nX11_ofMark kX11_ofMark (by decide) (Nat.le_of_ble_eq_true rfl) (Nat.le_refl _) (Nat.le_refl _) (hM.1 _ (by decide)) rfl rfl ?_
  refine sX11_ofMark hM (s := s) (k := a) (w := 0) (by have := hL.m6 hs; have := ha; omega) ?_
  rw [show μ 1 (5 + 29 * s + 5 + 4 * a + 0) = _ from (hL.mk hs ha).2.1]
  refine z_iconst (v := 1) dX11_areInDoubt_8 (by decide) ?_
  refine z_V2 (mi' := mX11_ofFlood) dX11_areInDoubt_9 lX11_66 nX11_ofFlood kX11_ofFlood (by decide) (Nat.le_of_ble_eq_true rfl) (Nat.le_refl _) (Nat.le_refl _) (hM.1 _ (by decide)) rfl rfl ?_
  refine sX11_ofFlood hM (f := (fl s a)) (w := 1) (by omega) ?_
  rw [show μ 1 (180 + 3 * (fl s a) + 1) = _ from (hL.fd hfa).2.1]
  refine z_aload_n dX11_areInDoubt_12 rfl ?_
  refine z_aload_n dX11_areInDoubt_13 rfl ?_
  refine z_iload_n dX11_areInDoubt_14 rfl ?_
  refine z_iload_n dX11_areInDoubt_15 rfl ?_
  refine z_iconst (v := 0) dX11_areInDoubt_16 (by decide) ?_
  refine z_V3 (mi' := mX11_ofMark) dX11_areInDoubt_17 lX11_80 nX11_ofMark kX11_ofMark (by decide) (Nat.le_of_ble_eq_true rfl) (Nat.le_refl _) (Nat.le_refl _) (hM.1 _ (by decide)) rfl rfl ?_
  refine sX11_ofMark hM (s := s) (k := b) (w := 0) (by have := hL.m6 hs; have := hb; omega) ?_
  rw [show μ 1 (5 + 29 * s + 5 + 4 * b + 0) = _ from (hL.mk hs hb).2.1]
  refine z_iconst (v := 1) dX11_areInDoubt_20 (by decide) ?_
  refine z_V2 (mi' := mX11_ofFlood) dX11_areInDoubt_21 lX11_66 nX11_ofFlood kX11_ofFlood (by decide) (Nat.le_of_ble_eq_true rfl) (Nat.le_refl _) (Nat.le_refl _) (hM.1 _ (by decide)) rfl rfl ?_
  refine sX11_ofFlood hM (f := (fl s b)) (w := 1) (by omega) ?_
  rw [show μ 1 (180 + 3 * (fl s b) + 1) = _ from (hL.fd hfb).2.1]
  refine z_isub dX11_areInDoubt_24 ?_
  refine z_istore dX11_areInDoubt_25 (by decide) rfl ?_
  refine z_aload_n dX11_areInDoubt_27 rfl ?_
  refine z_iload_n dX11_areInDoubt_28 rfl ?_
  refine z_iload_n dX11_areInDoubt_29 rfl ?_
  refine z_V2 (mi' := mX11_trueOf) dX11_areInDoubt_30 lX11_137 nX11_trueOf kX11_trueOf (by decide) (Nat.le_of_ble_eq_true rfl) (Nat.le_refl _) (Nat.le_refl _) (hM.1 _ (by decide)) rfl rfl ?_
  refine sX11_trueOf hM hL hs ha ?_
  refine z_aload_n dX11_areInDoubt_33 rfl ?_
  refine z_iload_n dX11_areInDoubt_34 rfl ?_
  refine z_iload_n dX11_areInDoubt_35 rfl ?_
  refine z_V2 (mi' := mX11_trueOf) dX11_areInDoubt_36 lX11_137 nX11_trueOf kX11_trueOf (by decide) (Nat.le_of_ble_eq_true rfl) (Nat.le_refl _) (Nat.le_refl _) (hM.1 _ (by decide)) rfl rfl ?_
  refine sX11_trueOf hM hL hs hb ?_
  refine z_isub dX11_areInDoubt_39 ?_
  refine z_istore dX11_areInDoubt_40 (by decide) rfl ?_
  refine z_iload dX11_areInDoubt_42 rfl ?_
  refine z_if_ne (tgt := 58) dX11_areInDoubt_44 (by decide) (fun c1 => ?_) (fun c1 => ?_)
  · refine z_iload dX11_areInDoubt_58 rfl ?_
    refine z_if_le (tgt := 76) dX11_areInDoubt_60 (by decide) (fun c2 => ?_) (fun c2 => ?_)
    · refine z_iload dX11_areInDoubt_76 rfl ?_
      refine z_if_lt (tgt := 85) dX11_areInDoubt_78 (by decide) (fun c3 => ?_) (fun c3 => ?_)
      · refine z_iconst (v := 0) dX11_areInDoubt_85 (by decide) ?_
        exact z_ireturn (mi := mX11_areInDoubt) dX11_areInDoubt_86 rfl rfl (Nat.le_refl _) (Nat.le_refl _) (by rw [zb_f (by rw [zcmp, if_neg c1, if_neg (Int32.not_lt.mpr c2), decide_eq_true_eq]; exact Int32.not_le.mpr c3)] at hP; exact hP)
      · refine z_iconst (v := 1) dX11_areInDoubt_81 (by decide) ?_
        refine z_goto (tgt := 86) dX11_areInDoubt_82 (by decide) ?_
        exact z_ireturn (mi := mX11_areInDoubt) dX11_areInDoubt_86 rfl rfl (Nat.le_refl _) (Nat.le_refl _) (by rw [zb_t (by rw [zcmp, if_neg c1, if_neg (Int32.not_lt.mpr c2), decide_eq_true_eq]; exact Int32.not_lt.mp c3)] at hP; exact hP)
    · refine z_iload dX11_areInDoubt_63 rfl ?_
      refine z_if_gt (tgt := 72) dX11_areInDoubt_65 (by decide) (fun c4 => ?_) (fun c4 => ?_)
      · refine z_iconst (v := 0) dX11_areInDoubt_72 (by decide) ?_
        refine z_goto (tgt := 86) dX11_areInDoubt_73 (by decide) ?_
        exact z_ireturn (mi := mX11_areInDoubt) dX11_areInDoubt_86 rfl rfl (Nat.le_refl _) (Nat.le_refl _) (by rw [zb_f (by rw [zcmp, if_neg c1, if_pos (Int32.not_le.mp c2), decide_eq_true_eq]; exact Int32.not_le.mpr c4)] at hP; exact hP)
      · refine z_iconst (v := 1) dX11_areInDoubt_68 (by decide) ?_
        refine z_goto (tgt := 86) dX11_areInDoubt_69 (by decide) ?_
        exact z_ireturn (mi := mX11_areInDoubt) dX11_areInDoubt_86 rfl rfl (Nat.le_refl _) (Nat.le_refl _) (by rw [zb_t (by rw [zcmp, if_neg c1, if_pos (Int32.not_le.mp c2), decide_eq_true_eq]; exact Int32.not_lt.mp c4)] at hP; exact hP)
  · refine z_iload dX11_areInDoubt_47 rfl ?_
    refine z_if_eq (tgt := 56) dX11_areInDoubt_49 (by decide) (fun c5 => ?_) (fun c5 => ?_)
    · refine z_iconst (v := 0) dX11_areInDoubt_56 (by decide) ?_
      exact z_ireturn (mi := mX11_areInDoubt) dX11_areInDoubt_57 rfl rfl (Nat.le_refl _) (Nat.le_refl _) (by rw [zb_f (by rw [zcmp, if_pos c1, decide_eq_true_eq]; exact fun q => q c5)] at hP; exact hP)
    · refine z_iconst (v := 1) dX11_areInDoubt_52 (by decide) ?_
      refine z_goto (tgt := 57) dX11_areInDoubt_53 (by decide) ?_
      exact z_ireturn (mi := mX11_areInDoubt) dX11_areInDoubt_57 rfl rfl (Nat.le_refl _) (Nat.le_refl _) (by rw [zb_t (by rw [zcmp, if_pos c1, decide_eq_true_eq]; exact c5)] at hP; exact hP)
set_option maxHeartbeats 4000000 in
set_option maxRecDepth 10000 in
theorem sX11_doubtsOf {Γ : zG} {d : Nat} {G : zH} {Post : zV} {am : Nat → Nat} {μ : zSt} (hM : zMod G am μ) {σ : zSt} {S F E K : Nat} {mm : Nat → Nat} {fl : Nat → Nat → Nat} (hL : zRel σ S F E K (μ 1) mm fl) {s a : Nat} (hs : s < S) (ha : a < mm s) (hP : Post (some (.int (nI (zct (zdm σ E fl s a) (mm s))))) G) : zM Γ (d + 4) mX11_doubtsOf 0 0 [.ref (am 0), .int (nI s), .int (nI a)] G Post := by
  refine zM_of pnX11 rfl (Nat.le_of_ble_eq_true rfl) rfl ?_
  have hS6 := hL.S6
  have hF12 := hL.F12
  have hE4 := hL.E4
  have hK3 := hL.K3
  have hm6 := hL.m6 hs
  have key : ∀ (r : Nat) (i : Nat), i ≤ (mm s) → (mm s) < i + r → zX Γ mX11_doubtsOf (d + 4) 0 0 5 [some (.ref (am 0)), some (.int (nI s)), some (.int (nI a)), some (.int (nI (zct (zdm σ E fl s a) i))), some (.int (nI i))] [] G 0 0 (zlift Post) := by
    intro r
    induction r with
    | zero =>
      intro i hi1 hi2
      exact absurd hi2 (by omega)
    | succ r ih =>
      intro i hi1 hi2
      refine z_iload dX11_doubtsOf_5 rfl ?_
      refine z_aload_n dX11_doubtsOf_7 rfl ?_
      refine z_iload_n dX11_doubtsOf_8 rfl ?_
      refine z_iconst (v := 4) dX11_doubtsOf_9 (by decide) ?_
      refine z_V2 (mi' := mX11_of) dX11_doubtsOf_10 lX11_70 nX11_of kX11_of (by decide) (Nat.le_of_ble_eq_true rfl) (Nat.le_refl _) (Nat.le_refl _) (hM.1 _ (by decide)) rfl rfl ?_
      refine sX11_of hM (s := s) (w := 4) (by omega) ?_
      rw [show μ 1 (5 + 29 * s + 4) = _ from (hL.st hs).2.2.2.2.1]
      refine z_icmp_ge (tgt := 47) dX11_doubtsOf_13 (by decide) (fun c1 => ?_) (fun c1 => ?_)
      · have hi9 := zgeN (N := mm s) rfl (by omega) (by omega) c1
        refine z_iload_n dX11_doubtsOf_47 rfl ?_
        exact z_ireturn (mi := mX11_doubtsOf) dX11_doubtsOf_48 rfl rfl (Nat.le_refl _) (Nat.le_refl _) (by rw [show i = mm s by omega]; exact hP)
      · have hi9 := zltN (N := mm s) rfl (by omega) (by omega) c1
        refine z_iload_n dX11_doubtsOf_16 rfl ?_
        refine z_iload dX11_doubtsOf_17 rfl ?_
        refine z_iload_n dX11_doubtsOf_19 rfl ?_
        refine z_icmp_eq (tgt := 38) dX11_doubtsOf_20 (by decide) (fun c2 => ?_) (fun c2 => ?_)
        · have e9 := zct_f (p := (zdm σ E fl s a)) (n := i) (by have := znI_inj (by omega) (by omega) c2; simp [zdm, this])
          refine z_iconst (v := 0) dX11_doubtsOf_38 (by decide) ?_
          refine z_iadd dX11_doubtsOf_39 ?_
          refine z_istore_n dX11_doubtsOf_40 (by decide) rfl ?_
          refine z_iinc dX11_doubtsOf_41 rfl rfl (by decide) rfl ?_
          refine z_goto (tgt := 5) dX11_doubtsOf_44 (by decide) ?_
          exact z_sub (lv' := [some (.ref (am 0)), some (.int (nI s)), some (.int (nI a)), some (.int (nI (zct (zdm σ E fl s a) (i + 1)))), some (.int (nI (i + 1)))]) ⟨rfl, rfl, rfl, zsl (by rw [e9]; first | exact nI_1 _ | exact zadd0 _ | rfl), zsl (zinc i), trivial⟩ (ih (i + 1) (by omega) (by omega))
        · refine z_aload_n dX11_doubtsOf_23 rfl ?_
          refine z_iload_n dX11_doubtsOf_24 rfl ?_
          refine z_iload_n dX11_doubtsOf_25 rfl ?_
          refine z_iload dX11_doubtsOf_26 rfl ?_
          refine z_V3 (mi' := mX11_areInDoubt) dX11_doubtsOf_28 lX11_140 nX11_areInDoubt kX11_areInDoubt (by decide) (Nat.le_of_ble_eq_true rfl) (Nat.le_refl _) (Nat.le_refl _) (hM.1 _ (by decide)) rfl rfl ?_
          refine sX11_areInDoubt hM hL hs ha hi9 ?_
          refine z_if_eq (tgt := 38) dX11_doubtsOf_31 (by decide) (fun c3 => ?_) (fun c3 => ?_)
          · have e9 := zct_f (p := (zdm σ E fl s a)) (n := i) (by have h1 := zbf (zb_0.mp c3); simp [zdm, h1])
            refine z_iconst (v := 0) dX11_doubtsOf_38 (by decide) ?_
            refine z_iadd dX11_doubtsOf_39 ?_
            refine z_istore_n dX11_doubtsOf_40 (by decide) rfl ?_
            refine z_iinc dX11_doubtsOf_41 rfl rfl (by decide) rfl ?_
            refine z_goto (tgt := 5) dX11_doubtsOf_44 (by decide) ?_
            exact z_sub (lv' := [some (.ref (am 0)), some (.int (nI s)), some (.int (nI a)), some (.int (nI (zct (zdm σ E fl s a) (i + 1)))), some (.int (nI (i + 1)))]) ⟨rfl, rfl, rfl, zsl (by rw [e9]; first | exact nI_1 _ | exact zadd0 _ | rfl), zsl (zinc i), trivial⟩ (ih (i + 1) (by omega) (by omega))
          · have e9 := zct_t (p := (zdm σ E fl s a)) (n := i) (by have h1 := zb_n.mp c3; have h2 : i ≠ a := fun q => c2 (by rw [q]); simp [zdm, h1, h2])
            refine z_iconst (v := 1) dX11_doubtsOf_34 (by decide) ?_
            refine z_goto (tgt := 39) dX11_doubtsOf_35 (by decide) ?_
            refine z_iadd dX11_doubtsOf_39 ?_
            refine z_istore_n dX11_doubtsOf_40 (by decide) rfl ?_
            refine z_iinc dX11_doubtsOf_41 rfl rfl (by decide) rfl ?_
            refine z_goto (tgt := 5) dX11_doubtsOf_44 (by decide) ?_
            exact z_sub (lv' := [some (.ref (am 0)), some (.int (nI s)), some (.int (nI a)), some (.int (nI (zct (zdm σ E fl s a) (i + 1)))), some (.int (nI (i + 1)))]) ⟨rfl, rfl, rfl, zsl (by rw [e9]; first | exact nI_1 _ | exact zadd0 _ | rfl), zsl (zinc i), trivial⟩ (ih (i + 1) (by omega) (by omega))
  refine z_iconst (v := 0) dX11_doubtsOf_0 (by decide) ?_
  refine z_istore_n dX11_doubtsOf_1 (by decide) rfl ?_
  refine z_iconst (v := 0) dX11_doubtsOf_2 (by decide) ?_
  refine z_istore dX11_doubtsOf_3 (by decide) rfl ?_
  exact z_sub (lv' := [some (.ref (am 0)), some (.int (nI s)), some (.int (nI a)), some (.int (nI (zct (zdm σ E fl s a) 0))), some (.int (nI 0))]) ⟨rfl, rfl, rfl, rfl, rfl, trivial⟩ (key (mm s + 1) 0 (by omega) (by omega))
set_option maxHeartbeats 4000000 in
set_option maxRecDepth 10000 in
theorem sX11_doubtsFor {Γ : zG} {d : Nat} {G : zH} {Post : zV} {am : Nat → Nat} {μ : zSt} (hM : zMod G am μ) {σ : zSt} {S F E K : Nat} {mm : Nat → Nat} {fl : Nat → Nat → Nat} (hL : zRel σ S F E K (μ 1) mm fl) {f : Nat} (hf : f < 12) (hP : Post (some (.int (nI (zdOf σ E F S f)))) G) : zM Γ (d + 5) mX11_doubtsFor 0 0 [.ref (am 0), .int (nI f)] G Post := by
  refine zM_of pnX11 rfl (Nat.le_of_ble_eq_true rfl) rfl ?_
  have hS6 := hL.S6
  have hF12 := hL.F12
  have hE4 := hL.E4
  have hK3 := hL.K3
  have key : ∀ (r : Nat) (i : Nat), i ≤ S → S < i + r → zX Γ mX11_doubtsFor (d + 5) 0 0 4 [some (.ref (am 0)), some (.int (nI f)), some (.int (nI (zsm (fun s => if zff (fun k => decide (fl s k = f)) (mm s) < mm s then zct (zdm σ E fl s (zff (fun k => decide (fl s k = f)) (mm s))) (mm s) else 0) i))), some (.int (nI i))] [] G 0 0 (zlift Post) := by
    intro r
    induction r with
    | zero =>
      intro i hi1 hi2
      exact absurd hi2 (by omega)
    | succ r ih =>
      intro i hi1 hi2
      refine z_iload_n dX11_doubtsFor_4 rfl ?_
      refine z_aload_n dX11_doubtsFor_5 rfl ?_
      refine z_get dX11_doubtsFor_6 fX11_7.r (hM.1 _ (by decide)) rfl ?_
      refine z_iconst (v := 4) dX11_doubtsFor_9 (by decide) ?_
      refine z_iald dX11_doubtsFor_10 (hM.1 1 (by decide)) (show vp_in (nI 4) 229 from vp_in_nI (by decide) (by decide)) ?_
      rw [show μ 1 (Int32.toNatClampNeg 4) = nI S from hL.sc.2.2.2.2.1]
      refine z_icmp_ge (tgt := 47) dX11_doubtsFor_11 (by decide) (fun c1 => ?_) (fun c1 => ?_)
      · have hi9 := zgeN (N := S) rfl (by omega) (by omega) c1
        refine z_iload_n dX11_doubtsFor_47 rfl ?_
        exact z_ireturn (mi := mX11_doubtsFor) dX11_doubtsFor_48 rfl rfl (Nat.le_refl _) (Nat.le_refl _) (by rw [← hL.dOf hf, show S = i by omega] at hP; exact hP)
      · have hi9 := zltN (N := S) rfl (by omega) (by omega) c1
        refine z_iload_n dX11_doubtsFor_14 rfl ?_
        refine z_aload_n dX11_doubtsFor_15 rfl ?_
        refine z_iload_n dX11_doubtsFor_16 rfl ?_
        refine z_iload_n dX11_doubtsFor_17 rfl ?_
        refine z_V2 (mi' := mX11_placeOf) dX11_doubtsFor_18 lX11_111 nX11_placeOf kX11_placeOf (by decide) (Nat.le_of_ble_eq_true rfl) (Nat.le_refl _) (Nat.le_refl _) (hM.1 _ (by decide)) rfl rfl ?_
        refine sX11_placeOf hM hL hi9 hf ?_
        refine z_if_ge (tgt := 28) dX11_doubtsFor_21 (by decide) (fun c2 => ?_) (fun c2 => ?_)
        · have h9 := zfi_ge c2
          have e9 : zsm (fun s => if zff (fun k => decide (fl s k = f)) (mm s) < mm s then zct (zdm σ E fl s (zff (fun k => decide (fl s k = f)) (mm s))) (mm s) else 0) (i + 1) = zsm (fun s => if zff (fun k => decide (fl s k = f)) (mm s) < mm s then zct (zdm σ E fl s (zff (fun k => decide (fl s k = f)) (mm s))) (mm s) else 0) i + zct (zdm σ E fl i (zff (fun k => decide (fl i k = f)) (mm i))) (mm i) := by rw [zsm, if_pos h9.1]
          refine z_aload_n dX11_doubtsFor_28 rfl ?_
          refine z_iload_n dX11_doubtsFor_29 rfl ?_
          refine z_aload_n dX11_doubtsFor_30 rfl ?_
          refine z_iload_n dX11_doubtsFor_31 rfl ?_
          refine z_iload_n dX11_doubtsFor_32 rfl ?_
          refine z_V2 (mi' := mX11_placeOf) dX11_doubtsFor_33 lX11_111 nX11_placeOf kX11_placeOf (by decide) (Nat.le_of_ble_eq_true rfl) (Nat.le_refl _) (Nat.le_refl _) (hM.1 _ (by decide)) rfl rfl ?_
          refine sX11_placeOf hM hL hi9 hf ?_
          rw [h9.2]
          refine z_V2 (mi' := mX11_doubtsOf) dX11_doubtsFor_36 lX11_143 nX11_doubtsOf kX11_doubtsOf (by decide) (Nat.le_of_ble_eq_true rfl) (Nat.le_refl _) (Nat.le_refl _) (hM.1 _ (by decide)) rfl rfl ?_
          refine sX11_doubtsOf hM hL hi9 h9.1 ?_
          refine z_iadd dX11_doubtsFor_39 ?_
          refine z_istore_n dX11_doubtsFor_40 (by decide) rfl ?_
          refine z_iinc dX11_doubtsFor_41 rfl rfl (by decide) rfl ?_
          refine z_goto (tgt := 4) dX11_doubtsFor_44 (by decide) ?_
          exact z_sub (lv' := [some (.ref (am 0)), some (.int (nI f)), some (.int (nI (zsm (fun s => if zff (fun k => decide (fl s k = f)) (mm s) < mm s then zct (zdm σ E fl s (zff (fun k => decide (fl s k = f)) (mm s))) (mm s) else 0) (i + 1)))), some (.int (nI (i + 1)))]) ⟨rfl, rfl, zsl (by rw [e9]; first | exact nI_add _ _ | exact zadd0 _ | rfl), zsl (zinc i), trivial⟩ (ih (i + 1) (by omega) (by omega))
        · have h9 := zfi_lt (by have := hL.m6 hi9; omega) c2
          have e9 : zsm (fun s => if zff (fun k => decide (fl s k = f)) (mm s) < mm s then zct (zdm σ E fl s (zff (fun k => decide (fl s k = f)) (mm s))) (mm s) else 0) (i + 1) = zsm (fun s => if zff (fun k => decide (fl s k = f)) (mm s) < mm s then zct (zdm σ E fl s (zff (fun k => decide (fl s k = f)) (mm s))) (mm s) else 0) i := by rw [zsm, if_neg h9]; rfl
          refine z_iconst (v := 0) dX11_doubtsFor_24 (by decide) ?_
          refine z_goto (tgt := 39) dX11_doubtsFor_25 (by decide) ?_
          refine z_iadd dX11_doubtsFor_39 ?_
          refine z_istore_n dX11_doubtsFor_40 (by decide) rfl ?_
          refine z_iinc dX11_doubtsFor_41 rfl rfl (by decide) rfl ?_
          refine z_goto (tgt := 4) dX11_doubtsFor_44 (by decide) ?_
          exact z_sub (lv' := [some (.ref (am 0)), some (.int (nI f)), some (.int (nI (zsm (fun s => if zff (fun k => decide (fl s k = f)) (mm s) < mm s then zct (zdm σ E fl s (zff (fun k => decide (fl s k = f)) (mm s))) (mm s) else 0) (i + 1)))), some (.int (nI (i + 1)))]) ⟨rfl, rfl, zsl (by rw [e9]; first | exact nI_add _ _ | exact zadd0 _ | rfl), zsl (zinc i), trivial⟩ (ih (i + 1) (by omega) (by omega))
  refine z_iconst (v := 0) dX11_doubtsFor_0 (by decide) ?_
  refine z_istore_n dX11_doubtsFor_1 (by decide) rfl ?_
  refine z_iconst (v := 0) dX11_doubtsFor_2 (by decide) ?_
  refine z_istore_n dX11_doubtsFor_3 (by decide) rfl ?_
  exact z_sub (lv' := [some (.ref (am 0)), some (.int (nI f)), some (.int (nI (zsm (fun s => if zff (fun k => decide (fl s k = f)) (mm s) < mm s then zct (zdm σ E fl s (zff (fun k => decide (fl s k = f)) (mm s))) (mm s) else 0) 0))), some (.int (nI 0))]) ⟨rfl, rfl, rfl, rfl, trivial⟩ (key (S + 1) 0 (by omega) (by omega))
set_option maxHeartbeats 4000000 in
set_option maxRecDepth 10000 in
theorem sX11_marksFor {Γ : zG} {d : Nat} {G : zH} {Post : zV} {am : Nat → Nat} {μ : zSt} (hM : zMod G am μ) {σ : zSt} {S F E K : Nat} {mm : Nat → Nat} {fl : Nat → Nat → Nat} (hL : zRel σ S F E K (μ 1) mm fl) {f : Nat} (hf : f < 12) (hP : Post (some (.int (nI (zct (fun s => zmk σ s f) 6)))) G) : zM Γ (d + 2) mX11_marksFor 0 0 [.ref (am 0), .int (nI f)] G Post := by
  refine zM_of pnX11 rfl (Nat.le_of_ble_eq_true rfl) rfl ?_
  have hS6 := hL.S6
  have hF12 := hL.F12
  have hE4 := hL.E4
  have hK3 := hL.K3
  have key : ∀ (r : Nat) (i : Nat), i ≤ S → S < i + r → zX Γ mX11_marksFor (d + 2) 0 0 4 [some (.ref (am 0)), some (.int (nI f)), some (.int (nI (zct (fun s => zmk σ s f) i))), some (.int (nI i))] [] G 0 0 (zlift Post) := by
    intro r
    induction r with
    | zero =>
      intro i hi1 hi2
      exact absurd hi2 (by omega)
    | succ r ih =>
      intro i hi1 hi2
      refine z_iload_n dX11_marksFor_4 rfl ?_
      refine z_aload_n dX11_marksFor_5 rfl ?_
      refine z_get dX11_marksFor_6 fX11_7.r (hM.1 _ (by decide)) rfl ?_
      refine z_iconst (v := 4) dX11_marksFor_9 (by decide) ?_
      refine z_iald dX11_marksFor_10 (hM.1 1 (by decide)) (show vp_in (nI 4) 229 from vp_in_nI (by decide) (by decide)) ?_
      rw [show μ 1 (Int32.toNatClampNeg 4) = nI S from hL.sc.2.2.2.2.1]
      refine z_icmp_ge (tgt := 37) dX11_marksFor_11 (by decide) (fun c1 => ?_) (fun c1 => ?_)
      · have hi9 := zgeN (N := S) rfl (by omega) (by omega) c1
        refine z_iload_n dX11_marksFor_37 rfl ?_
        exact z_ireturn (mi := mX11_marksFor) dX11_marksFor_38 rfl rfl (Nat.le_refl _) (Nat.le_refl _) (by rw [zct_ext hS6 (fun k h1 h2 => hL.off h1 h2 hf), show S = i by omega] at hP; exact hP)
      · have hi9 := zltN (N := S) rfl (by omega) (by omega) c1
        refine z_iload_n dX11_marksFor_14 rfl ?_
        refine z_aload_n dX11_marksFor_15 rfl ?_
        refine z_iload_n dX11_marksFor_16 rfl ?_
        refine z_iload_n dX11_marksFor_17 rfl ?_
        refine z_V2 (mi' := mX11_placeOf) dX11_marksFor_18 lX11_111 nX11_placeOf kX11_placeOf (by decide) (Nat.le_of_ble_eq_true rfl) (Nat.le_refl _) (Nat.le_refl _) (hM.1 _ (by decide)) rfl rfl ?_
        refine sX11_placeOf hM hL hi9 hf ?_
        refine z_if_ge (tgt := 28) dX11_marksFor_21 (by decide) (fun c2 => ?_) (fun c2 => ?_)
        · have h9 := zfi_ge c2
          have e9 := zct_t (p := (fun s => zmk σ s f)) (n := i) (by rcases hL.pl hi9 hf with ⟨a1, a2⟩ | ⟨a1, a2⟩ <;> first | exact a1 | (exfalso; have := h9.1; omega))
          refine z_iconst (v := 1) dX11_marksFor_28 (by decide) ?_
          refine z_iadd dX11_marksFor_29 ?_
          refine z_istore_n dX11_marksFor_30 (by decide) rfl ?_
          refine z_iinc dX11_marksFor_31 rfl rfl (by decide) rfl ?_
          refine z_goto (tgt := 4) dX11_marksFor_34 (by decide) ?_
          exact z_sub (lv' := [some (.ref (am 0)), some (.int (nI f)), some (.int (nI (zct (fun s => zmk σ s f) (i + 1)))), some (.int (nI (i + 1)))]) ⟨rfl, rfl, zsl (by rw [e9]; first | exact nI_1 _ | exact zadd0 _ | rfl), zsl (zinc i), trivial⟩ (ih (i + 1) (by omega) (by omega))
        · have h9 := zfi_lt (by have := hL.m6 hi9; omega) c2
          have e9 := zct_f (p := (fun s => zmk σ s f)) (n := i) (by rcases hL.pl hi9 hf with ⟨a1, a2⟩ | ⟨a1, a2⟩ <;> first | exact a1 | (exfalso; have := a2.1; omega))
          refine z_iconst (v := 0) dX11_marksFor_24 (by decide) ?_
          refine z_goto (tgt := 29) dX11_marksFor_25 (by decide) ?_
          refine z_iadd dX11_marksFor_29 ?_
          refine z_istore_n dX11_marksFor_30 (by decide) rfl ?_
          refine z_iinc dX11_marksFor_31 rfl rfl (by decide) rfl ?_
          refine z_goto (tgt := 4) dX11_marksFor_34 (by decide) ?_
          exact z_sub (lv' := [some (.ref (am 0)), some (.int (nI f)), some (.int (nI (zct (fun s => zmk σ s f) (i + 1)))), some (.int (nI (i + 1)))]) ⟨rfl, rfl, zsl (by rw [e9]; first | exact nI_1 _ | exact zadd0 _ | rfl), zsl (zinc i), trivial⟩ (ih (i + 1) (by omega) (by omega))
  refine z_iconst (v := 0) dX11_marksFor_0 (by decide) ?_
  refine z_istore_n dX11_marksFor_1 (by decide) rfl ?_
  refine z_iconst (v := 0) dX11_marksFor_2 (by decide) ?_
  refine z_istore_n dX11_marksFor_3 (by decide) rfl ?_
  exact z_sub (lv' := [some (.ref (am 0)), some (.int (nI f)), some (.int (nI (zct (fun s => zmk σ s f) 0))), some (.int (nI 0))]) ⟨rfl, rfl, rfl, rfl, trivial⟩ (key (S + 1) 0 (by omega) (by omega))
set_option maxHeartbeats 4000000 in
set_option maxRecDepth 10000 in
theorem sX11_credit {Γ : zG} {d : Nat} {G : zH} {Post : zV} {am : Nat → Nat} {μ : zSt} (hM : zMod G am μ) {σ : zSt} {S F E K : Nat} {mm : Nat → Nat} {fl : Nat → Nat → Nat} (hL : zRel σ S F E K (μ 1) mm fl) {f : Nat} (hf : f < F) (hP : Post (some (.int (zcred σ E F S f))) G) : zM Γ (d + 6) mX11_credit 0 0 [.ref (am 0), .int (nI f)] G Post := by
  refine zM_of pnX11 rfl (Nat.le_of_ble_eq_true rfl) rfl ?_
  have hS6 := hL.S6
  have hF12 := hL.F12
  have hE4 := hL.E4
  have hK3 := hL.K3
  refine z_iconst (v := 0) dX11_credit_0 (by decide) ?_
  refine z_bipush (v := 10) dX11_credit_1 (by decide) ?_
  refine z_aload_n dX11_credit_3 rfl ?_
  refine z_iload_n dX11_credit_4 rfl ?_
  refine z_iconst (v := 2) dX11_credit_5 (by decide) ?_
  refine z_V2 (mi' := mX11_ofFlood) dX11_credit_6 lX11_66 nX11_ofFlood kX11_ofFlood (by decide) (Nat.le_of_ble_eq_true rfl) (Nat.le_refl _) (Nat.le_refl _) (hM.1 _ (by decide)) rfl rfl ?_
  refine sX11_ofFlood hM (f := f) (w := 2) (by omega) ?_
  rw [show μ 1 (180 + 3 * f + 2) = _ from (hL.fd hf).2.2]
  refine z_imul dX11_credit_9 ?_
  refine z_iconst (v := 5) dX11_credit_10 (by decide) ?_
  refine z_aload_n dX11_credit_11 rfl ?_
  refine z_iload_n dX11_credit_12 rfl ?_
  refine z_V1 (mi' := mX11_doubtsFor) dX11_credit_13 lX11_146 nX11_doubtsFor kX11_doubtsFor (by decide) (Nat.le_of_ble_eq_true rfl) (Nat.le_refl _) (Nat.le_refl _) (hM.1 _ (by decide)) rfl rfl ?_
  refine sX11_doubtsFor hM hL (show f < 12 by omega) ?_
  refine z_imul dX11_credit_16 ?_
  refine z_isub dX11_credit_17 ?_
  refine z_S2 (mi' := mX11_more) dX11_credit_18 lX11_98 nX11_more kX11_more (by decide) (Nat.le_of_ble_eq_true rfl) (Nat.le_refl _) (Nat.le_refl _) ?_
  refine sX11_more ?_
  exact z_ireturn (mi := mX11_credit) dX11_credit_21 rfl rfl (Nat.le_refl _) (Nat.le_refl _) (by rw [zmore0]; exact hP)
set_option maxHeartbeats 4000000 in
set_option maxRecDepth 10000 in
theorem sX11_below {Γ : zG} {d : Nat} {G : zH} {Post : zV} {am : Nat → Nat} {μ : zSt} (hM : zMod G am μ) {σ : zSt} {S F E K : Nat} {mm : Nat → Nat} {fl : Nat → Nat → Nat} (hL : zRel σ S F E K (μ 1) mm fl) {s k : Nat} (hs : s < S) (hk : k < mm s) (hP : Post (some (.int (nI (zbl σ mm fl s k)))) G) : zM Γ (d + 1) mX11_below 0 0 [.ref (am 0), .int (nI s), .int (nI k)] G Post := by
  refine zM_of pnX11 rfl (Nat.le_of_ble_eq_true rfl) rfl ?_
  have hS6 := hL.S6
  have hF12 := hL.F12
  have hE4 := hL.E4
  have hK3 := hL.K3
  have hm6 := hL.m6 hs
  have key : ∀ (r : Nat) (i : Nat), i ≤ (mm s) → (mm s) < i + r → zX Γ mX11_below (d + 1) 0 0 5 [some (.ref (am 0)), some (.int (nI s)), some (.int (nI k)), some (.int (nI (zct (fun j => decide (σ 10 (12 * s + fl s j) < σ 10 (12 * s + fl s k))) i))), some (.int (nI i))] [] G 0 0 (zlift Post) := by
    intro r
    induction r with
    | zero =>
      intro i hi1 hi2
      exact absurd hi2 (by omega)
    | succ r ih =>
      intro i hi1 hi2
      refine z_iload dX11_below_5 rfl ?_
      refine z_aload_n dX11_below_7 rfl ?_
      refine z_iload_n dX11_below_8 rfl ?_
      refine z_iconst (v := 4) dX11_below_9 (by decide) ?_
      refine z_V2 (mi' := mX11_of) dX11_below_10 lX11_70 nX11_of kX11_of (by decide) (Nat.le_of_ble_eq_true rfl) (Nat.le_refl _) (Nat.le_refl _) (hM.1 _ (by decide)) rfl rfl ?_
      refine sX11_of hM (s := s) (w := 4) (by omega) ?_
      rw [show μ 1 (5 + 29 * s + 4) = _ from (hL.st hs).2.2.2.2.1]
      refine z_icmp_ge (tgt := 48) dX11_below_13 (by decide) (fun c1 => ?_) (fun c1 => ?_)
      · have hi9 := zgeN (N := mm s) rfl (by omega) (by omega) c1
        refine z_iload_n dX11_below_48 rfl ?_
        exact z_ireturn (mi := mX11_below) dX11_below_49 rfl rfl (Nat.le_refl _) (Nat.le_refl _) (by rw [zbl, show mm s = i by omega] at hP; exact hP)
      · have hi9 := zltN (N := mm s) rfl (by omega) (by omega) c1
        refine z_iload_n dX11_below_16 rfl ?_
        refine z_aload_n dX11_below_17 rfl ?_
        refine z_iload_n dX11_below_18 rfl ?_
        refine z_iload dX11_below_19 rfl ?_
        refine z_iconst (v := 1) dX11_below_21 (by decide) ?_
        refine z_V3 (mi' := mX11_ofMark) dX11_below_22 lX11_80 nX11_ofMark kX11_ofMark (by decide) (Nat.le_of_ble_eq_true rfl) (Nat.le_refl _) (Nat.le_refl _) (hM.1 _ (by decide)) rfl rfl ?_
        refine sX11_ofMark hM (s := s) (k := i) (w := 1) (by have := hL.m6 hs; have := hi9; omega) ?_
        rw [show μ 1 (5 + 29 * s + 5 + 4 * i + 1) = _ from (hL.mk hs hi9).2.2.1]
        refine z_aload_n dX11_below_25 rfl ?_
        refine z_iload_n dX11_below_26 rfl ?_
        refine z_iload_n dX11_below_27 rfl ?_
        refine z_iconst (v := 1) dX11_below_28 (by decide) ?_
        refine z_V3 (mi' := mX11_ofMark) dX11_below_29 lX11_80 nX11_ofMark kX11_ofMark (by decide) (Nat.le_of_ble_eq_true rfl) (Nat.le_refl _) (Nat.le_refl _) (hM.1 _ (by decide)) rfl rfl ?_
        refine sX11_ofMark hM (s := s) (k := k) (w := 1) (by have := hL.m6 hs; have := hk; omega) ?_
        rw [show μ 1 (5 + 29 * s + 5 + 4 * k + 1) = _ from (hL.mk hs hk).2.2.1]
        refine z_icmp_ge (tgt := 39) dX11_below_32 (by decide) (fun c2 => ?_) (fun c2 => ?_)
        · have e9 := zct_f (p := (fun j => decide (σ 10 (12 * s + fl s j) < σ 10 (12 * s + fl s k)))) (n := i) (decide_eq_false (Int32.not_lt.mpr c2))
          refine z_iconst (v := 0) dX11_below_39 (by decide) ?_
          refine z_iadd dX11_below_40 ?_
          refine z_istore_n dX11_below_41 (by decide) rfl ?_
          refine z_iinc dX11_below_42 rfl rfl (by decide) rfl ?_
          refine z_goto (tgt := 5) dX11_below_45 (by decide) ?_
          exact z_sub (lv' := [some (.ref (am 0)), some (.int (nI s)), some (.int (nI k)), some (.int (nI (zct (fun j => decide (σ 10 (12 * s + fl s j) < σ 10 (12 * s + fl s k))) (i + 1)))), some (.int (nI (i + 1)))]) ⟨rfl, rfl, rfl, zsl (by rw [e9]; first | exact nI_1 _ | exact zadd0 _ | rfl), zsl (zinc i), trivial⟩ (ih (i + 1) (by omega) (by omega))
        · have e9 := zct_t (p := (fun j => decide (σ 10 (12 * s + fl s j) < σ 10 (12 * s + fl s k)))) (n := i) (decide_eq_true (Int32.not_le.mp c2))
          refine z_iconst (v := 1) dX11_below_35 (by decide) ?_
          refine z_goto (tgt := 40) dX11_below_36 (by decide) ?_
          refine z_iadd dX11_below_40 ?_
          refine z_istore_n dX11_below_41 (by decide) rfl ?_
          refine z_iinc dX11_below_42 rfl rfl (by decide) rfl ?_
          refine z_goto (tgt := 5) dX11_below_45 (by decide) ?_
          exact z_sub (lv' := [some (.ref (am 0)), some (.int (nI s)), some (.int (nI k)), some (.int (nI (zct (fun j => decide (σ 10 (12 * s + fl s j) < σ 10 (12 * s + fl s k))) (i + 1)))), some (.int (nI (i + 1)))]) ⟨rfl, rfl, rfl, zsl (by rw [e9]; first | exact nI_1 _ | exact zadd0 _ | rfl), zsl (zinc i), trivial⟩ (ih (i + 1) (by omega) (by omega))
  refine z_iconst (v := 0) dX11_below_0 (by decide) ?_
  refine z_istore_n dX11_below_1 (by decide) rfl ?_
  refine z_iconst (v := 0) dX11_below_2 (by decide) ?_
  refine z_istore dX11_below_3 (by decide) rfl ?_
  exact z_sub (lv' := [some (.ref (am 0)), some (.int (nI s)), some (.int (nI k)), some (.int (nI (zct (fun j => decide (σ 10 (12 * s + fl s j) < σ 10 (12 * s + fl s k))) 0))), some (.int (nI 0))]) ⟨rfl, rfl, rfl, rfl, rfl, trivial⟩ (key (mm s + 1) 0 (by omega) (by omega))
set_option maxHeartbeats 4000000 in
set_option maxRecDepth 10000 in
theorem sX11_nth {Γ : zG} {d : Nat} {G : zH} {Post : zV} {am : Nat → Nat} {μ : zSt} (hM : zMod G am μ) {σ : zSt} {S F E K : Nat} {mm : Nat → Nat} {fl : Nat → Nat → Nat} (hL : zRel σ S F E K (μ 1) mm fl) {s : Nat} {x : Int32} (hs : s < S) (hq : zff (fun k => decide (nI (zbl σ mm fl s k) = x)) (mm s) < mm s) (hP : Post (some (.int (nI (zff (fun k => decide (nI (zbl σ mm fl s k) = x)) (mm s))))) G) : zM Γ (d + 2) mX11_nth 0 0 [.ref (am 0), .int (nI s), .int x] G Post := by
  refine zM_of pnX11 rfl (Nat.le_of_ble_eq_true rfl) rfl ?_
  have hS6 := hL.S6
  have hF12 := hL.F12
  have hE4 := hL.E4
  have hK3 := hL.K3
  have hm6 := hL.m6 hs
  have key : ∀ (r : Nat) (i : Nat), i ≤ zff (fun k => decide (nI (zbl σ mm fl s k) = x)) (mm s) → zff (fun k => decide (nI (zbl σ mm fl s k) = x)) (mm s) < i + r → zX Γ mX11_nth (d + 2) 0 0 2 [some (.ref (am 0)), some (.int (nI s)), some (.int x), some (.int (nI i))] [] G 0 0 (zlift Post) := by
    intro r
    induction r with
    | zero =>
      intro i hi1 hi2
      exact absurd hi2 (by omega)
    | succ r ih =>
      intro i hi1 hi2
      refine z_aload_n dX11_nth_2 rfl ?_
      refine z_iload_n dX11_nth_3 rfl ?_
      refine z_iload_n dX11_nth_4 rfl ?_
      refine z_V2 (mi' := mX11_below) dX11_nth_5 lX11_164 nX11_below kX11_below (by decide) (Nat.le_of_ble_eq_true rfl) (Nat.le_refl _) (Nat.le_refl _) (hM.1 _ (by decide)) rfl rfl ?_
      refine sX11_below hM hL hs (show i < mm s by omega) ?_
      refine z_iload_n dX11_nth_8 rfl ?_
      refine z_icmp_eq (tgt := 18) dX11_nth_9 (by decide) (fun c1 => ?_) (fun c1 => ?_)
      · have e9 : zff (fun k => decide (nI (zbl σ mm fl s k) = x)) (mm s) = i := zff_yes (fun k hk => (zff_spec (fun k => decide (nI (zbl σ mm fl s k) = x)) (mm s)).1 k (by omega)) (decide_eq_true c1) (by omega)
        refine z_iload_n dX11_nth_18 rfl ?_
        exact z_ireturn (mi := mX11_nth) dX11_nth_19 rfl rfl (Nat.le_refl _) (Nat.le_refl _) (by rw [e9] at hP; exact hP)
      · have e9 : i + 1 ≤ zff (fun k => decide (nI (zbl σ mm fl s k) = x)) (mm s) := by
          by_cases q : i = zff (fun k => decide (nI (zbl σ mm fl s k) = x)) (mm s)
          · have h1 := (zff_spec (fun k => decide (nI (zbl σ mm fl s k) = x)) (mm s)).2 hq
            rw [← q] at h1
            exact absurd (of_decide_eq_true h1) c1
          · omega
        refine z_iinc dX11_nth_12 rfl rfl (by decide) rfl ?_
        refine z_goto (tgt := 2) dX11_nth_15 (by decide) ?_
        exact z_sub (lv' := [some (.ref (am 0)), some (.int (nI s)), some (.int x), some (.int (nI (i + 1)))]) ⟨rfl, rfl, rfl, zsl (zinc i), trivial⟩ (ih (i + 1) e9 (by omega))
  refine z_iconst (v := 0) dX11_nth_0 (by decide) ?_
  refine z_istore_n dX11_nth_1 (by decide) rfl ?_
  exact z_sub (lv' := [some (.ref (am 0)), some (.int (nI s)), some (.int x), some (.int (nI 0))]) ⟨rfl, rfl, rfl, rfl, trivial⟩ (key (zff (fun k => decide (nI (zbl σ mm fl s k) = x)) (mm s) + 1) 0 (by omega) (by omega))
set_option maxHeartbeats 4000000 in
set_option maxRecDepth 10000 in
theorem sX11_isAhead {Γ : zG} {d : Nat} {G : zH} {Post : zV} {am : Nat → Nat} {μ : zSt} (hM : zMod G am μ) {σ : zSt} {S F E K : Nat} {mm : Nat → Nat} {fl : Nat → Nat → Nat} (hL : zRel σ S F E K (μ 1) mm fl) {a b : Nat} (ha : a < F) (hb : b < F) (hP : Post (some (.int (zb (zahM σ (zcred σ E F S) a b = true)))) G) : zM Γ (d + 7) mX11_isAhead 0 0 [.ref (am 0), .int (nI a), .int (nI b)] G Post := by
  refine zM_of pnX11 rfl (Nat.le_of_ble_eq_true rfl) rfl ?_
  have hS6 := hL.S6
  have hF12 := hL.F12
  have hE4 := hL.E4
  have hK3 := hL.K3
  refine z_aload_n dX11_isAhead_0 rfl ?_
  refine z_iload_n dX11_isAhead_1 rfl ?_
  refine z_V1 (mi' := mX11_credit) dX11_isAhead_2 lX11_158 nX11_credit kX11_credit (by decide) (Nat.le_of_ble_eq_true rfl) (Nat.le_refl _) (Nat.le_refl _) (hM.1 _ (by decide)) rfl rfl ?_
  refine sX11_credit hM hL ha ?_
  refine z_aload_n dX11_isAhead_5 rfl ?_
  refine z_iload_n dX11_isAhead_6 rfl ?_
  refine z_V1 (mi' := mX11_credit) dX11_isAhead_7 lX11_158 nX11_credit kX11_credit (by decide) (Nat.le_of_ble_eq_true rfl) (Nat.le_refl _) (Nat.le_refl _) (hM.1 _ (by decide)) rfl rfl ?_
  refine sX11_credit hM hL hb ?_
  refine z_icmp_eq (tgt := 32) dX11_isAhead_10 (by decide) (fun c1 => ?_) (fun c1 => ?_)
  · refine z_aload_n dX11_isAhead_32 rfl ?_
    refine z_iload_n dX11_isAhead_33 rfl ?_
    refine z_iconst (v := 1) dX11_isAhead_34 (by decide) ?_
    refine z_V2 (mi' := mX11_ofFlood) dX11_isAhead_35 lX11_66 nX11_ofFlood kX11_ofFlood (by decide) (Nat.le_of_ble_eq_true rfl) (Nat.le_refl _) (Nat.le_refl _) (hM.1 _ (by decide)) rfl rfl ?_
    refine sX11_ofFlood hM (f := a) (w := 1) (by omega) ?_
    rw [show μ 1 (180 + 3 * a + 1) = _ from (hL.fd ha).2.1]
    refine z_aload_n dX11_isAhead_38 rfl ?_
    refine z_iload_n dX11_isAhead_39 rfl ?_
    refine z_iconst (v := 1) dX11_isAhead_40 (by decide) ?_
    refine z_V2 (mi' := mX11_ofFlood) dX11_isAhead_41 lX11_66 nX11_ofFlood kX11_ofFlood (by decide) (Nat.le_of_ble_eq_true rfl) (Nat.le_refl _) (Nat.le_refl _) (hM.1 _ (by decide)) rfl rfl ?_
    refine sX11_ofFlood hM (f := b) (w := 1) (by omega) ?_
    rw [show μ 1 (180 + 3 * b + 1) = _ from (hL.fd hb).2.1]
    refine z_icmp_eq (tgt := 70) dX11_isAhead_44 (by decide) (fun c2 => ?_) (fun c2 => ?_)
    · refine z_aload_n dX11_isAhead_70 rfl ?_
      refine z_iload_n dX11_isAhead_71 rfl ?_
      refine z_iconst (v := 0) dX11_isAhead_72 (by decide) ?_
      refine z_V2 (mi' := mX11_ofFlood) dX11_isAhead_73 lX11_66 nX11_ofFlood kX11_ofFlood (by decide) (Nat.le_of_ble_eq_true rfl) (Nat.le_refl _) (Nat.le_refl _) (hM.1 _ (by decide)) rfl rfl ?_
      refine sX11_ofFlood hM (f := a) (w := 0) (by omega) ?_
      rw [show μ 1 (180 + 3 * a + 0) = _ from (hL.fd ha).1]
      refine z_aload_n dX11_isAhead_76 rfl ?_
      refine z_iload_n dX11_isAhead_77 rfl ?_
      refine z_iconst (v := 0) dX11_isAhead_78 (by decide) ?_
      refine z_V2 (mi' := mX11_ofFlood) dX11_isAhead_79 lX11_66 nX11_ofFlood kX11_ofFlood (by decide) (Nat.le_of_ble_eq_true rfl) (Nat.le_refl _) (Nat.le_refl _) (hM.1 _ (by decide)) rfl rfl ?_
      refine sX11_ofFlood hM (f := b) (w := 0) (by omega) ?_
      rw [show μ 1 (180 + 3 * b + 0) = _ from (hL.fd hb).1]
      refine z_icmp_ge (tgt := 89) dX11_isAhead_82 (by decide) (fun c3 => ?_) (fun c3 => ?_)
      · refine z_iconst (v := 0) dX11_isAhead_89 (by decide) ?_
        exact z_ireturn (mi := mX11_isAhead) dX11_isAhead_90 rfl rfl (Nat.le_refl _) (Nat.le_refl _) (by rw [zb_f (by rw [zahM, if_neg (fun q => q c1), if_neg (fun q => q c2), decide_eq_true_eq]; exact Int32.not_lt.mpr c3)] at hP; exact hP)
      · refine z_iconst (v := 1) dX11_isAhead_85 (by decide) ?_
        refine z_goto (tgt := 90) dX11_isAhead_86 (by decide) ?_
        exact z_ireturn (mi := mX11_isAhead) dX11_isAhead_90 rfl rfl (Nat.le_refl _) (Nat.le_refl _) (by rw [zb_t (by rw [zahM, if_neg (fun q => q c1), if_neg (fun q => q c2), decide_eq_true_eq]; exact Int32.not_le.mp c3)] at hP; exact hP)
    · refine z_aload_n dX11_isAhead_47 rfl ?_
      refine z_iload_n dX11_isAhead_48 rfl ?_
      refine z_iconst (v := 1) dX11_isAhead_49 (by decide) ?_
      refine z_V2 (mi' := mX11_ofFlood) dX11_isAhead_50 lX11_66 nX11_ofFlood kX11_ofFlood (by decide) (Nat.le_of_ble_eq_true rfl) (Nat.le_refl _) (Nat.le_refl _) (hM.1 _ (by decide)) rfl rfl ?_
      refine sX11_ofFlood hM (f := a) (w := 1) (by omega) ?_
      rw [show μ 1 (180 + 3 * a + 1) = _ from (hL.fd ha).2.1]
      refine z_aload_n dX11_isAhead_53 rfl ?_
      refine z_iload_n dX11_isAhead_54 rfl ?_
      refine z_iconst (v := 1) dX11_isAhead_55 (by decide) ?_
      refine z_V2 (mi' := mX11_ofFlood) dX11_isAhead_56 lX11_66 nX11_ofFlood kX11_ofFlood (by decide) (Nat.le_of_ble_eq_true rfl) (Nat.le_refl _) (Nat.le_refl _) (hM.1 _ (by decide)) rfl rfl ?_
      refine sX11_ofFlood hM (f := b) (w := 1) (by omega) ?_
      rw [show μ 1 (180 + 3 * b + 1) = _ from (hL.fd hb).2.1]
      refine z_icmp_le (tgt := 66) dX11_isAhead_59 (by decide) (fun c4 => ?_) (fun c4 => ?_)
      · refine z_iconst (v := 0) dX11_isAhead_66 (by decide) ?_
        refine z_goto (tgt := 90) dX11_isAhead_67 (by decide) ?_
        exact z_ireturn (mi := mX11_isAhead) dX11_isAhead_90 rfl rfl (Nat.le_refl _) (Nat.le_refl _) (by rw [zb_f (by rw [zahM, if_neg (fun q => q c1), if_pos c2, decide_eq_true_eq]; exact Int32.not_lt.mpr c4)] at hP; exact hP)
      · refine z_iconst (v := 1) dX11_isAhead_62 (by decide) ?_
        refine z_goto (tgt := 90) dX11_isAhead_63 (by decide) ?_
        exact z_ireturn (mi := mX11_isAhead) dX11_isAhead_90 rfl rfl (Nat.le_refl _) (Nat.le_refl _) (by rw [zb_t (by rw [zahM, if_neg (fun q => q c1), if_pos c2, decide_eq_true_eq]; exact Int32.not_le.mp c4)] at hP; exact hP)
  · refine z_aload_n dX11_isAhead_13 rfl ?_
    refine z_iload_n dX11_isAhead_14 rfl ?_
    refine z_V1 (mi' := mX11_credit) dX11_isAhead_15 lX11_158 nX11_credit kX11_credit (by decide) (Nat.le_of_ble_eq_true rfl) (Nat.le_refl _) (Nat.le_refl _) (hM.1 _ (by decide)) rfl rfl ?_
    refine sX11_credit hM hL ha ?_
    refine z_aload_n dX11_isAhead_18 rfl ?_
    refine z_iload_n dX11_isAhead_19 rfl ?_
    refine z_V1 (mi' := mX11_credit) dX11_isAhead_20 lX11_158 nX11_credit kX11_credit (by decide) (Nat.le_of_ble_eq_true rfl) (Nat.le_refl _) (Nat.le_refl _) (hM.1 _ (by decide)) rfl rfl ?_
    refine sX11_credit hM hL hb ?_
    refine z_icmp_le (tgt := 30) dX11_isAhead_23 (by decide) (fun c5 => ?_) (fun c5 => ?_)
    · refine z_iconst (v := 0) dX11_isAhead_30 (by decide) ?_
      exact z_ireturn (mi := mX11_isAhead) dX11_isAhead_31 rfl rfl (Nat.le_refl _) (Nat.le_refl _) (by rw [zb_f (by rw [zahM, if_pos c1, decide_eq_true_eq]; exact Int32.not_lt.mpr c5)] at hP; exact hP)
    · refine z_iconst (v := 1) dX11_isAhead_26 (by decide) ?_
      refine z_goto (tgt := 31) dX11_isAhead_27 (by decide) ?_
      exact z_ireturn (mi := mX11_isAhead) dX11_isAhead_31 rfl rfl (Nat.le_refl _) (Nat.le_refl _) (by rw [zb_t (by rw [zahM, if_pos c1, decide_eq_true_eq]; exact Int32.not_le.mp c5)] at hP; exact hP)
set_option maxHeartbeats 4000000 in
set_option maxRecDepth 10000 in
theorem sX11_rankOf {Γ : zG} {d : Nat} {G : zH} {Post : zV} {am : Nat → Nat} {μ : zSt} (hM : zMod G am μ) {σ : zSt} {S F E K : Nat} {mm : Nat → Nat} {fl : Nat → Nat → Nat} (hL : zRel σ S F E K (μ 1) mm fl) {f : Nat} (hf : f < F) (hP : Post (some (.int (nI (zct (fun k => decide (k ≠ f) && zahM σ (zcred σ E F S) k f) F)))) G) : zM Γ (d + 8) mX11_rankOf 0 0 [.ref (am 0), .int (nI f)] G Post := by
  refine zM_of pnX11 rfl (Nat.le_of_ble_eq_true rfl) rfl ?_
  have hS6 := hL.S6
  have hF12 := hL.F12
  have hE4 := hL.E4
  have hK3 := hL.K3
  have key : ∀ (r : Nat) (i : Nat), i ≤ F → F < i + r → zX Γ mX11_rankOf (d + 8) 0 0 4 [some (.ref (am 0)), some (.int (nI f)), some (.int (nI (zct (fun k => decide (k ≠ f) && zahM σ (zcred σ E F S) k f) i))), some (.int (nI i))] [] G 0 0 (zlift Post) := by
    intro r
    induction r with
    | zero =>
      intro i hi1 hi2
      exact absurd hi2 (by omega)
    | succ r ih =>
      intro i hi1 hi2
      refine z_iload_n dX11_rankOf_4 rfl ?_
      refine z_aload_n dX11_rankOf_5 rfl ?_
      refine z_get dX11_rankOf_6 fX11_7.r (hM.1 _ (by decide)) rfl ?_
      refine z_sipush (v := 179) dX11_rankOf_9 (by decide) ?_
      refine z_iald dX11_rankOf_12 (hM.1 1 (by decide)) (show vp_in (nI 179) 229 from vp_in_nI (by decide) (by decide)) ?_
      rw [show μ 1 (Int32.toNatClampNeg 179) = nI F from hL.sc.2.2.2.2.2.1]
      refine z_icmp_ge (tgt := 44) dX11_rankOf_13 (by decide) (fun c1 => ?_) (fun c1 => ?_)
      · have hi9 := zgeN (N := F) rfl (by omega) (by omega) c1
        refine z_iload_n dX11_rankOf_44 rfl ?_
        exact z_ireturn (mi := mX11_rankOf) dX11_rankOf_45 rfl rfl (Nat.le_refl _) (Nat.le_refl _) (by obtain rfl : i = F := (by omega); exact hP)
      · have hi9 := zltN (N := F) rfl (by omega) (by omega) c1
        refine z_iload_n dX11_rankOf_16 rfl ?_
        refine z_iload_n dX11_rankOf_17 rfl ?_
        refine z_iload_n dX11_rankOf_18 rfl ?_
        refine z_icmp_eq (tgt := 35) dX11_rankOf_19 (by decide) (fun c2 => ?_) (fun c2 => ?_)
        · have e9 := zct_f (p := (fun k => decide (k ≠ f) && zahM σ (zcred σ E F S) k f)) (n := i) (by have := znI_inj (by omega) (by omega) c2; simp [this])
          refine z_iconst (v := 0) dX11_rankOf_35 (by decide) ?_
          refine z_iadd dX11_rankOf_36 ?_
          refine z_istore_n dX11_rankOf_37 (by decide) rfl ?_
          refine z_iinc dX11_rankOf_38 rfl rfl (by decide) rfl ?_
          refine z_goto (tgt := 4) dX11_rankOf_41 (by decide) ?_
          exact z_sub (lv' := [some (.ref (am 0)), some (.int (nI f)), some (.int (nI (zct (fun k => decide (k ≠ f) && zahM σ (zcred σ E F S) k f) (i + 1)))), some (.int (nI (i + 1)))]) ⟨rfl, rfl, zsl (by rw [e9]; first | exact nI_1 _ | exact zadd0 _ | rfl), zsl (zinc i), trivial⟩ (ih (i + 1) (by omega) (by omega))
        · refine z_aload_n dX11_rankOf_22 rfl ?_
          refine z_iload_n dX11_rankOf_23 rfl ?_
          refine z_iload_n dX11_rankOf_24 rfl ?_
          refine z_V2 (mi' := mX11_isAhead) dX11_rankOf_25 lX11_170 nX11_isAhead kX11_isAhead (by decide) (Nat.le_of_ble_eq_true rfl) (Nat.le_refl _) (Nat.le_refl _) (hM.1 _ (by decide)) rfl rfl ?_
          refine sX11_isAhead hM hL hi9 hf ?_
          refine z_if_eq (tgt := 35) dX11_rankOf_28 (by decide) (fun c3 => ?_) (fun c3 => ?_)
          · have e9 := zct_f (p := (fun k => decide (k ≠ f) && zahM σ (zcred σ E F S) k f)) (n := i) (by have h1 := zbf (zb_0.mp c3); simp [h1])
            refine z_iconst (v := 0) dX11_rankOf_35 (by decide) ?_
            refine z_iadd dX11_rankOf_36 ?_
            refine z_istore_n dX11_rankOf_37 (by decide) rfl ?_
            refine z_iinc dX11_rankOf_38 rfl rfl (by decide) rfl ?_
            refine z_goto (tgt := 4) dX11_rankOf_41 (by decide) ?_
            exact z_sub (lv' := [some (.ref (am 0)), some (.int (nI f)), some (.int (nI (zct (fun k => decide (k ≠ f) && zahM σ (zcred σ E F S) k f) (i + 1)))), some (.int (nI (i + 1)))]) ⟨rfl, rfl, zsl (by rw [e9]; first | exact nI_1 _ | exact zadd0 _ | rfl), zsl (zinc i), trivial⟩ (ih (i + 1) (by omega) (by omega))
          · have e9 := zct_t (p := (fun k => decide (k ≠ f) && zahM σ (zcred σ E F S) k f)) (n := i) (by have h1 := zb_n.mp c3; have h2 : i ≠ f := fun q => c2 (by rw [q]); simp [h1, h2])
            refine z_iconst (v := 1) dX11_rankOf_31 (by decide) ?_
            refine z_goto (tgt := 36) dX11_rankOf_32 (by decide) ?_
            refine z_iadd dX11_rankOf_36 ?_
            refine z_istore_n dX11_rankOf_37 (by decide) rfl ?_
            refine z_iinc dX11_rankOf_38 rfl rfl (by decide) rfl ?_
            refine z_goto (tgt := 4) dX11_rankOf_41 (by decide) ?_
            exact z_sub (lv' := [some (.ref (am 0)), some (.int (nI f)), some (.int (nI (zct (fun k => decide (k ≠ f) && zahM σ (zcred σ E F S) k f) (i + 1)))), some (.int (nI (i + 1)))]) ⟨rfl, rfl, zsl (by rw [e9]; first | exact nI_1 _ | exact zadd0 _ | rfl), zsl (zinc i), trivial⟩ (ih (i + 1) (by omega) (by omega))
  refine z_iconst (v := 0) dX11_rankOf_0 (by decide) ?_
  refine z_istore_n dX11_rankOf_1 (by decide) rfl ?_
  refine z_iconst (v := 0) dX11_rankOf_2 (by decide) ?_
  refine z_istore_n dX11_rankOf_3 (by decide) rfl ?_
  exact z_sub (lv' := [some (.ref (am 0)), some (.int (nI f)), some (.int (nI (zct (fun k => decide (k ≠ f) && zahM σ (zcred σ E F S) k f) 0))), some (.int (nI 0))]) ⟨rfl, rfl, rfl, rfl, trivial⟩ (key (F + 1) 0 (by omega) (by omega))
