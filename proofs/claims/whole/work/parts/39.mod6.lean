theorem zyadd_lt {y : Int32} {Y : Int} {a b : Nat} (hy : zBet y 100 Y) (hY : Y ≤ 1000000) (ha : a < 1000) (hb : b < 1000) : y + nI a < y + nI b ↔ a < b := by
  unfold zBet at hy
  have e1 := nI_toInt (show a < 2147483648 by omega)
  have e2 := nI_toInt (show b < 2147483648 by omega)
  rw [Int32.lt_iff_toInt_lt, zaddI (by omega), zaddI (by omega), e1, e2]
  omega
/-- ranked, in plain words -/
def zrkp (σ : zSt) (E F S : Nat) (x : Int32) : Nat → Bool := fun f => decide (nI (zct (fun k => decide (k ≠ f) && zahM σ (zcred σ E F S) k f) F) = x)
def zoRanked (σ : zSt) (E F S : Nat) (x : Int32) : zO := if zff (zrkp σ E F S x) F < F then zvi (nI (zff (zrkp σ E F S x) F)) else .inr zNS
set_option maxHeartbeats 4000000 in
set_option maxRecDepth 10000 in
theorem sX11_ranked {Γ : zG} {d : Nat} {G : zH} {Post : zV} {am : Nat → Nat} {μ : zSt} (hM : zMod G am μ) {σ : zSt} {S F E K : Nat} {mm : Nat → Nat} {fl : Nat → Nat → Nat} (hL : zRel σ S F E K (μ 1) mm fl) {x : Int32} (hP : ∀ (r c : Int32) (G1 : zH), zans [zNS] (zoRanked σ E F S x) r c → zMod G1 am (zu μ 0 7 c) → zFrm G G1 am 8 → Post (some (.int r)) G1) : zM Γ (d + 9) mX11_ranked 0 0 [.ref (am 0), .int x] G Post := by
  refine zM_of pnX11 rfl (Nat.le_of_ble_eq_true rfl) rfl ?_
  have hS6 := hL.S6
  have hF12 := hL.F12
  have hE4 := hL.E4
  have hK3 := hL.K3
  have key : ∀ (r : Nat) (i : Nat), i ≤ F → F < i + r → (∀ k, k < i → (zrkp σ E F S x) k = false) → zX Γ mX11_ranked (d + 9) 0 0 2 [some (.ref (am 0)), some (.int x), some (.int (nI i))] [] G 0 0 (zlift Post) := by
    intro r
    induction r with
    | zero =>
      intro i hi1 hi2 hno
      exact absurd hi2 (by omega)
    | succ r ih =>
      intro i hi1 hi2 hno
      refine z_iload_n dX11_ranked_2 rfl ?_
      refine z_aload_n dX11_ranked_3 rfl ?_
      refine z_get dX11_ranked_4 fX11_7.r (hM.1 _ (by decide)) rfl ?_
      refine z_sipush (v := 179) dX11_ranked_7 (by decide) ?_
      refine z_iald dX11_ranked_10 (hM.1 1 (by decide)) (show vp_in (nI 179) 229 from vp_in_nI (by decide) (by decide)) ?_
      rw [show μ 1 (Int32.toNatClampNeg 179) = nI F from hL.sc.2.2.2.2.2.1]
      refine z_icmp_ge (tgt := 29) dX11_ranked_11 (by decide) (fun c1 => ?_) (fun c1 => ?_)
      · have hi9 := zgeN (N := F) rfl (by omega) (by omega) c1
        have hiF : i = F := (by omega)
        refine z_aload_n dX11_ranked_29 rfl ?_
        refine z_iload_n dX11_ranked_30 rfl ?_
        refine z_aload_n dX11_ranked_31 rfl ?_
        refine z_get dX11_ranked_32 fX11_7.r (hM.1 _ (by decide)) rfl ?_
        refine z_sipush (v := 179) dX11_ranked_35 (by decide) ?_
        refine z_iald dX11_ranked_38 (hM.1 1 (by decide)) (show vp_in (nI 179) 229 from vp_in_nI (by decide) (by decide)) ?_
        rw [show μ 1 (Int32.toNatClampNeg 179) = nI F from hL.sc.2.2.2.2.2.1]
        refine z_icmp_ne (tgt := 46) dX11_ranked_39 (by decide) (fun c2 => ?_) (fun c2 => ?_)
        · exact absurd (by rw [hiF]) c2
        · refine z_iconst (v := 1) dX11_ranked_42 (by decide) ?_
          refine z_goto (tgt := 47) dX11_ranked_43 (by decide) ?_
          refine z_V1 (mi' := mX11_fails) dX11_ranked_47 lX11_149 nX11_fails kX11_fails (by decide) (Nat.le_of_ble_eq_true rfl) (Nat.le_refl _) (Nat.le_refl _) (hM.1 _ (by decide)) rfl rfl ?_
          refine sX11_fails hM (fun G1 hM hQ => ?_)
          replace hL := zrel_u (j := 7) (x := 1) hL
          rw [zfb1]
          refine z_if_eq (tgt := 57) dX11_ranked_50 (by decide) (fun c3 => ?_) (fun c3 => ?_)
          · exact absurd c3 zi10
          · refine z_iconst (v := 0) dX11_ranked_53 (by decide) ?_
            refine z_goto (tgt := 58) dX11_ranked_54 (by decide) ?_
            exact z_ireturn (mi := mX11_ranked) dX11_ranked_58 rfl rfl (Nat.le_refl _) (Nat.le_refl _) (hP _ _ _ (by rw [zoRanked, if_neg (by rw [zff_no (fun k hk => hno k (by omega))]; omega)]; rfl) hM hQ)
      · have hi9 := zltN (N := F) rfl (by omega) (by omega) c1
        refine z_aload_n dX11_ranked_14 rfl ?_
        refine z_iload_n dX11_ranked_15 rfl ?_
        refine z_V1 (mi' := mX11_rankOf) dX11_ranked_16 lX11_174 nX11_rankOf kX11_rankOf (by decide) (Nat.le_of_ble_eq_true rfl) (Nat.le_refl _) (Nat.le_refl _) (hM.1 _ (by decide)) rfl rfl ?_
        refine sX11_rankOf hM hL hi9 ?_
        refine z_iload_n dX11_ranked_19 rfl ?_
        refine z_icmp_eq (tgt := 29) dX11_ranked_20 (by decide) (fun c4 => ?_) (fun c4 => ?_)
        · have h5 : zrkp σ E F S x i = true := decide_eq_true c4
          refine z_aload_n dX11_ranked_29 rfl ?_
          refine z_iload_n dX11_ranked_30 rfl ?_
          refine z_aload_n dX11_ranked_31 rfl ?_
          refine z_get dX11_ranked_32 fX11_7.r (hM.1 _ (by decide)) rfl ?_
          refine z_sipush (v := 179) dX11_ranked_35 (by decide) ?_
          refine z_iald dX11_ranked_38 (hM.1 1 (by decide)) (show vp_in (nI 179) 229 from vp_in_nI (by decide) (by decide)) ?_
          rw [show μ 1 (Int32.toNatClampNeg 179) = nI F from hL.sc.2.2.2.2.2.1]
          refine z_icmp_ne (tgt := 46) dX11_ranked_39 (by decide) (fun c5 => ?_) (fun c5 => ?_)
          · refine z_iconst (v := 0) dX11_ranked_46 (by decide) ?_
            refine z_V1 (mi' := mX11_fails) dX11_ranked_47 lX11_149 nX11_fails kX11_fails (by decide) (Nat.le_of_ble_eq_true rfl) (Nat.le_refl _) (Nat.le_refl _) (hM.1 _ (by decide)) rfl rfl ?_
            refine sX11_fails hM (fun G1 hM hQ => ?_)
            replace hL := zrel_u (j := 7) (x := 0) hL
            rw [zfb0]
            refine z_if_eq (tgt := 57) dX11_ranked_50 (by decide) (fun c6 => ?_) (fun c6 => ?_)
            · refine z_iload_n dX11_ranked_57 rfl ?_
              exact z_ireturn (mi := mX11_ranked) dX11_ranked_58 rfl rfl (Nat.le_refl _) (Nat.le_refl _) (hP _ _ _ (by rw [zoRanked, zff_yes hno h5 hi9, if_pos hi9]; exact ⟨rfl, rfl⟩) hM hQ)
            · exact absurd rfl c6
          · exact absurd (znI_inj (by omega) (by omega) c5) (by omega)
        · have e9 : zrkp σ E F S x i = false := decide_eq_false c4
          refine z_iinc dX11_ranked_23 rfl rfl (by decide) rfl ?_
          refine z_goto (tgt := 2) dX11_ranked_26 (by decide) ?_
          exact z_sub (lv' := [some (.ref (am 0)), some (.int x), some (.int (nI (i + 1)))]) ⟨rfl, rfl, zsl (zinc i), trivial⟩ (ih (i + 1) (by omega) (by omega) (zff_f hno e9))
  refine z_iconst (v := 0) dX11_ranked_0 (by decide) ?_
  refine z_istore_n dX11_ranked_1 (by decide) rfl ?_
  exact z_sub (lv' := [some (.ref (am 0)), some (.int x), some (.int (nI 0))]) ⟨rfl, rfl, rfl, trivial⟩ (key (F + 1) 0 (by omega) (by omega) (fun k hk => absurd hk (by omega)))
set_option maxHeartbeats 4000000 in
set_option maxRecDepth 10000 in
theorem sX11_errorIn {Γ : zG} {d : Nat} {G : zH} {Post : zV} {am : Nat → Nat} {μ : zSt} (hM : zMod G am μ) {σ : zSt} {S F E K : Nat} {mm : Nat → Nat} {fl : Nat → Nat → Nat} (hL : zRel σ S F E K (μ 1) mm fl) {Y : Int} (hB : zBnd σ S F E K Y) (hY : Y ≤ 1000000) {x w : Int32} (hP : ∀ (r c : Int32) (G1 : zH), zans [zIO, zIA] (zoErrorIn σ x w) r c → zMod G1 am (zu μ 0 7 c) → zFrm G G1 am 8 → Post (some (.int r)) G1) : zM Γ (d + 2) mX11_errorIn 0 0 [.ref (am 0), .int x, .int w] G Post := by
  refine zM_of pnX11 rfl (Nat.le_of_ble_eq_true rfl) rfl ?_
  have hS6 := hL.S6
  have hF12 := hL.F12
  have hE4 := hL.E4
  have hK3 := hL.K3
  refine z_aload_n dX11_errorIn_0 rfl ?_
  refine z_aload_n dX11_errorIn_1 rfl ?_
  refine z_iload_n dX11_errorIn_2 rfl ?_
  refine z_V1 (mi' := mX11_isStone) dX11_errorIn_3 lX11_101 nX11_isStone kX11_isStone (by decide) (Nat.le_of_ble_eq_true rfl) (Nat.le_refl _) (Nat.le_refl _) (hM.1 _ (by decide)) rfl rfl ?_
  refine sX11_isStone hM hL ?_
  refine z_if_ne (tgt := 13) dX11_errorIn_6 (by decide) (fun c1 => ?_) (fun c1 => ?_)
  · have h1 : ¬ ¬ (0 ≤ x ∧ x < σ 13 1) := by rw [hL.n.1]; exact not_not_intro (zb_n.mp c1)
    obtain ⟨s, hs, rfl⟩ := zhas (by omega) (zb_n.mp c1)
    refine z_iload_n dX11_errorIn_13 rfl ?_
    refine z_iconst (v := 0) dX11_errorIn_14 (by decide) ?_
    refine z_bipush (v := 60) dX11_errorIn_15 (by decide) ?_
    refine z_S3 (mi' := mX11_in) dX11_errorIn_17 lX11_62 nX11_in kX11_in (by decide) (Nat.le_of_ble_eq_true rfl) (Nat.le_refl _) (Nat.le_refl _) ?_
    refine sX11_in ?_
    refine z_if_eq (tgt := 27) dX11_errorIn_20 (by decide) (fun c2 => ?_) (fun c2 => ?_)
    · have h3 : w < 0 ∨ 60 < w := by
        by_cases q : w < 0
        · exact Or.inl q
        · exact Or.inr (Int32.not_le.mp (fun q2 => zb_0.mp c2 ⟨Int32.not_lt.mp q, q2⟩))
      refine z_iconst (v := 2) dX11_errorIn_27 (by decide) ?_
      refine z_V1 (mi' := mX11_fails) dX11_errorIn_28 lX11_149 nX11_fails kX11_fails (by decide) (Nat.le_of_ble_eq_true rfl) (Nat.le_refl _) (Nat.le_refl _) (hM.1 _ (by decide)) rfl rfl ?_
      refine sX11_fails hM (fun G1 hM hQ => ?_)
      replace hL := zrel_u (j := 7) (x := 2) hL
      rw [zfb2]
      refine z_if_eq (tgt := 36) dX11_errorIn_31 (by decide) (fun c3 => ?_) (fun c3 => ?_)
      · exact absurd c3 zi10
      · refine z_iconst (v := 0) dX11_errorIn_34 (by decide) ?_
        exact z_ireturn (mi := mX11_errorIn) dX11_errorIn_35 rfl rfl (Nat.le_refl _) (Nat.le_refl _) (hP _ _ _ (by rw [zoErrorIn, if_neg h1, if_pos h3]; rfl) hM hQ)
    · have h3 : ¬ (w < 0 ∨ 60 < w) := fun q => q.elim (fun q => Int32.not_lt.mpr (zb_n.mp c2).1 q) (fun q => Int32.not_lt.mpr (zb_n.mp c2).2 q)
      obtain ⟨m, hm, rfl⟩ := zhasLe (n := 60) (by decide) (zb_n.mp c2)
      refine z_iconst (v := 0) dX11_errorIn_23 (by decide) ?_
      refine z_goto (tgt := 28) dX11_errorIn_24 (by decide) ?_
      refine z_V1 (mi' := mX11_fails) dX11_errorIn_28 lX11_149 nX11_fails kX11_fails (by decide) (Nat.le_of_ble_eq_true rfl) (Nat.le_refl _) (Nat.le_refl _) (hM.1 _ (by decide)) rfl rfl ?_
      refine sX11_fails hM (fun G1 hM hQ => ?_)
      replace hL := zrel_u (j := 7) (x := 0) hL
      rw [zfb0]
      refine z_if_eq (tgt := 36) dX11_errorIn_31 (by decide) (fun c4 => ?_) (fun c4 => ?_)
      · refine z_aload_n dX11_errorIn_36 rfl ?_
        refine z_iload_n dX11_errorIn_37 rfl ?_
        refine z_iconst (v := 3) dX11_errorIn_38 (by decide) ?_
        refine z_V2 (mi' := mX11_of) dX11_errorIn_39 lX11_70 nX11_of kX11_of (by decide) (Nat.le_of_ble_eq_true rfl) (Nat.le_refl _) (Nat.le_refl _) (hM.1 _ (by decide)) rfl rfl ?_
        refine sX11_of hM (s := s) (w := 3) (by omega) ?_
        rw [show zu μ 0 7 0 1 (5 + 29 * s + 3) = _ from (hL.st hs).2.2.2.1]
        refine z_istore_n dX11_errorIn_42 (by decide) rfl ?_
        refine z_aload_n dX11_errorIn_43 rfl ?_
        refine z_get dX11_errorIn_44 fX11_7.r (hM.1 _ (by decide)) rfl ?_
        refine z_iconst (v := 0) dX11_errorIn_47 (by decide) ?_
        refine z_iald dX11_errorIn_48 (hM.1 1 (by decide)) (show vp_in (nI 0) 229 from vp_in_nI (by decide) (by decide)) ?_
        rw [show zu μ 0 7 0 1 (Int32.toNatClampNeg 0) = σ 13 0 from hL.sc.1]
        refine z_iconst (v := 1) dX11_errorIn_49 (by decide) ?_
        refine z_iadd dX11_errorIn_50 ?_
        refine z_istore dX11_errorIn_51 (by decide) rfl ?_
        have key : ∀ (r : Nat) (i : Nat), i ≤ m → m < i + r → zX Γ mX11_errorIn (d + 2) 0 0 53 [some (.ref (am 0)), some (.int (nI s)), some (.int (nI m)), some (.int (zerrA (σ 13 0) (σ 3 s) i)), some (.int (σ 13 0 + nI (i + 1)))] [] G1 0 0 (zlift Post) := by
          intro r
          induction r with
          | zero =>
            intro i hi1 hi2
            exact absurd hi2 (by omega)
          | succ r ih =>
            intro i hi1 hi2
            refine z_iload dX11_errorIn_53 rfl ?_
            refine z_aload_n dX11_errorIn_55 rfl ?_
            refine z_get dX11_errorIn_56 fX11_7.r (hM.1 _ (by decide)) rfl ?_
            refine z_iconst (v := 0) dX11_errorIn_59 (by decide) ?_
            refine z_iald dX11_errorIn_60 (hM.1 1 (by decide)) (show vp_in (nI 0) 229 from vp_in_nI (by decide) (by decide)) ?_
            rw [show zu μ 0 7 0 1 (Int32.toNatClampNeg 0) = σ 13 0 from hL.sc.1]
            refine z_iload_n dX11_errorIn_61 rfl ?_
            refine z_iadd dX11_errorIn_62 ?_
            refine z_icmp_gt (tgt := 84) dX11_errorIn_63 (by decide) (fun c1 => ?_) (fun c1 => ?_)
            · have hi9 := (zyadd_lt hB.2.2.2.2.2 hY (by omega) (by omega)).mp c1
              refine z_iload_n dX11_errorIn_84 rfl ?_
              exact z_ireturn (mi := mX11_errorIn) dX11_errorIn_85 rfl rfl (Nat.le_refl _) (Nat.le_refl _) (hP _ _ _ (by rw [zoErrorIn, if_neg h1, if_neg h3, nI_clamp (by omega), nI_clamp (by omega), show i = m by omega]; exact ⟨rfl, rfl⟩) hM hQ)
            · have hi9 : i < m := Nat.lt_of_not_le (fun q => c1 ((zyadd_lt hB.2.2.2.2.2 hY (by omega) (by omega)).mpr (by omega)))
              refine z_iload dX11_errorIn_66 rfl ?_
              refine z_iconst (v := 3) dX11_errorIn_68 (by decide) ?_
              refine z_irem dX11_errorIn_69 (by decide) ?_
              refine z_if_ne (tgt := 78) dX11_errorIn_70 (by decide) (fun c2 => ?_) (fun c2 => ?_)
              · have e9 : zerrA (σ 13 0) (σ 3 s) (i + 1) = zerrA (σ 13 0) (σ 3 s) i := by rw [zerrA, if_neg c2]
                refine z_iinc dX11_errorIn_78 rfl rfl (by decide) rfl ?_
                refine z_goto (tgt := 53) dX11_errorIn_81 (by decide) ?_
                exact z_sub (lv' := [some (.ref (am 0)), some (.int (nI s)), some (.int (nI m)), some (.int (zerrA (σ 13 0) (σ 3 s) (i + 1))), some (.int (σ 13 0 + nI ((i + 1) + 1)))]) ⟨rfl, rfl, rfl, zsl (by (rw [e9]) <;> rfl), zsl (by rw [Int32.add_assoc, zinc]), trivial⟩ (ih (i + 1) (by omega) (by omega))
              · have e9 : zerrA (σ 13 0) (σ 3 s) (i + 1) = zdrift (zerrA (σ 13 0) (σ 3 s) i) := by rw [zerrA, if_pos c2]
                refine z_iload_n dX11_errorIn_73 rfl ?_
                refine z_S1 (mi' := mX11_errs) dX11_errorIn_74 lX11_127 nX11_errs kX11_errs (by decide) (Nat.le_of_ble_eq_true rfl) (Nat.le_refl _) (Nat.le_refl _) ?_
                refine sX11_errs ?_
                refine z_istore_n dX11_errorIn_77 (by decide) rfl ?_
                refine z_iinc dX11_errorIn_78 rfl rfl (by decide) rfl ?_
                refine z_goto (tgt := 53) dX11_errorIn_81 (by decide) ?_
                exact z_sub (lv' := [some (.ref (am 0)), some (.int (nI s)), some (.int (nI m)), some (.int (zerrA (σ 13 0) (σ 3 s) (i + 1))), some (.int (σ 13 0 + nI ((i + 1) + 1)))]) ⟨rfl, rfl, rfl, zsl (by (rw [e9]) <;> rfl), zsl (by rw [Int32.add_assoc, zinc]), trivial⟩ (ih (i + 1) (by omega) (by omega))
        exact z_sub (lv' := [some (.ref (am 0)), some (.int (nI s)), some (.int (nI m)), some (.int (zerrA (σ 13 0) (σ 3 s) 0)), some (.int (σ 13 0 + nI (0 + 1)))]) ⟨rfl, rfl, rfl, rfl, rfl, trivial⟩ (key (m + 1) 0 (by omega) (by omega))
      · exact absurd rfl c4
  · have h1 : ¬ (0 ≤ x ∧ x < σ 13 1) := by rw [hL.n.1]; exact zb_0.mp c1
    refine z_iconst (v := 1) dX11_errorIn_9 (by decide) ?_
    refine z_goto (tgt := 28) dX11_errorIn_10 (by decide) ?_
    refine z_V1 (mi' := mX11_fails) dX11_errorIn_28 lX11_149 nX11_fails kX11_fails (by decide) (Nat.le_of_ble_eq_true rfl) (Nat.le_refl _) (Nat.le_refl _) (hM.1 _ (by decide)) rfl rfl ?_
    refine sX11_fails hM (fun G1 hM hQ => ?_)
    replace hL := zrel_u (j := 7) (x := 1) hL
    rw [zfb1]
    refine z_if_eq (tgt := 36) dX11_errorIn_31 (by decide) (fun c5 => ?_) (fun c5 => ?_)
    · exact absurd c5 zi10
    · refine z_iconst (v := 0) dX11_errorIn_34 (by decide) ?_
      exact z_ireturn (mi := mX11_errorIn) dX11_errorIn_35 rfl rfl (Nat.le_refl _) (Nat.le_refl _) (hP _ _ _ (by rw [zoErrorIn, if_pos h1]; rfl) hM hQ)
set_option maxHeartbeats 4000000 in
set_option maxRecDepth 10000 in
theorem sX11_reason {Γ : zG} {d : Nat} {G : zH} {Post : zV} {am : Nat → Nat} {μ : zSt} (hM : zMod G am μ) {γ : zSt} (hg : γ 0 4 = μ 0 8 ∧ γ 0 5 = μ 0 9 ∧ γ 0 6 = μ 0 10) {w : Int32} (hP : ∀ (r c : Int32) (G1 : zH), zans [zIA, zNS] (zoReason γ w) r c → zMod G1 am (zu μ 0 7 c) → zFrm G G1 am 8 → Post (some (.int r)) G1) : zM Γ (d + 1) mX11_reason 0 0 [.ref (am 0), .int w] G Post := by
  refine zM_of pnX11 rfl (Nat.le_of_ble_eq_true rfl) rfl ?_
  refine z_aload_n dX11_reason_0 rfl ?_
  refine z_iload_n dX11_reason_1 rfl ?_
  refine z_iconst (v := 0) dX11_reason_2 (by decide) ?_
  refine z_iconst (v := 2) dX11_reason_3 (by decide) ?_
  refine z_S3 (mi' := mX11_in) dX11_reason_4 lX11_62 nX11_in kX11_in (by decide) (Nat.le_of_ble_eq_true rfl) (Nat.le_refl _) (Nat.le_refl _) ?_
  refine sX11_in ?_
  refine z_if_ne (tgt := 14) dX11_reason_7 (by decide) (fun c1 => ?_) (fun c1 => ?_)
  · have h1 : ¬ (w < 0 ∨ 2 < w) := fun q => q.elim (fun q => Int32.not_lt.mpr (zb_n.mp c1).1 q) (fun q => Int32.not_lt.mpr (zb_n.mp c1).2 q)
    refine z_aload_n dX11_reason_14 rfl ?_
    refine z_get dX11_reason_15 fX11_39.r (hM.1 _ (by decide)) rfl ?_
    refine z_if_ne (tgt := 25) dX11_reason_18 (by decide) (fun c2 => ?_) (fun c2 => ?_)
    · have h2 := c2
      refine z_iconst (v := 0) dX11_reason_25 (by decide) ?_
      refine z_V1 (mi' := mX11_fails) dX11_reason_26 lX11_149 nX11_fails kX11_fails (by decide) (Nat.le_of_ble_eq_true rfl) (Nat.le_refl _) (Nat.le_refl _) (hM.1 _ (by decide)) rfl rfl ?_
      refine sX11_fails hM (fun G1 hM hQ => ?_)
      rw [zfb0]
      refine z_if_eq (tgt := 36) dX11_reason_29 (by decide) (fun c3 => ?_) (fun c3 => ?_)
      · refine z_iload_n dX11_reason_36 rfl ?_
        refine z_if_ne (tgt := 47) dX11_reason_37 (by decide) (fun c4 => ?_) (fun c4 => ?_)
        · have h3 := c4
          refine z_iload_n dX11_reason_47 rfl ?_
          refine z_iconst (v := 1) dX11_reason_48 (by decide) ?_
          refine z_icmp_ne (tgt := 59) dX11_reason_49 (by decide) (fun c5 => ?_) (fun c5 => ?_)
          · have h4 := c5
            refine z_aload_n dX11_reason_59 rfl ?_
            refine z_get dX11_reason_60 fX11_52.r (hM.1 _ (by decide)) rfl ?_
            exact z_ireturn (mi := mX11_reason) dX11_reason_63 rfl rfl (Nat.le_refl _) (Nat.le_refl _) (hP _ _ _ (by rw [zoReason, if_neg h1, hg.1, hg.2.1, hg.2.2, if_neg h2, if_neg h3, if_neg h4]; exact ⟨rfl, zu_j (by decide)⟩) hM hQ)
          · have h4 := c5
            refine z_aload_n dX11_reason_52 rfl ?_
            refine z_get dX11_reason_53 fX11_42.r (hM.1 _ (by decide)) rfl ?_
            refine z_goto (tgt := 63) dX11_reason_56 (by decide) ?_
            exact z_ireturn (mi := mX11_reason) dX11_reason_63 rfl rfl (Nat.le_refl _) (Nat.le_refl _) (hP _ _ _ (by rw [zoReason, if_neg h1, hg.1, hg.2.1, hg.2.2, if_neg h2, if_neg h3, if_pos h4]; exact ⟨rfl, zu_j (by decide)⟩) hM hQ)
        · have h3 := c4
          refine z_aload_n dX11_reason_40 rfl ?_
          refine z_get dX11_reason_41 fX11_39.r (hM.1 _ (by decide)) rfl ?_
          refine z_goto (tgt := 63) dX11_reason_44 (by decide) ?_
          exact z_ireturn (mi := mX11_reason) dX11_reason_63 rfl rfl (Nat.le_refl _) (Nat.le_refl _) (hP _ _ _ (by rw [zoReason, if_neg h1, hg.1, hg.2.1, hg.2.2, if_neg h2, if_pos h3]; exact ⟨rfl, zu_j (by decide)⟩) hM hQ)
      · exact absurd rfl c3
    · have h2 := c2
      refine z_iconst (v := 2) dX11_reason_21 (by decide) ?_
      refine z_goto (tgt := 26) dX11_reason_22 (by decide) ?_
      refine z_V1 (mi' := mX11_fails) dX11_reason_26 lX11_149 nX11_fails kX11_fails (by decide) (Nat.le_of_ble_eq_true rfl) (Nat.le_refl _) (Nat.le_refl _) (hM.1 _ (by decide)) rfl rfl ?_
      refine sX11_fails hM (fun G1 hM hQ => ?_)
      rw [zfb2]
      refine z_if_eq (tgt := 36) dX11_reason_29 (by decide) (fun c6 => ?_) (fun c6 => ?_)
      · exact absurd c6 zi10
      · refine z_iconst (v := 0) dX11_reason_32 (by decide) ?_
        refine z_goto (tgt := 63) dX11_reason_33 (by decide) ?_
        exact z_ireturn (mi := mX11_reason) dX11_reason_63 rfl rfl (Nat.le_refl _) (Nat.le_refl _) (hP _ _ _ (by rw [zoReason, if_neg h1, hg.1, if_pos h2]; rfl) hM hQ)
  · have h1 : w < 0 ∨ 2 < w := by
      by_cases q : w < 0
      · exact Or.inl q
      · exact Or.inr (Int32.not_le.mp (fun q2 => zb_0.mp c1 ⟨Int32.not_lt.mp q, q2⟩))
    refine z_iconst (v := 1) dX11_reason_10 (by decide) ?_
    refine z_goto (tgt := 26) dX11_reason_11 (by decide) ?_
    refine z_V1 (mi' := mX11_fails) dX11_reason_26 lX11_149 nX11_fails kX11_fails (by decide) (Nat.le_of_ble_eq_true rfl) (Nat.le_refl _) (Nat.le_refl _) (hM.1 _ (by decide)) rfl rfl ?_
    refine sX11_fails hM (fun G1 hM hQ => ?_)
    rw [zfb1]
    refine z_if_eq (tgt := 36) dX11_reason_29 (by decide) (fun c7 => ?_) (fun c7 => ?_)
    · exact absurd c7 zi10
    · refine z_iconst (v := 0) dX11_reason_32 (by decide) ?_
      refine z_goto (tgt := 63) dX11_reason_33 (by decide) ?_
      exact z_ireturn (mi := mX11_reason) dX11_reason_63 rfl rfl (Nat.le_refl _) (Nat.le_refl _) (hP _ _ _ (by rw [zoReason, if_pos h1]; rfl) hM hQ)
set_option maxHeartbeats 4000000 in
set_option maxRecDepth 10000 in
theorem sX11_faultPosition {Γ : zG} {d : Nat} {G : zH} {Post : zV} {am : Nat → Nat} {μ : zSt} (hM : zMod G am μ) (hP : ∀ G1, zMod G1 am (zu μ 0 7 0) → zFrm G G1 am 8 → Post (some (.int (μ 0 14))) G1) : zM Γ d mX11_faultPosition 0 0 [.ref (am 0)] G Post := by
  refine zM_of pnX11 rfl (Nat.le_of_ble_eq_true rfl) rfl ?_
  refine z_aload_n dX11_faultPosition_0 rfl ?_
  refine z_iconst (v := 0) dX11_faultPosition_1 (by decide) ?_
  refine z_put dX11_faultPosition_2 fX11_36 (hM.1 _ (by decide)) rfl rfl (Nat.le_of_ble_eq_true rfl) ?_
  refine z_mset hM 0 7 (0) (by decide) rfl (fun G1 hM hQ => ?_)
  refine z_aload_n dX11_faultPosition_5 rfl ?_
  refine z_get dX11_faultPosition_6 fX11_25.r (hM.1 _ (by decide)) rfl ?_
  exact z_ireturn (mi := mX11_faultPosition) dX11_faultPosition_9 rfl rfl (Nat.le_refl _) (Nat.le_refl _) (by rw [zu_j (show (14 : Nat) ≠ 7 by decide)]; exact hP _ hM hQ)
theorem zsm_ext {f : Nat → Nat} {S : Nat} : ∀ {N : Nat}, S ≤ N → (∀ k, S ≤ k → k < N → f k = 0) → zsm f N = zsm f S
  | 0, h, _ => by rw [show S = 0 by omega]
  | N + 1, h, h1 => by
    by_cases e : S = N + 1
    · rw [e]
    · rw [zsm, h1 N (by omega) (by omega), zsm_ext (N := N) (by omega) (fun k a b => h1 k a (by omega))]
      rfl
theorem zRel.mks {σ : zSt} {S F E K : Nat} {g : Nat → Int32} {mm : Nat → Nat} {fl : Nat → Nat → Nat} (hL : zRel σ S F E K g mm fl) : zsm (fun s => zct (fun f => zmk σ s f) 12) 6 = zsm mm S := by
  rw [zsm_ext hL.S6 (fun k h1 h2 => zct_0 (fun f hf => hL.off h1 h2 hf))]
  exact zsm_cong (fun s hs => hL.many hs hL.F12 (Nat.le_refl 12))
set_option maxHeartbeats 4000000 in
set_option maxRecDepth 10000 in
theorem sX11_account {Γ : zG} {d : Nat} {G : zH} {Post : zV} {am : Nat → Nat} {μ : zSt} (hM : zMod G am μ) {σ : zSt} {S F E K : Nat} {mm : Nat → Nat} {fl : Nat → Nat → Nat} (hL : zRel σ S F E K (μ 1) mm fl) {Y : Int} (hB : zBnd σ S F E K Y) {γ : zSt} (hg : γ 0 3 = μ 0 5 ∧ γ 0 7 = μ 0 13) {w : Int32} (hP : ∀ (r c : Int32) (G1 : zH), zans [zIA] (zoAccount σ γ E F S w) r c → zMod G1 am (zu μ 0 7 c) → zFrm G G1 am 8 → Post (some (.int r)) G1) : zM Γ (d + 7) mX11_account 0 0 [.ref (am 0), .int w] G Post := by
  refine zM_of pnX11 rfl (Nat.le_of_ble_eq_true rfl) rfl ?_
  have hS6 := hL.S6
  have hF12 := hL.F12
  have hE4 := hL.E4
  have hK3 := hL.K3
  refine z_aload_n dX11_account_0 rfl ?_
  refine z_iload_n dX11_account_1 rfl ?_
  refine z_iconst (v := 0) dX11_account_2 (by decide) ?_
  refine z_bipush (v := 11) dX11_account_3 (by decide) ?_
  refine z_S3 (mi' := mX11_in) dX11_account_5 lX11_62 nX11_in kX11_in (by decide) (Nat.le_of_ble_eq_true rfl) (Nat.le_refl _) (Nat.le_refl _) ?_
  refine sX11_in ?_
  refine z_if_eq (tgt := 15) dX11_account_8 (by decide) (fun c1 => ?_) (fun c1 => ?_)
  · have h1 := zb_0.mp c1
    refine z_iconst (v := 1) dX11_account_15 (by decide) ?_
    refine z_V1 (mi' := mX11_fails) dX11_account_16 lX11_149 nX11_fails kX11_fails (by decide) (Nat.le_of_ble_eq_true rfl) (Nat.le_refl _) (Nat.le_refl _) (hM.1 _ (by decide)) rfl rfl ?_
    refine sX11_fails hM (fun G1 hM hQ => ?_)
    replace hL := zrel_u (j := 7) (x := 1) hL
    rw [zfb1]
    refine z_if_eq (tgt := 24) dX11_account_19 (by decide) (fun c2 => ?_) (fun c2 => ?_)
    · exact absurd c2 zi10
    · refine z_iconst (v := 0) dX11_account_22 (by decide) ?_
      exact z_ireturn (mi := mX11_account) dX11_account_23 rfl rfl (Nat.le_refl _) (Nat.le_refl _) (hP _ _ _ (by rw [zoAccount, if_neg (fun q => h1 (by rw [q]; decide)), if_neg (fun q => h1 (by rw [q]; decide)), if_neg (fun q => h1 (by rw [q]; decide)), if_neg (fun q => h1 (by rw [q]; decide)), if_neg (fun q => h1 (by rw [q]; decide)), if_neg (fun q => h1 (by rw [q]; decide)), if_neg (fun q => h1 (by rw [q]; decide)), if_neg (fun q => h1 (by rw [q]; decide)), if_neg (fun q => h1 (by rw [q]; decide)), if_neg (fun q => h1 (by rw [q]; decide)), if_neg (fun q => h1 (by rw [q]; decide)), if_neg (fun q => h1 (by rw [q]; decide))]; rfl) hM hQ)
  · obtain ⟨j, hj, rfl⟩ := zhasLe (n := 11) (by decide) (zb_n.mp c1)
    refine z_iconst (v := 0) dX11_account_11 (by decide) ?_
    refine z_goto (tgt := 16) dX11_account_12 (by decide) ?_
    refine z_V1 (mi' := mX11_fails) dX11_account_16 lX11_149 nX11_fails kX11_fails (by decide) (Nat.le_of_ble_eq_true rfl) (Nat.le_refl _) (Nat.le_refl _) (hM.1 _ (by decide)) rfl rfl ?_
    refine sX11_fails hM (fun G1 hM hQ => ?_)
    replace hL := zrel_u (j := 7) (x := 0) hL
    rw [zfb0]
    refine z_if_eq (tgt := 24) dX11_account_19 (by decide) (fun c3 => ?_) (fun c3 => ?_)
    · refine z_iload_n dX11_account_24 rfl ?_
      by_cases t0 : (nI j) = 0
      · rw [t0]
        refine z_tableIn (tgt := 84) dX11_account_25 (by decide) (by decide) rfl (by decide) ?_
        refine z_aload_n dX11_account_84 rfl ?_
        refine z_get dX11_account_85 fX11_7.r (hM.1 _ (by decide)) rfl ?_
        refine z_iconst (v := 0) dX11_account_88 (by decide) ?_
        refine z_iald dX11_account_89 (hM.1 1 (by decide)) (show vp_in (nI 0) 229 from vp_in_nI (by decide) (by decide)) ?_
        rw [show zu μ 0 7 0 1 (Int32.toNatClampNeg 0) = σ 13 0 from hL.sc.1]
        exact z_ireturn (mi := mX11_account) dX11_account_90 rfl rfl (Nat.le_refl _) (Nat.le_refl _) (hP _ _ _ (by rw [zoAccount, if_pos t0]; exact ⟨rfl, rfl⟩) hM hQ)
      by_cases t1 : (nI j) = 1
      · rw [t1]
        refine z_tableIn (tgt := 91) dX11_account_25 (by decide) (by decide) rfl (by decide) ?_
        refine z_aload_n dX11_account_91 rfl ?_
        refine z_get dX11_account_92 fX11_7.r (hM.1 _ (by decide)) rfl ?_
        refine z_iconst (v := 4) dX11_account_95 (by decide) ?_
        refine z_iald dX11_account_96 (hM.1 1 (by decide)) (show vp_in (nI 4) 229 from vp_in_nI (by decide) (by decide)) ?_
        rw [show zu μ 0 7 0 1 (Int32.toNatClampNeg 4) = nI S from hL.sc.2.2.2.2.1]
        exact z_ireturn (mi := mX11_account) dX11_account_97 rfl rfl (Nat.le_refl _) (Nat.le_refl _) (hP _ _ _ (by rw [zoAccount, if_neg t0, if_pos t1]; exact ⟨rfl, hL.n.1.symm⟩) hM hQ)
      by_cases t2 : (nI j) = 2
      · rw [t2]
        refine z_tableIn (tgt := 98) dX11_account_25 (by decide) (by decide) rfl (by decide) ?_
        refine z_aload_n dX11_account_98 rfl ?_
        refine z_get dX11_account_99 fX11_7.r (hM.1 _ (by decide)) rfl ?_
        refine z_sipush (v := 179) dX11_account_102 (by decide) ?_
        refine z_iald dX11_account_105 (hM.1 1 (by decide)) (show vp_in (nI 179) 229 from vp_in_nI (by decide) (by decide)) ?_
        rw [show zu μ 0 7 0 1 (Int32.toNatClampNeg 179) = nI F from hL.sc.2.2.2.2.2.1]
        exact z_ireturn (mi := mX11_account) dX11_account_106 rfl rfl (Nat.le_refl _) (Nat.le_refl _) (hP _ _ _ (by rw [zoAccount, if_neg t0, if_neg t1, if_pos t2]; exact ⟨rfl, hL.n.2.2.1.symm⟩) hM hQ)
      by_cases t3 : (nI j) = 3
      · rw [t3]
        refine z_tableIn (tgt := 107) dX11_account_25 (by decide) (by decide) rfl (by decide) ?_
        refine z_aload_n dX11_account_107 rfl ?_
        refine z_get dX11_account_108 fX11_7.r (hM.1 _ (by decide)) rfl ?_
        refine z_sipush (v := 216) dX11_account_111 (by decide) ?_
        refine z_iald dX11_account_114 (hM.1 1 (by decide)) (show vp_in (nI 216) 229 from vp_in_nI (by decide) (by decide)) ?_
        rw [show zu μ 0 7 0 1 (Int32.toNatClampNeg 216) = nI E from hL.sc.2.2.2.2.2.2.1]
        exact z_ireturn (mi := mX11_account) dX11_account_115 rfl rfl (Nat.le_refl _) (Nat.le_refl _) (hP _ _ _ (by rw [zoAccount, if_neg t0, if_neg t1, if_neg t2, if_pos t3]; exact ⟨rfl, hL.n.2.2.2.2.1.symm⟩) hM hQ)
      by_cases t4 : (nI j) = 4
      · rw [t4]
        refine z_tableIn (tgt := 116) dX11_account_25 (by decide) (by decide) rfl (by decide) ?_
        refine z_aload_n dX11_account_116 rfl ?_
        refine z_get dX11_account_117 fX11_7.r (hM.1 _ (by decide)) rfl ?_
        refine z_sipush (v := 225) dX11_account_120 (by decide) ?_
        refine z_iald dX11_account_123 (hM.1 1 (by decide)) (show vp_in (nI 225) 229 from vp_in_nI (by decide) (by decide)) ?_
        rw [show zu μ 0 7 0 1 (Int32.toNatClampNeg 225) = nI K from hL.sc.2.2.2.2.2.2.2]
        exact z_ireturn (mi := mX11_account) dX11_account_124 rfl rfl (Nat.le_refl _) (Nat.le_refl _) (hP _ _ _ (by rw [zoAccount, if_neg t0, if_neg t1, if_neg t2, if_neg t3, if_pos t4]; exact ⟨rfl, hL.n.2.2.2.2.2.2.1.symm⟩) hM hQ)
      by_cases t5 : (nI j) = 5
      · rw [t5]
        refine z_tableIn (tgt := 125) dX11_account_25 (by decide) (by decide) rfl (by decide) ?_
        refine z_aload_n dX11_account_125 rfl ?_
        refine z_V0 (mi' := mX11_marks) dX11_account_126 lX11_233 nX11_marks kX11_marks (by decide) (Nat.le_of_ble_eq_true rfl) (Nat.le_refl _) (Nat.le_refl _) (hM.1 _ (by decide)) rfl rfl ?_
        refine sX11_marks hM hL ?_
        exact z_ireturn (mi := mX11_account) dX11_account_129 rfl rfl (Nat.le_refl _) (Nat.le_refl _) (hP _ _ _ (by rw [zoAccount, if_neg t0, if_neg t1, if_neg t2, if_neg t3, if_neg t4, if_pos t5, hL.mks]; exact ⟨rfl, rfl⟩) hM hQ)
      by_cases t6 : (nI j) = 6
      · rw [t6]
        refine z_tableIn (tgt := 130) dX11_account_25 (by decide) (by decide) rfl (by decide) ?_
        refine z_aload_n dX11_account_130 rfl ?_
        refine z_get dX11_account_131 fX11_7.r (hM.1 _ (by decide)) rfl ?_
        refine z_iconst (v := 1) dX11_account_134 (by decide) ?_
        refine z_iald dX11_account_135 (hM.1 1 (by decide)) (show vp_in (nI 1) 229 from vp_in_nI (by decide) (by decide)) ?_
        rw [show zu μ 0 7 0 1 (Int32.toNatClampNeg 1) = σ 13 5 from hL.sc.2.1]
        exact z_ireturn (mi := mX11_account) dX11_account_136 rfl rfl (Nat.le_refl _) (Nat.le_refl _) (hP _ _ _ (by rw [zoAccount, if_neg t0, if_neg t1, if_neg t2, if_neg t3, if_neg t4, if_neg t5, if_pos t6]; exact ⟨rfl, rfl⟩) hM hQ)
      by_cases t7 : (nI j) = 7
      · rw [t7]
        refine z_tableIn (tgt := 137) dX11_account_25 (by decide) (by decide) rfl (by decide) ?_
        refine z_aload_n dX11_account_137 rfl ?_
        refine z_get dX11_account_138 fX11_7.r (hM.1 _ (by decide)) rfl ?_
        refine z_iconst (v := 2) dX11_account_141 (by decide) ?_
        refine z_iald dX11_account_142 (hM.1 1 (by decide)) (show vp_in (nI 2) 229 from vp_in_nI (by decide) (by decide)) ?_
        rw [show zu μ 0 7 0 1 (Int32.toNatClampNeg 2) = σ 13 6 from hL.sc.2.2.1]
        exact z_ireturn (mi := mX11_account) dX11_account_143 rfl rfl (Nat.le_refl _) (Nat.le_refl _) (hP _ _ _ (by rw [zoAccount, if_neg t0, if_neg t1, if_neg t2, if_neg t3, if_neg t4, if_neg t5, if_neg t6, if_pos t7]; exact ⟨rfl, rfl⟩) hM hQ)
      by_cases t8 : (nI j) = 8
      · rw [t8]
        refine z_tableIn (tgt := 144) dX11_account_25 (by decide) (by decide) rfl (by decide) ?_
        refine z_aload_n dX11_account_144 rfl ?_
        refine z_get dX11_account_145 fX11_7.r (hM.1 _ (by decide)) rfl ?_
        refine z_iconst (v := 3) dX11_account_148 (by decide) ?_
        refine z_iald dX11_account_149 (hM.1 1 (by decide)) (show vp_in (nI 3) 229 from vp_in_nI (by decide) (by decide)) ?_
        rw [show zu μ 0 7 0 1 (Int32.toNatClampNeg 3) = σ 13 7 from hL.sc.2.2.2.1]
        exact z_ireturn (mi := mX11_account) dX11_account_150 rfl rfl (Nat.le_refl _) (Nat.le_refl _) (hP _ _ _ (by rw [zoAccount, if_neg t0, if_neg t1, if_neg t2, if_neg t3, if_neg t4, if_neg t5, if_neg t6, if_neg t7, if_pos t8]; exact ⟨rfl, rfl⟩) hM hQ)
      by_cases t9 : (nI j) = 9
      · rw [t9]
        refine z_tableIn (tgt := 151) dX11_account_25 (by decide) (by decide) rfl (by decide) ?_
        refine z_aload_n dX11_account_151 rfl ?_
        refine z_V0 (mi' := mX11_doubtful) dX11_account_152 lX11_236 nX11_doubtful kX11_doubtful (by decide) (Nat.le_of_ble_eq_true rfl) (Nat.le_refl _) (Nat.le_refl _) (hM.1 _ (by decide)) rfl rfl ?_
        refine sX11_doubtful hM hL hB ?_
        exact z_ireturn (mi := mX11_account) dX11_account_155 rfl rfl (Nat.le_refl _) (Nat.le_refl _) (hP _ _ _ (by rw [zoAccount, if_neg t0, if_neg t1, if_neg t2, if_neg t3, if_neg t4, if_neg t5, if_neg t6, if_neg t7, if_neg t8, if_pos t9]; exact ⟨rfl, rfl⟩) hM hQ)
      by_cases t10 : (nI j) = 10
      · rw [t10]
        refine z_tableIn (tgt := 156) dX11_account_25 (by decide) (by decide) rfl (by decide) ?_
        refine z_aload_n dX11_account_156 rfl ?_
        refine z_get dX11_account_157 fX11_55.r (hM.1 _ (by decide)) rfl ?_
        exact z_ireturn (mi := mX11_account) dX11_account_160 rfl rfl (Nat.le_refl _) (Nat.le_refl _) (hP _ _ _ (by rw [zoAccount, if_neg t0, if_neg t1, if_neg t2, if_neg t3, if_neg t4, if_neg t5, if_neg t6, if_neg t7, if_neg t8, if_neg t9, if_pos t10]; exact ⟨rfl, (zu_j (by decide)).trans hg.1.symm⟩) hM hQ)
      refine z_tableOut (tgt := 161) dX11_account_25 (by have u0 := lv_neT (a := 0) t0 (by decide); have u1 := lv_neT (a := 1) t1 (by decide); have u2 := lv_neT (a := 2) t2 (by decide); have u3 := lv_neT (a := 3) t3 (by decide); have u4 := lv_neT (a := 4) t4 (by decide); have u5 := lv_neT (a := 5) t5 (by decide); have u6 := lv_neT (a := 6) t6 (by decide); have u7 := lv_neT (a := 7) t7 (by decide); have u8 := lv_neT (a := 8) t8 (by decide); have u9 := lv_neT (a := 9) t9 (by decide); have u10 := lv_neT (a := 10) t10 (by decide); omega) (by decide) ?_
      refine z_aload_n dX11_account_161 rfl ?_
      refine z_get dX11_account_162 fX11_177.r (hM.1 _ (by decide)) rfl ?_
      exact z_ireturn (mi := mX11_account) dX11_account_165 rfl rfl (Nat.le_refl _) (Nat.le_refl _) (by
    have t11 : nI j = 11 := by
      rcases (by omega : j = 0 ∨ j = 1 ∨ j = 2 ∨ j = 3 ∨ j = 4 ∨ j = 5 ∨ j = 6 ∨ j = 7 ∨ j = 8 ∨ j = 9 ∨ j = 10 ∨ j = 11) with rfl | rfl | rfl | rfl | rfl | rfl | rfl | rfl | rfl | rfl | rfl | rfl <;> first | rfl | exact absurd rfl t0 | exact absurd rfl t1 | exact absurd rfl t2 | exact absurd rfl t3 | exact absurd rfl t4 | exact absurd rfl t5 | exact absurd rfl t6 | exact absurd rfl t7 | exact absurd rfl t8 | exact absurd rfl t9 | exact absurd rfl t10
    exact hP _ _ _ (by rw [zoAccount, if_neg t0, if_neg t1, if_neg t2, if_neg t3, if_neg t4, if_neg t5, if_neg t6, if_neg t7, if_neg t8, if_neg t9, if_neg t10, if_pos t11]; exact ⟨rfl, (zu_j (by decide)).trans hg.2.symm⟩) hM hQ)
    · exact absurd rfl c3
