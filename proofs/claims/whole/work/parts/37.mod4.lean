theorem zrel_u {σ : zSt} {S F E K : Nat} {μ : zSt} {j : Nat} {x : Int32} {mm : Nat → Nat} {fl : Nat → Nat → Nat} (h : zRel σ S F E K (μ 1) mm fl) : zRel σ S F E K (zu μ 0 j x 1) mm fl := by
  rw [zu_r (show (1 : Nat) ≠ 0 by decide)]
  exact h
theorem zfb1 : zb ((0 : Int32) < 1) = 1 := by decide
theorem zfb2 : zb ((0 : Int32) < 2) = 1 := by decide
theorem zfb3 : zb ((0 : Int32) < 3) = 1 := by decide
theorem zfb0 : zb ((0 : Int32) < 0) = 0 := by decide
theorem zi10 : ¬ (1 : Int32) = 0 := by decide
theorem zhasn {x : Int32} {n : Nat} (h : ¬ ¬ zb (0 ≤ x ∧ x < nI n) = 0) : ¬ (0 ≤ x ∧ x < nI n) := zb_0.mp (Decidable.not_not.mp h)
set_option maxHeartbeats 4000000 in
set_option maxRecDepth 10000 in
theorem sX11_doubtsOn {Γ : zG} {d : Nat} {G : zH} {Post : zV} {am : Nat → Nat} {μ : zSt} (hM : zMod G am μ) {σ : zSt} {S F E K : Nat} {mm : Nat → Nat} {fl : Nat → Nat → Nat} (hL : zRel σ S F E K (μ 1) mm fl) {Y : Int} (hB : zBnd σ S F E K Y) {s : Nat} (hs : s < S) (hP : Post (some (.int (nI (zdOn σ E F s)))) G) : zM Γ (d + 5) mX11_doubtsOn 0 0 [.ref (am 0), .int (nI s)] G Post := by
  refine zM_of pnX11 rfl (Nat.le_of_ble_eq_true rfl) rfl ?_
  have hS6 := hL.S6
  have hF12 := hL.F12
  have hE4 := hL.E4
  have hK3 := hL.K3
  have hm6 := hL.m6 hs
  have key : ∀ (r : Nat) (i : Nat), i ≤ (mm s) → (mm s) < i + r → zX Γ mX11_doubtsOn (d + 5) 0 0 4 [some (.ref (am 0)), some (.int (nI s)), some (.int (nI (zsm (fun a => zct (zdm σ E fl s a) (mm s)) i))), some (.int (nI i))] [] G 0 0 (zlift Post) := by
    intro r
    induction r with
    | zero =>
      intro i hi1 hi2
      exact absurd hi2 (by omega)
    | succ r ih =>
      intro i hi1 hi2
      refine z_iload_n dX11_doubtsOn_4 rfl ?_
      refine z_aload_n dX11_doubtsOn_5 rfl ?_
      refine z_iload_n dX11_doubtsOn_6 rfl ?_
      refine z_iconst (v := 4) dX11_doubtsOn_7 (by decide) ?_
      refine z_V2 (mi' := mX11_of) dX11_doubtsOn_8 lX11_70 nX11_of kX11_of (by decide) (Nat.le_of_ble_eq_true rfl) (Nat.le_refl _) (Nat.le_refl _) (hM.1 _ (by decide)) rfl rfl ?_
      refine sX11_of hM (s := s) (w := 4) (by omega) ?_
      rw [show μ 1 (5 + 29 * s + 4) = _ from (hL.st hs).2.2.2.2.1]
      refine z_icmp_ge (tgt := 29) dX11_doubtsOn_11 (by decide) (fun c1 => ?_) (fun c1 => ?_)
      · have hi9 := zgeN (N := mm s) rfl (by omega) (by omega) c1
        refine z_iload_n dX11_doubtsOn_29 rfl ?_
        refine z_iconst (v := 2) dX11_doubtsOn_30 (by decide) ?_
        refine z_idiv dX11_doubtsOn_31 (by decide) ?_
        exact z_ireturn (mi := mX11_doubtsOn) dX11_doubtsOn_32 rfl rfl (Nat.le_refl _) (Nat.le_refl _) (by rw [show i = mm s by omega, hL.dOn hB hs, zhalf (zdOn_le σ E F s hF12)]; exact hP)
      · have hi9 := zltN (N := mm s) rfl (by omega) (by omega) c1
        refine z_iload_n dX11_doubtsOn_14 rfl ?_
        refine z_aload_n dX11_doubtsOn_15 rfl ?_
        refine z_iload_n dX11_doubtsOn_16 rfl ?_
        refine z_iload_n dX11_doubtsOn_17 rfl ?_
        refine z_V2 (mi' := mX11_doubtsOf) dX11_doubtsOn_18 lX11_143 nX11_doubtsOf kX11_doubtsOf (by decide) (Nat.le_of_ble_eq_true rfl) (Nat.le_refl _) (Nat.le_refl _) (hM.1 _ (by decide)) rfl rfl ?_
        refine sX11_doubtsOf hM hL hs hi9 ?_
        refine z_iadd dX11_doubtsOn_21 ?_
        refine z_istore_n dX11_doubtsOn_22 (by decide) rfl ?_
        refine z_iinc dX11_doubtsOn_23 rfl rfl (by decide) rfl ?_
        refine z_goto (tgt := 4) dX11_doubtsOn_26 (by decide) ?_
        exact z_sub (lv' := [some (.ref (am 0)), some (.int (nI s)), some (.int (nI (zsm (fun a => zct (zdm σ E fl s a) (mm s)) (i + 1)))), some (.int (nI (i + 1)))]) ⟨rfl, rfl, zsl (nI_add _ _), zsl (zinc i), trivial⟩ (ih (i + 1) (by omega) (by omega))
  refine z_iconst (v := 0) dX11_doubtsOn_0 (by decide) ?_
  refine z_istore_n dX11_doubtsOn_1 (by decide) rfl ?_
  refine z_iconst (v := 0) dX11_doubtsOn_2 (by decide) ?_
  refine z_istore_n dX11_doubtsOn_3 (by decide) rfl ?_
  exact z_sub (lv' := [some (.ref (am 0)), some (.int (nI s)), some (.int (nI (zsm (fun a => zct (zdm σ E fl s a) (mm s)) 0))), some (.int (nI 0))]) ⟨rfl, rfl, rfl, rfl, trivial⟩ (key (mm s + 1) 0 (by omega) (by omega))
set_option maxHeartbeats 4000000 in
set_option maxRecDepth 10000 in
theorem sX11_level {Γ : zG} {d : Nat} {G : zH} {Post : zV} {am : Nat → Nat} {μ : zSt} (hM : zMod G am μ) {σ : zSt} {S F E K : Nat} {mm : Nat → Nat} {fl : Nat → Nat → Nat} (hL : zRel σ S F E K (μ 1) mm fl) {x y : Int32} (hP : ∀ (r c : Int32) (G1 : zH), zans [zIO] (zoLevel σ x y) r c → zMod G1 am (zu μ 0 7 c) → zFrm G G1 am 8 → Post (some (.int r)) G1) : zM Γ (d + 2) mX11_level 0 0 [.ref (am 0), .int x, .int y] G Post := by
  refine zM_of pnX11 rfl (Nat.le_of_ble_eq_true rfl) rfl ?_
  have hS6 := hL.S6
  have hF12 := hL.F12
  have hE4 := hL.E4
  have hK3 := hL.K3
  refine z_aload_n dX11_level_0 rfl ?_
  refine z_aload_n dX11_level_1 rfl ?_
  refine z_iload_n dX11_level_2 rfl ?_
  refine z_V1 (mi' := mX11_isStone) dX11_level_3 lX11_101 nX11_isStone kX11_isStone (by decide) (Nat.le_of_ble_eq_true rfl) (Nat.le_refl _) (Nat.le_refl _) (hM.1 _ (by decide)) rfl rfl ?_
  refine sX11_isStone hM hL ?_
  refine z_if_eq (tgt := 21) dX11_level_6 (by decide) (fun c1 => ?_) (fun c1 => ?_)
  · have h1 : ¬ (0 ≤ x ∧ x < σ 13 1) := by rw [hL.n.1]; exact zb_0.mp c1
    refine z_iconst (v := 1) dX11_level_21 (by decide) ?_
    refine z_V1 (mi' := mX11_fails) dX11_level_22 lX11_149 nX11_fails kX11_fails (by decide) (Nat.le_of_ble_eq_true rfl) (Nat.le_refl _) (Nat.le_refl _) (hM.1 _ (by decide)) rfl rfl ?_
    refine sX11_fails hM (fun G1 hM hQ => ?_)
    replace hL := zrel_u (j := 7) (x := 1) hL
    rw [zfb1]
    refine z_if_eq (tgt := 32) dX11_level_25 (by decide) (fun c2 => ?_) (fun c2 => ?_)
    · exact absurd c2 zi10
    · refine z_iconst (v := 0) dX11_level_28 (by decide) ?_
      refine z_goto (tgt := 38) dX11_level_29 (by decide) ?_
      exact z_ireturn (mi := mX11_level) dX11_level_38 rfl rfl (Nat.le_refl _) (Nat.le_refl _) (hP _ _ _ (by rw [zoLevel, if_pos h1]; rfl) hM hQ)
  · have h1 : ¬ ¬ (0 ≤ x ∧ x < σ 13 1) := by rw [hL.n.1]; exact not_not_intro (zb_n.mp c1)
    obtain ⟨s, hs, rfl⟩ := zhas (by omega) (zb_n.mp c1)
    refine z_aload_n dX11_level_9 rfl ?_
    refine z_iload_n dX11_level_10 rfl ?_
    refine z_V1 (mi' := mX11_isFlood) dX11_level_11 lX11_105 nX11_isFlood kX11_isFlood (by decide) (Nat.le_of_ble_eq_true rfl) (Nat.le_refl _) (Nat.le_refl _) (hM.1 _ (by decide)) rfl rfl ?_
    refine sX11_isFlood hM hL ?_
    refine z_if_eq (tgt := 21) dX11_level_14 (by decide) (fun c3 => ?_) (fun c3 => ?_)
    · have h2 : ¬ (0 ≤ y ∧ y < σ 13 2) := by rw [hL.n.2.2.1]; exact zb_0.mp c3
      refine z_iconst (v := 1) dX11_level_21 (by decide) ?_
      refine z_V1 (mi' := mX11_fails) dX11_level_22 lX11_149 nX11_fails kX11_fails (by decide) (Nat.le_of_ble_eq_true rfl) (Nat.le_refl _) (Nat.le_refl _) (hM.1 _ (by decide)) rfl rfl ?_
      refine sX11_fails hM (fun G1 hM hQ => ?_)
      replace hL := zrel_u (j := 7) (x := 1) hL
      rw [zfb1]
      refine z_if_eq (tgt := 32) dX11_level_25 (by decide) (fun c4 => ?_) (fun c4 => ?_)
      · exact absurd c4 zi10
      · refine z_iconst (v := 0) dX11_level_28 (by decide) ?_
        refine z_goto (tgt := 38) dX11_level_29 (by decide) ?_
        exact z_ireturn (mi := mX11_level) dX11_level_38 rfl rfl (Nat.le_refl _) (Nat.le_refl _) (hP _ _ _ (by rw [zoLevel, if_neg h1, if_pos h2]; rfl) hM hQ)
    · have h2 : ¬ ¬ (0 ≤ y ∧ y < σ 13 2) := by rw [hL.n.2.2.1]; exact not_not_intro (zb_n.mp c3)
      obtain ⟨f, hf, rfl⟩ := zhas (by omega) (zb_n.mp c3)
      refine z_iconst (v := 0) dX11_level_17 (by decide) ?_
      refine z_goto (tgt := 22) dX11_level_18 (by decide) ?_
      refine z_V1 (mi' := mX11_fails) dX11_level_22 lX11_149 nX11_fails kX11_fails (by decide) (Nat.le_of_ble_eq_true rfl) (Nat.le_refl _) (Nat.le_refl _) (hM.1 _ (by decide)) rfl rfl ?_
      refine sX11_fails hM (fun G1 hM hQ => ?_)
      replace hL := zrel_u (j := 7) (x := 0) hL
      rw [zfb0]
      refine z_if_eq (tgt := 32) dX11_level_25 (by decide) (fun c5 => ?_) (fun c5 => ?_)
      · refine z_aload_n dX11_level_32 rfl ?_
        refine z_iload_n dX11_level_33 rfl ?_
        refine z_iload_n dX11_level_34 rfl ?_
        refine z_V2 (mi' := mX11_levelOf) dX11_level_35 lX11_73 nX11_levelOf kX11_levelOf (by decide) (Nat.le_of_ble_eq_true rfl) (Nat.le_refl _) (Nat.le_refl _) (hM.1 _ (by decide)) rfl rfl ?_
        refine sX11_levelOf hM hL hs hf ?_
        exact z_ireturn (mi := mX11_level) dX11_level_38 rfl rfl (Nat.le_refl _) (Nat.le_refl _) (hP _ _ _ (by rw [zoLevel, if_neg h1, if_neg h2, nI_clamp (by omega), nI_clamp (by omega)]; exact ⟨rfl, rfl⟩) hM hQ)
      · exact absurd rfl c5
set_option maxHeartbeats 4000000 in
set_option maxRecDepth 10000 in
theorem sX11_reads {Γ : zG} {d : Nat} {G : zH} {Post : zV} {am : Nat → Nat} {μ : zSt} (hM : zMod G am μ) {σ : zSt} {S F E K : Nat} {mm : Nat → Nat} {fl : Nat → Nat → Nat} (hL : zRel σ S F E K (μ 1) mm fl) {x y : Int32} (hP : ∀ (r c : Int32) (G1 : zH), zans [zIO] (zoReads σ E x y) r c → zMod G1 am (zu μ 0 7 c) → zFrm G G1 am 8 → Post (some (.int r)) G1) : zM Γ (d + 3) mX11_reads 0 0 [.ref (am 0), .int x, .int y] G Post := by
  refine zM_of pnX11 rfl (Nat.le_of_ble_eq_true rfl) rfl ?_
  have hS6 := hL.S6
  have hF12 := hL.F12
  have hE4 := hL.E4
  have hK3 := hL.K3
  refine z_aload_n dX11_reads_0 rfl ?_
  refine z_aload_n dX11_reads_1 rfl ?_
  refine z_iload_n dX11_reads_2 rfl ?_
  refine z_V1 (mi' := mX11_isStone) dX11_reads_3 lX11_101 nX11_isStone kX11_isStone (by decide) (Nat.le_of_ble_eq_true rfl) (Nat.le_refl _) (Nat.le_refl _) (hM.1 _ (by decide)) rfl rfl ?_
  refine sX11_isStone hM hL ?_
  refine z_if_eq (tgt := 21) dX11_reads_6 (by decide) (fun c1 => ?_) (fun c1 => ?_)
  · have h1 : ¬ (0 ≤ x ∧ x < σ 13 1) := by rw [hL.n.1]; exact zb_0.mp c1
    refine z_iconst (v := 1) dX11_reads_21 (by decide) ?_
    refine z_V1 (mi' := mX11_fails) dX11_reads_22 lX11_149 nX11_fails kX11_fails (by decide) (Nat.le_of_ble_eq_true rfl) (Nat.le_refl _) (Nat.le_refl _) (hM.1 _ (by decide)) rfl rfl ?_
    refine sX11_fails hM (fun G1 hM hQ => ?_)
    replace hL := zrel_u (j := 7) (x := 1) hL
    rw [zfb1]
    refine z_if_eq (tgt := 32) dX11_reads_25 (by decide) (fun c2 => ?_) (fun c2 => ?_)
    · exact absurd c2 zi10
    · refine z_iconst (v := 0) dX11_reads_28 (by decide) ?_
      refine z_goto (tgt := 38) dX11_reads_29 (by decide) ?_
      exact z_ireturn (mi := mX11_reads) dX11_reads_38 rfl rfl (Nat.le_refl _) (Nat.le_refl _) (hP _ _ _ (by rw [zoReads, if_pos h1]; rfl) hM hQ)
  · have h1 : ¬ ¬ (0 ≤ x ∧ x < σ 13 1) := by rw [hL.n.1]; exact not_not_intro (zb_n.mp c1)
    obtain ⟨s, hs, rfl⟩ := zhas (by omega) (zb_n.mp c1)
    refine z_aload_n dX11_reads_9 rfl ?_
    refine z_iload_n dX11_reads_10 rfl ?_
    refine z_V1 (mi' := mX11_isFlood) dX11_reads_11 lX11_105 nX11_isFlood kX11_isFlood (by decide) (Nat.le_of_ble_eq_true rfl) (Nat.le_refl _) (Nat.le_refl _) (hM.1 _ (by decide)) rfl rfl ?_
    refine sX11_isFlood hM hL ?_
    refine z_if_eq (tgt := 21) dX11_reads_14 (by decide) (fun c3 => ?_) (fun c3 => ?_)
    · have h2 : ¬ (0 ≤ y ∧ y < σ 13 2) := by rw [hL.n.2.2.1]; exact zb_0.mp c3
      refine z_iconst (v := 1) dX11_reads_21 (by decide) ?_
      refine z_V1 (mi' := mX11_fails) dX11_reads_22 lX11_149 nX11_fails kX11_fails (by decide) (Nat.le_of_ble_eq_true rfl) (Nat.le_refl _) (Nat.le_refl _) (hM.1 _ (by decide)) rfl rfl ?_
      refine sX11_fails hM (fun G1 hM hQ => ?_)
      replace hL := zrel_u (j := 7) (x := 1) hL
      rw [zfb1]
      refine z_if_eq (tgt := 32) dX11_reads_25 (by decide) (fun c4 => ?_) (fun c4 => ?_)
      · exact absurd c4 zi10
      · refine z_iconst (v := 0) dX11_reads_28 (by decide) ?_
        refine z_goto (tgt := 38) dX11_reads_29 (by decide) ?_
        exact z_ireturn (mi := mX11_reads) dX11_reads_38 rfl rfl (Nat.le_refl _) (Nat.le_refl _) (hP _ _ _ (by rw [zoReads, if_neg h1, if_pos h2]; rfl) hM hQ)
    · have h2 : ¬ ¬ (0 ≤ y ∧ y < σ 13 2) := by rw [hL.n.2.2.1]; exact not_not_intro (zb_n.mp c3)
      obtain ⟨f, hf, rfl⟩ := zhas (by omega) (zb_n.mp c3)
      refine z_iconst (v := 0) dX11_reads_17 (by decide) ?_
      refine z_goto (tgt := 22) dX11_reads_18 (by decide) ?_
      refine z_V1 (mi' := mX11_fails) dX11_reads_22 lX11_149 nX11_fails kX11_fails (by decide) (Nat.le_of_ble_eq_true rfl) (Nat.le_refl _) (Nat.le_refl _) (hM.1 _ (by decide)) rfl rfl ?_
      refine sX11_fails hM (fun G1 hM hQ => ?_)
      replace hL := zrel_u (j := 7) (x := 0) hL
      rw [zfb0]
      refine z_if_eq (tgt := 32) dX11_reads_25 (by decide) (fun c5 => ?_) (fun c5 => ?_)
      · refine z_aload_n dX11_reads_32 rfl ?_
        refine z_iload_n dX11_reads_33 rfl ?_
        refine z_iload_n dX11_reads_34 rfl ?_
        refine z_V2 (mi' := mX11_heightNow) dX11_reads_35 lX11_114 nX11_heightNow kX11_heightNow (by decide) (Nat.le_of_ble_eq_true rfl) (Nat.le_refl _) (Nat.le_refl _) (hM.1 _ (by decide)) rfl rfl ?_
        refine sX11_heightNow hM hL hs hf ?_
        exact z_ireturn (mi := mX11_reads) dX11_reads_38 rfl rfl (Nat.le_refl _) (Nat.le_refl _) (hP _ _ _ (by rw [zoReads, if_neg h1, if_neg h2, nI_clamp (by omega), nI_clamp (by omega)]; exact ⟨rfl, rfl⟩) hM hQ)
      · exact absurd rfl c5
set_option maxHeartbeats 4000000 in
set_option maxRecDepth 10000 in
theorem sX11_shift {Γ : zG} {d : Nat} {G : zH} {Post : zV} {am : Nat → Nat} {μ : zSt} (hM : zMod G am μ) {σ : zSt} {S F E K : Nat} {mm : Nat → Nat} {fl : Nat → Nat → Nat} (hL : zRel σ S F E K (μ 1) mm fl) {x : Int32} (hP : ∀ (r c : Int32) (G1 : zH), zans [zIA] (zoShift σ E x) r c → zMod G1 am (zu μ 0 7 c) → zFrm G G1 am 8 → Post (some (.int r)) G1) : zM Γ (d + 2) mX11_shift 0 0 [.ref (am 0), .int x] G Post := by
  refine zM_of pnX11 rfl (Nat.le_of_ble_eq_true rfl) rfl ?_
  have hS6 := hL.S6
  have hF12 := hL.F12
  have hE4 := hL.E4
  have hK3 := hL.K3
  refine z_aload_n dX11_shift_0 rfl ?_
  refine z_iload_n dX11_shift_1 rfl ?_
  refine z_iconst (v := 0) dX11_shift_2 (by decide) ?_
  refine z_sipush (v := 999) dX11_shift_3 (by decide) ?_
  refine z_S3 (mi' := mX11_in) dX11_shift_6 lX11_62 nX11_in kX11_in (by decide) (Nat.le_of_ble_eq_true rfl) (Nat.le_refl _) (Nat.le_refl _) ?_
  refine sX11_in ?_
  refine z_if_eq (tgt := 16) dX11_shift_9 (by decide) (fun c1 => ?_) (fun c1 => ?_)
  · have h1 : x < 0 ∨ 999 < x := by
      by_cases q : x < 0
      · exact Or.inl q
      · exact Or.inr (Int32.not_le.mp (fun q2 => zb_0.mp c1 ⟨Int32.not_lt.mp q, q2⟩))
    refine z_iconst (v := 1) dX11_shift_16 (by decide) ?_
    refine z_V1 (mi' := mX11_fails) dX11_shift_17 lX11_149 nX11_fails kX11_fails (by decide) (Nat.le_of_ble_eq_true rfl) (Nat.le_refl _) (Nat.le_refl _) (hM.1 _ (by decide)) rfl rfl ?_
    refine sX11_fails hM (fun G1 hM hQ => ?_)
    replace hL := zrel_u (j := 7) (x := 1) hL
    rw [zfb1]
    refine z_if_eq (tgt := 27) dX11_shift_20 (by decide) (fun c2 => ?_) (fun c2 => ?_)
    · exact absurd c2 zi10
    · refine z_iconst (v := 0) dX11_shift_23 (by decide) ?_
      refine z_goto (tgt := 32) dX11_shift_24 (by decide) ?_
      exact z_ireturn (mi := mX11_shift) dX11_shift_32 rfl rfl (Nat.le_refl _) (Nat.le_refl _) (hP _ _ _ (by rw [zoShift, if_pos h1]; rfl) hM hQ)
  · have h1 : ¬ (x < 0 ∨ 999 < x) := fun q => q.elim (fun q => Int32.not_lt.mpr (zb_n.mp c1).1 q) (fun q => Int32.not_lt.mpr (zb_n.mp c1).2 q)
    refine z_iconst (v := 0) dX11_shift_12 (by decide) ?_
    refine z_goto (tgt := 17) dX11_shift_13 (by decide) ?_
    refine z_V1 (mi' := mX11_fails) dX11_shift_17 lX11_149 nX11_fails kX11_fails (by decide) (Nat.le_of_ble_eq_true rfl) (Nat.le_refl _) (Nat.le_refl _) (hM.1 _ (by decide)) rfl rfl ?_
    refine sX11_fails hM (fun G1 hM hQ => ?_)
    replace hL := zrel_u (j := 7) (x := 0) hL
    rw [zfb0]
    refine z_if_eq (tgt := 27) dX11_shift_20 (by decide) (fun c3 => ?_) (fun c3 => ?_)
    · refine z_aload_n dX11_shift_27 rfl ?_
      refine z_iload_n dX11_shift_28 rfl ?_
      refine z_V1 (mi' := mX11_shiftOf) dX11_shift_29 lX11_76 nX11_shiftOf kX11_shiftOf (by decide) (Nat.le_of_ble_eq_true rfl) (Nat.le_refl _) (Nat.le_refl _) (hM.1 _ (by decide)) rfl rfl ?_
      refine sX11_shiftOf hM hL ?_
      exact z_ireturn (mi := mX11_shift) dX11_shift_32 rfl rfl (Nat.le_refl _) (Nat.le_refl _) (hP _ _ _ (by rw [zoShift, if_neg h1]; exact ⟨rfl, rfl⟩) hM hQ)
    · exact absurd rfl c3
set_option maxHeartbeats 4000000 in
set_option maxRecDepth 10000 in
theorem sX11_edge {Γ : zG} {d : Nat} {G : zH} {Post : zV} {am : Nat → Nat} {μ : zSt} (hM : zMod G am μ) {σ : zSt} {S F E K : Nat} {mm : Nat → Nat} {fl : Nat → Nat → Nat} (hL : zRel σ S F E K (μ 1) mm fl) {x : Int32} (hP : ∀ (r c : Int32) (G1 : zH), zans [zIO] (zoEdge σ x) r c → zMod G1 am (zu μ 0 7 c) → zFrm G G1 am 8 → Post (some (.int r)) G1) : zM Γ (d + 2) mX11_edge 0 0 [.ref (am 0), .int x] G Post := by
  refine zM_of pnX11 rfl (Nat.le_of_ble_eq_true rfl) rfl ?_
  have hS6 := hL.S6
  have hF12 := hL.F12
  have hE4 := hL.E4
  have hK3 := hL.K3
  refine z_aload_n dX11_edge_0 rfl ?_
  refine z_aload_n dX11_edge_1 rfl ?_
  refine z_iload_n dX11_edge_2 rfl ?_
  refine z_V1 (mi' := mX11_isChisel) dX11_edge_3 lX11_108 nX11_isChisel kX11_isChisel (by decide) (Nat.le_of_ble_eq_true rfl) (Nat.le_refl _) (Nat.le_refl _) (hM.1 _ (by decide)) rfl rfl ?_
  refine sX11_isChisel hM hL ?_
  refine z_if_eq (tgt := 13) dX11_edge_6 (by decide) (fun c1 => ?_) (fun c1 => ?_)
  · have h1 : ¬ (0 ≤ x ∧ x < σ 13 4) := by rw [hL.n.2.2.2.2.2.2.1]; exact zb_0.mp c1
    refine z_iconst (v := 1) dX11_edge_13 (by decide) ?_
    refine z_V1 (mi' := mX11_fails) dX11_edge_14 lX11_149 nX11_fails kX11_fails (by decide) (Nat.le_of_ble_eq_true rfl) (Nat.le_refl _) (Nat.le_refl _) (hM.1 _ (by decide)) rfl rfl ?_
    refine sX11_fails hM (fun G1 hM hQ => ?_)
    replace hL := zrel_u (j := 7) (x := 1) hL
    rw [zfb1]
    refine z_if_eq (tgt := 24) dX11_edge_17 (by decide) (fun c2 => ?_) (fun c2 => ?_)
    · exact absurd c2 zi10
    · refine z_iconst (v := 0) dX11_edge_20 (by decide) ?_
      refine z_goto (tgt := 34) dX11_edge_21 (by decide) ?_
      exact z_ireturn (mi := mX11_edge) dX11_edge_34 rfl rfl (Nat.le_refl _) (Nat.le_refl _) (hP _ _ _ (by rw [zoEdge, if_pos h1]; rfl) hM hQ)
  · have h1 : ¬ ¬ (0 ≤ x ∧ x < σ 13 4) := by rw [hL.n.2.2.2.2.2.2.1]; exact not_not_intro (zb_n.mp c1)
    obtain ⟨c, hc, rfl⟩ := zhas (by omega) (zb_n.mp c1)
    refine z_iconst (v := 0) dX11_edge_9 (by decide) ?_
    refine z_goto (tgt := 14) dX11_edge_10 (by decide) ?_
    refine z_V1 (mi' := mX11_fails) dX11_edge_14 lX11_149 nX11_fails kX11_fails (by decide) (Nat.le_of_ble_eq_true rfl) (Nat.le_refl _) (Nat.le_refl _) (hM.1 _ (by decide)) rfl rfl ?_
    refine sX11_fails hM (fun G1 hM hQ => ?_)
    replace hL := zrel_u (j := 7) (x := 0) hL
    rw [zfb0]
    refine z_if_eq (tgt := 24) dX11_edge_17 (by decide) (fun c3 => ?_) (fun c3 => ?_)
    · refine z_aload_n dX11_edge_24 rfl ?_
      refine z_get dX11_edge_25 fX11_7.r (hM.1 _ (by decide)) rfl ?_
      refine z_sipush (v := 226) dX11_edge_28 (by decide) ?_
      refine z_iload_n dX11_edge_31 rfl ?_
      refine z_iadd dX11_edge_32 ?_
      rw [zixC]
      refine z_iald dX11_edge_33 (hM.1 1 (by decide)) (vp_in_nI (show 226 + c < 229 by omega) (by decide)) ?_
      rw [nI_clamp (show 226 + c < 2147483648 by omega), show zu μ 0 7 0 1 (226 + c) = _ from hL.ch hc]
      exact z_ireturn (mi := mX11_edge) dX11_edge_34 rfl rfl (Nat.le_refl _) (Nat.le_refl _) (hP _ _ _ (by rw [zoEdge, if_neg h1, nI_clamp (by omega)]; exact ⟨rfl, rfl⟩) hM hQ)
    · exact absurd rfl c3
set_option maxHeartbeats 4000000 in
set_option maxRecDepth 10000 in
theorem sX11_floodIn {Γ : zG} {d : Nat} {G : zH} {Post : zV} {am : Nat → Nat} {μ : zSt} (hM : zMod G am μ) {σ : zSt} {S F E K : Nat} {mm : Nat → Nat} {fl : Nat → Nat → Nat} (hL : zRel σ S F E K (μ 1) mm fl) {x : Int32} (hP : ∀ (r c : Int32) (G1 : zH), zans [zNS] (zoFloodIn σ F x) r c → zMod G1 am (zu μ 0 7 c) → zFrm G G1 am 8 → Post (some (.int r)) G1) : zM Γ (d + 2) mX11_floodIn 0 0 [.ref (am 0), .int x] G Post := by
  refine zM_of pnX11 rfl (Nat.le_of_ble_eq_true rfl) rfl ?_
  have hS6 := hL.S6
  have hF12 := hL.F12
  have hE4 := hL.E4
  have hK3 := hL.K3
  refine z_aload_n dX11_floodIn_0 rfl ?_
  refine z_aload_n dX11_floodIn_1 rfl ?_
  refine z_iload_n dX11_floodIn_2 rfl ?_
  refine z_V1 (mi' := mX11_ofYear) dX11_floodIn_3 lX11_95 nX11_ofYear kX11_ofYear (by decide) (Nat.le_of_ble_eq_true rfl) (Nat.le_refl _) (Nat.le_refl _) (hM.1 _ (by decide)) rfl rfl ?_
  refine sX11_ofYear hM hL ?_
  refine z_if_ge (tgt := 13) dX11_floodIn_6 (by decide) (fun c1 => ?_) (fun c1 => ?_)
  · have h1 := c1
    refine z_iconst (v := 0) dX11_floodIn_13 (by decide) ?_
    refine z_V1 (mi' := mX11_fails) dX11_floodIn_14 lX11_149 nX11_fails kX11_fails (by decide) (Nat.le_of_ble_eq_true rfl) (Nat.le_refl _) (Nat.le_refl _) (hM.1 _ (by decide)) rfl rfl ?_
    refine sX11_fails hM (fun G1 hM hQ => ?_)
    replace hL := zrel_u (j := 7) (x := 0) hL
    rw [zfb0]
    refine z_if_eq (tgt := 24) dX11_floodIn_17 (by decide) (fun c2 => ?_) (fun c2 => ?_)
    · refine z_aload_n dX11_floodIn_24 rfl ?_
      refine z_iload_n dX11_floodIn_25 rfl ?_
      refine z_V1 (mi' := mX11_ofYear) dX11_floodIn_26 lX11_95 nX11_ofYear kX11_ofYear (by decide) (Nat.le_of_ble_eq_true rfl) (Nat.le_refl _) (Nat.le_refl _) (hM.1 _ (by decide)) rfl rfl ?_
      refine sX11_ofYear hM hL ?_
      exact z_ireturn (mi := mX11_floodIn) dX11_floodIn_29 rfl rfl (Nat.le_refl _) (Nat.le_refl _) (hP _ _ _ (by rw [zoFloodIn, if_pos h1]; exact ⟨rfl, rfl⟩) hM hQ)
    · exact absurd rfl c2
  · have h1 := c1
    refine z_iconst (v := 1) dX11_floodIn_9 (by decide) ?_
    refine z_goto (tgt := 14) dX11_floodIn_10 (by decide) ?_
    refine z_V1 (mi' := mX11_fails) dX11_floodIn_14 lX11_149 nX11_fails kX11_fails (by decide) (Nat.le_of_ble_eq_true rfl) (Nat.le_refl _) (Nat.le_refl _) (hM.1 _ (by decide)) rfl rfl ?_
    refine sX11_fails hM (fun G1 hM hQ => ?_)
    replace hL := zrel_u (j := 7) (x := 1) hL
    rw [zfb1]
    refine z_if_eq (tgt := 24) dX11_floodIn_17 (by decide) (fun c3 => ?_) (fun c3 => ?_)
    · exact absurd c3 zi10
    · refine z_iconst (v := 0) dX11_floodIn_20 (by decide) ?_
      refine z_goto (tgt := 29) dX11_floodIn_21 (by decide) ?_
      exact z_ireturn (mi := mX11_floodIn) dX11_floodIn_29 rfl rfl (Nat.le_refl _) (Nat.le_refl _) (hP _ _ _ (by rw [zoFloodIn, if_neg h1]; rfl) hM hQ)
set_option maxHeartbeats 4000000 in
set_option maxRecDepth 10000 in
theorem sX11_rises {Γ : zG} {d : Nat} {G : zH} {Post : zV} {am : Nat → Nat} {μ : zSt} (hM : zMod G am μ) {σ : zSt} {S F E K : Nat} {mm : Nat → Nat} {fl : Nat → Nat → Nat} (hL : zRel σ S F E K (μ 1) mm fl) {Y : Int} (hB : zBnd σ S F E K Y) {x : Int32} (hP : ∀ (r c : Int32) (G1 : zH), zans [zIO] (zoRises σ E F x) r c → zMod G1 am (zu μ 0 7 c) → zFrm G G1 am 8 → Post (some (.int r)) G1) : zM Γ (d + 6) mX11_rises 0 0 [.ref (am 0), .int x] G Post := by
  refine zM_of pnX11 rfl (Nat.le_of_ble_eq_true rfl) rfl ?_
  have hS6 := hL.S6
  have hF12 := hL.F12
  have hE4 := hL.E4
  have hK3 := hL.K3
  refine z_aload_n dX11_rises_0 rfl ?_
  refine z_aload_n dX11_rises_1 rfl ?_
  refine z_iload_n dX11_rises_2 rfl ?_
  refine z_V1 (mi' := mX11_isStone) dX11_rises_3 lX11_101 nX11_isStone kX11_isStone (by decide) (Nat.le_of_ble_eq_true rfl) (Nat.le_refl _) (Nat.le_refl _) (hM.1 _ (by decide)) rfl rfl ?_
  refine sX11_isStone hM hL ?_
  refine z_if_eq (tgt := 13) dX11_rises_6 (by decide) (fun c1 => ?_) (fun c1 => ?_)
  · have h1 : ¬ (0 ≤ x ∧ x < σ 13 1) := by rw [hL.n.1]; exact zb_0.mp c1
    refine z_iconst (v := 1) dX11_rises_13 (by decide) ?_
    refine z_V1 (mi' := mX11_fails) dX11_rises_14 lX11_149 nX11_fails kX11_fails (by decide) (Nat.le_of_ble_eq_true rfl) (Nat.le_refl _) (Nat.le_refl _) (hM.1 _ (by decide)) rfl rfl ?_
    refine sX11_fails hM (fun G1 hM hQ => ?_)
    replace hL := zrel_u (j := 7) (x := 1) hL
    rw [zfb1]
    refine z_if_ne (tgt := 32) dX11_rises_17 (by decide) (fun c2 => ?_) (fun c2 => ?_)
    · refine z_iconst (v := 0) dX11_rises_32 (by decide) ?_
      exact z_ireturn (mi := mX11_rises) dX11_rises_33 rfl rfl (Nat.le_refl _) (Nat.le_refl _) (hP _ _ _ (by rw [zoRises, if_pos h1]; rfl) hM hQ)
    · exact absurd c2 zi10
  · have h1 : ¬ ¬ (0 ≤ x ∧ x < σ 13 1) := by rw [hL.n.1]; exact not_not_intro (zb_n.mp c1)
    obtain ⟨s, hs, rfl⟩ := zhas (by omega) (zb_n.mp c1)
    refine z_iconst (v := 0) dX11_rises_9 (by decide) ?_
    refine z_goto (tgt := 14) dX11_rises_10 (by decide) ?_
    refine z_V1 (mi' := mX11_fails) dX11_rises_14 lX11_149 nX11_fails kX11_fails (by decide) (Nat.le_of_ble_eq_true rfl) (Nat.le_refl _) (Nat.le_refl _) (hM.1 _ (by decide)) rfl rfl ?_
    refine sX11_fails hM (fun G1 hM hQ => ?_)
    replace hL := zrel_u (j := 7) (x := 0) hL
    rw [zfb0]
    refine z_if_ne (tgt := 32) dX11_rises_17 (by decide) (fun c3 => ?_) (fun c3 => ?_)
    · exact absurd rfl c3
    · refine z_aload_n dX11_rises_20 rfl ?_
      refine z_iload_n dX11_rises_21 rfl ?_
      refine z_V1 (mi' := mX11_doubtsOn) dX11_rises_22 lX11_152 nX11_doubtsOn kX11_doubtsOn (by decide) (Nat.le_of_ble_eq_true rfl) (Nat.le_refl _) (Nat.le_refl _) (hM.1 _ (by decide)) rfl rfl ?_
      refine sX11_doubtsOn hM hL hB hs ?_
      have hd9 := zdOn_le σ E F s hF12
      refine z_if_ne (tgt := 32) dX11_rises_25 (by decide) (fun c4 => ?_) (fun c4 => ?_)
      · refine z_iconst (v := 0) dX11_rises_32 (by decide) ?_
        exact z_ireturn (mi := mX11_rises) dX11_rises_33 rfl rfl (Nat.le_refl _) (Nat.le_refl _) (hP _ _ _ (by rw [zoRises, if_neg h1, nI_clamp (by omega), zb_f (fun q => c4 ((znI0 (by omega)).mpr q))]; exact ⟨rfl, rfl⟩) hM hQ)
      · refine z_iconst (v := 1) dX11_rises_28 (by decide) ?_
        refine z_goto (tgt := 33) dX11_rises_29 (by decide) ?_
        exact z_ireturn (mi := mX11_rises) dX11_rises_33 rfl rfl (Nat.le_refl _) (Nat.le_refl _) (hP _ _ _ (by rw [zoRises, if_neg h1, nI_clamp (by omega), zb_t ((znI0 (by omega)).mp c4)]; exact ⟨rfl, rfl⟩) hM hQ)
