theorem zhasLe {w : Int32} {n : Nat} (hn : n < 2147483000) (h : 0 ≤ w ∧ w ≤ nI n) : ∃ j : Nat, j < n + 1 ∧ w = nI j := by
  obtain ⟨j, hj, rfl⟩ := nI_of (Int32.not_lt.mpr h.1)
  exact ⟨j, Nat.lt_succ_of_le ((nI_leI hj (by omega)).mp h.2), rfl⟩
section ZXA
variable {σ : zSt} {S F E K : Nat} {g : Nat → Int32} {mm : Nat → Nat} {fl : Nat → Nat → Nat}
theorem zRel.cS (hL : zRel σ S F E K g mm fl) {s : Nat} (hs : s < S) : ¬ ¬ (0 ≤ nI s ∧ nI s < σ 13 1) := by
  have h6 := hL.S6
  rw [hL.n.1]
  exact not_not_intro ⟨Int32.not_lt.mp (nI_pos (by omega)), (nI_ltI (by omega) (by omega)).mpr hs⟩
theorem zRel.cF (hL : zRel σ S F E K g mm fl) {f : Nat} (hf : f < F) : ¬ ¬ (0 ≤ nI f ∧ nI f < σ 13 2) := by
  have h6 := hL.F12
  rw [hL.n.2.2.1]
  exact not_not_intro ⟨Int32.not_lt.mp (nI_pos (by omega)), (nI_ltI (by omega) (by omega)).mpr hf⟩
theorem zRel.xSt (hL : zRel σ S F E K g mm fl) {s j : Nat} (hs : s < S) (hj : j < 5) : zans [zIO, zIA] (zoStoneOf σ E F (nI s) (nI j)) (g (5 + 29 * s + j)) 0 := by
  have h6 := hL.S6
  rw [zoStoneOf, if_neg (hL.cS hs), nI_clamp (by omega)]
  rcases (by omega : j = 0 ∨ j = 1 ∨ j = 2 ∨ j = 3 ∨ j = 4) with rfl | rfl | rfl | rfl | rfl
  · rw [if_pos (show nI 0 = 0 from rfl)]; exact ⟨rfl, (hL.st hs).1⟩
  · rw [if_neg (show ¬ nI 1 = 0 by decide), if_pos (show nI 1 = 1 from rfl)]; exact ⟨rfl, (hL.st hs).2.1⟩
  · rw [if_neg (show ¬ nI 2 = 0 by decide), if_neg (show ¬ nI 2 = 1 by decide), if_pos (show nI 2 = 2 from rfl)]; exact ⟨rfl, (hL.st hs).2.2.1⟩
  · rw [if_neg (show ¬ nI 3 = 0 by decide), if_neg (show ¬ nI 3 = 1 by decide), if_neg (show ¬ nI 3 = 2 by decide), if_pos (show nI 3 = 3 from rfl)]; exact ⟨rfl, (hL.st hs).2.2.2.1⟩
  · rw [if_neg (show ¬ nI 4 = 0 by decide), if_neg (show ¬ nI 4 = 1 by decide), if_neg (show ¬ nI 4 = 2 by decide), if_neg (show ¬ nI 4 = 3 by decide), if_pos (show nI 4 = 4 from rfl), hL.many hs hL.F12 (Nat.le_refl 12)]; exact ⟨rfl, (hL.st hs).2.2.2.2.1⟩
theorem zRel.xSt5 (hL : zRel σ S F E K g mm fl) {s : Nat} (hs : s < S) : zans [zIO, zIA] (zoStoneOf σ E F (nI s) (nI 5)) (nI (zdOn σ E F s)) 0 := by
  have h6 := hL.S6
  rw [zoStoneOf, if_neg (hL.cS hs), nI_clamp (by omega), if_neg (show ¬ nI 5 = 0 by decide), if_neg (show ¬ nI 5 = 1 by decide), if_neg (show ¬ nI 5 = 2 by decide), if_neg (show ¬ nI 5 = 3 by decide), if_neg (show ¬ nI 5 = 4 by decide), if_pos (show nI 5 = 5 from rfl)]
  exact ⟨rfl, rfl⟩
theorem zRel.xStN (hL : zRel σ S F E K g mm fl) {s : Nat} {w : Int32} (hs : s < S) (hw : ¬ (0 ≤ w ∧ w ≤ 5)) : zans [zIO, zIA] (zoStoneOf σ E F (nI s) w) 0 2 := by
  rw [zoStoneOf, if_neg (hL.cS hs), if_neg (fun q => hw (by rw [q]; decide)), if_neg (fun q => hw (by rw [q]; decide)), if_neg (fun q => hw (by rw [q]; decide)), if_neg (fun q => hw (by rw [q]; decide)), if_neg (fun q => hw (by rw [q]; decide)), if_neg (fun q => hw (by rw [q]; decide))]
  rfl
theorem zRel.xFlN (hL : zRel σ S F E K g mm fl) {f : Nat} {w : Int32} (hf : f < F) (hw : ¬ (0 ≤ w ∧ w ≤ 5)) : zans [zIO, zIA] (zoFloodOf σ E F S (nI f) w) 0 2 := by
  rw [zoFloodOf, if_neg (hL.cF hf), if_neg (fun q => hw (by rw [q]; decide)), if_neg (fun q => hw (by rw [q]; decide)), if_neg (fun q => hw (by rw [q]; decide)), if_neg (fun q => hw (by rw [q]; decide)), if_neg (fun q => hw (by rw [q]; decide)), if_neg (fun q => hw (by rw [q]; decide))]
  rfl
theorem zRel.plk (hL : zRel σ S F E K g mm fl) {s f : Nat} (hs : s < S) (hf : f < 12) (h : 0 ≤ zfi (fun k => decide (fl s k = f)) (mm s)) : ∃ k, k < mm s ∧ zfi (fun k => decide (fl s k = f)) (mm s) = nI k ∧ fl s k = f ∧ zmk σ s f = true := by
  obtain ⟨h1, h2⟩ := zfi_ge h
  rcases hL.pl hs hf with ⟨a1, a2, a3⟩ | ⟨a1, a2⟩
  · exact ⟨_, h1, h2, a3, a1⟩
  · omega
theorem zRel.pln (hL : zRel σ S F E K g mm fl) {s f : Nat} (hs : s < S) (hf : f < 12) (h : ¬ 0 ≤ zfi (fun k => decide (fl s k = f)) (mm s)) : ¬ zmk σ s f = true := by
  have h1 := zfi_lt (by have := hL.m6 hs; omega) h
  rcases hL.pl hs hf with ⟨a1, a2, a3⟩ | ⟨a1, a2⟩
  · omega
  · rw [a1]; decide
end ZXA
set_option maxHeartbeats 4000000 in
set_option maxRecDepth 10000 in
theorem sX11_before {Γ : zG} {d : Nat} {G : zH} {Post : zV} {am : Nat → Nat} {μ : zSt} (hM : zMod G am μ) {σ : zSt} {S F E K : Nat} {mm : Nat → Nat} {fl : Nat → Nat → Nat} (hL : zRel σ S F E K (μ 1) mm fl) {x : Int32} (hP : ∀ (r c : Int32) (G1 : zH), zans [zNS] (zoBefore σ F x) r c → zMod G1 am (zu μ 0 7 c) → zFrm G G1 am 8 → Post (some (.int r)) G1) : zM Γ (d + 1) mX11_before 0 0 [.ref (am 0), .int x] G Post := by
  refine zM_of pnX11 rfl (Nat.le_of_ble_eq_true rfl) rfl ?_
  have hS6 := hL.S6
  have hF12 := hL.F12
  have hE4 := hL.E4
  have hK3 := hL.K3
  have key : ∀ (r : Nat) (i : Nat), i ≤ F → F < i + r → zX Γ mX11_before (d + 1) 0 0 4 [some (.ref (am 0)), some (.int x), some (.int (zoi (zla (σ 4) x i))), some (.int (nI i))] [] G 0 0 (zlift Post) := by
    intro r
    induction r with
    | zero =>
      intro i hi1 hi2
      exact absurd hi2 (by omega)
    | succ r ih =>
      intro i hi1 hi2
      refine z_iload_n dX11_before_4 rfl ?_
      refine z_aload_n dX11_before_5 rfl ?_
      refine z_get dX11_before_6 fX11_7.r (hM.1 _ (by decide)) rfl ?_
      refine z_sipush (v := 179) dX11_before_9 (by decide) ?_
      refine z_iald dX11_before_12 (hM.1 1 (by decide)) (show vp_in (nI 179) 229 from vp_in_nI (by decide) (by decide)) ?_
      rw [show μ 1 (Int32.toNatClampNeg 179) = nI F from hL.sc.2.2.2.2.2.1]
      refine z_icmp_ge (tgt := 53) dX11_before_13 (by decide) (fun c1 => ?_) (fun c1 => ?_)
      · have hi9 := zgeN (N := F) rfl (by omega) (by omega) c1
        refine z_aload_n dX11_before_53 rfl ?_
        refine z_iload_n dX11_before_54 rfl ?_
        refine z_if_ge (tgt := 62) dX11_before_55 (by decide) (fun c2 => ?_) (fun c2 => ?_)
        · obtain rfl : i = F := (by omega)
          have h1 := c2
          refine z_iconst (v := 0) dX11_before_62 (by decide) ?_
          refine z_V1 (mi' := mX11_fails) dX11_before_63 lX11_149 nX11_fails kX11_fails (by decide) (Nat.le_of_ble_eq_true rfl) (Nat.le_refl _) (Nat.le_refl _) (hM.1 _ (by decide)) rfl rfl ?_
          refine sX11_fails hM (fun G1 hM hQ => ?_)
          replace hL := zrel_u (j := 7) (x := 0) hL
          rw [zfb0]
          refine z_if_eq (tgt := 73) dX11_before_66 (by decide) (fun c3 => ?_) (fun c3 => ?_)
          · refine z_iload_n dX11_before_73 rfl ?_
            exact z_ireturn (mi := mX11_before) dX11_before_74 rfl rfl (Nat.le_refl _) (Nat.le_refl _) (hP _ _ _ (by rw [zoBefore, if_pos h1]; exact ⟨rfl, rfl⟩) hM hQ)
          · exact absurd rfl c3
        · obtain rfl : i = F := (by omega)
          have h1 := c2
          refine z_iconst (v := 1) dX11_before_58 (by decide) ?_
          refine z_goto (tgt := 63) dX11_before_59 (by decide) ?_
          refine z_V1 (mi' := mX11_fails) dX11_before_63 lX11_149 nX11_fails kX11_fails (by decide) (Nat.le_of_ble_eq_true rfl) (Nat.le_refl _) (Nat.le_refl _) (hM.1 _ (by decide)) rfl rfl ?_
          refine sX11_fails hM (fun G1 hM hQ => ?_)
          replace hL := zrel_u (j := 7) (x := 1) hL
          rw [zfb1]
          refine z_if_eq (tgt := 73) dX11_before_66 (by decide) (fun c4 => ?_) (fun c4 => ?_)
          · exact absurd c4 zi10
          · refine z_iconst (v := 0) dX11_before_69 (by decide) ?_
            refine z_goto (tgt := 74) dX11_before_70 (by decide) ?_
            exact z_ireturn (mi := mX11_before) dX11_before_74 rfl rfl (Nat.le_refl _) (Nat.le_refl _) (hP _ _ _ (by rw [zoBefore, if_neg h1]; rfl) hM hQ)
      · have hi9 := zltN (N := F) rfl (by omega) (by omega) c1
        refine z_aload_n dX11_before_16 rfl ?_
        refine z_iload_n dX11_before_17 rfl ?_
        refine z_iconst (v := 0) dX11_before_18 (by decide) ?_
        refine z_V2 (mi' := mX11_ofFlood) dX11_before_19 lX11_66 nX11_ofFlood kX11_ofFlood (by decide) (Nat.le_of_ble_eq_true rfl) (Nat.le_refl _) (Nat.le_refl _) (hM.1 _ (by decide)) rfl rfl ?_
        refine sX11_ofFlood hM (f := i) (w := 0) (by omega) ?_
        rw [show μ 1 (180 + 3 * i + 0) = _ from (hL.fd hi9).1]
        refine z_iload_n dX11_before_22 rfl ?_
        refine z_icmp_ge (tgt := 47) dX11_before_23 (by decide) (fun c5 => ?_) (fun c5 => ?_)
        · have e9 : zla (σ 4) x (i + 1) = zla (σ 4) x i := by
            rw [zla]
            cases zla (σ 4) x i with
            | none => exact if_neg (Int32.not_lt.mpr c5)
            | some k => exact if_neg (fun q => Int32.not_lt.mpr c5 q.1)
          refine z_iinc dX11_before_47 rfl rfl (by decide) rfl ?_
          refine z_goto (tgt := 4) dX11_before_50 (by decide) ?_
          exact z_sub (lv' := [some (.ref (am 0)), some (.int x), some (.int (zoi (zla (σ 4) x (i + 1)))), some (.int (nI (i + 1)))]) ⟨rfl, rfl, zsl (by (rw [e9]) <;> rfl), zsl (zinc i), trivial⟩ (ih (i + 1) (by omega) (by omega))
        · refine z_iload_n dX11_before_26 rfl ?_
          refine z_if_lt (tgt := 45) dX11_before_27 (by decide) (fun c6 => ?_) (fun c6 => ?_)
          · have e9 : zla (σ 4) x (i + 1) = some i := by
              rw [zla]
              cases hz : zla (σ 4) x i with
              | none => exact if_pos (Int32.not_le.mp c5)
              | some k =>
                rw [hz] at c6
                exact absurd c6 (nI_pos (by have := zla_lt hz; omega))
            refine z_iload_n dX11_before_45 rfl ?_
            refine z_istore_n dX11_before_46 (by decide) rfl ?_
            refine z_iinc dX11_before_47 rfl rfl (by decide) rfl ?_
            refine z_goto (tgt := 4) dX11_before_50 (by decide) ?_
            exact z_sub (lv' := [some (.ref (am 0)), some (.int x), some (.int (zoi (zla (σ 4) x (i + 1)))), some (.int (nI (i + 1)))]) ⟨rfl, rfl, zsl (by (rw [e9]) <;> rfl), zsl (zinc i), trivial⟩ (ih (i + 1) (by omega) (by omega))
          · obtain ⟨j, hz⟩ : ∃ j, zla (σ 4) x i = some j := by
              cases hz : zla (σ 4) x i with
              | none => rw [hz] at c6; exact absurd (by decide) c6
              | some j => exact ⟨j, rfl⟩
            rw [hz]
            have hj9 := zla_lt hz
            refine z_aload_n dX11_before_30 rfl ?_
            refine z_iload_n dX11_before_31 rfl ?_
            refine z_iconst (v := 0) dX11_before_32 (by decide) ?_
            refine z_V2 (mi' := mX11_ofFlood) dX11_before_33 lX11_66 nX11_ofFlood kX11_ofFlood (by decide) (Nat.le_of_ble_eq_true rfl) (Nat.le_refl _) (Nat.le_refl _) (hM.1 _ (by decide)) rfl rfl ?_
            refine sX11_ofFlood hM (f := i) (w := 0) (by omega) ?_
            rw [show μ 1 (180 + 3 * i + 0) = _ from (hL.fd hi9).1]
            refine z_aload_n dX11_before_36 rfl ?_
            refine z_iload_n dX11_before_37 rfl ?_
            refine z_iconst (v := 0) dX11_before_38 (by decide) ?_
            refine z_V2 (mi' := mX11_ofFlood) dX11_before_39 lX11_66 nX11_ofFlood kX11_ofFlood (by decide) (Nat.le_of_ble_eq_true rfl) (Nat.le_refl _) (Nat.le_refl _) (hM.1 _ (by decide)) rfl rfl ?_
            refine sX11_ofFlood hM (f := j) (w := 0) (by omega) ?_
            rw [show μ 1 (180 + 3 * j + 0) = _ from (hL.fd (by omega)).1]
            refine z_icmp_le (tgt := 47) dX11_before_42 (by decide) (fun c7 => ?_) (fun c7 => ?_)
            · have e9 : zla (σ 4) x (i + 1) = some j := by
                rw [zla, hz]
                exact if_neg (fun q => Int32.not_lt.mpr c7 q.2)
              refine z_iinc dX11_before_47 rfl rfl (by decide) rfl ?_
              refine z_goto (tgt := 4) dX11_before_50 (by decide) ?_
              exact z_sub (lv' := [some (.ref (am 0)), some (.int x), some (.int (zoi (zla (σ 4) x (i + 1)))), some (.int (nI (i + 1)))]) ⟨rfl, rfl, zsl (by (rw [e9]) <;> rfl), zsl (zinc i), trivial⟩ (ih (i + 1) (by omega) (by omega))
            · have e9 : zla (σ 4) x (i + 1) = some i := by
                rw [zla, hz]
                exact if_pos ⟨Int32.not_le.mp c5, Int32.not_le.mp c7⟩
              refine z_iload_n dX11_before_45 rfl ?_
              refine z_istore_n dX11_before_46 (by decide) rfl ?_
              refine z_iinc dX11_before_47 rfl rfl (by decide) rfl ?_
              refine z_goto (tgt := 4) dX11_before_50 (by decide) ?_
              exact z_sub (lv' := [some (.ref (am 0)), some (.int x), some (.int (zoi (zla (σ 4) x (i + 1)))), some (.int (nI (i + 1)))]) ⟨rfl, rfl, zsl (by (rw [e9]) <;> rfl), zsl (zinc i), trivial⟩ (ih (i + 1) (by omega) (by omega))
  refine z_iconst (v := (-1)) dX11_before_0 (by decide) ?_
  refine z_istore_n dX11_before_1 (by decide) rfl ?_
  refine z_iconst (v := 0) dX11_before_2 (by decide) ?_
  refine z_istore_n dX11_before_3 (by decide) rfl ?_
  exact z_sub (lv' := [some (.ref (am 0)), some (.int x), some (.int (zoi (zla (σ 4) x 0))), some (.int (nI 0))]) ⟨rfl, rfl, rfl, rfl, trivial⟩ (key (F + 1) 0 (by omega) (by omega))
set_option maxHeartbeats 4000000 in
set_option maxRecDepth 10000 in
theorem sX11_doubts {Γ : zG} {d : Nat} {G : zH} {Post : zV} {am : Nat → Nat} {μ : zSt} (hM : zMod G am μ) {σ : zSt} {S F E K : Nat} {mm : Nat → Nat} {fl : Nat → Nat → Nat} (hL : zRel σ S F E K (μ 1) mm fl) {Y : Int} (hB : zBnd σ S F E K Y) (hP : ∀ G1, zMod G1 am (zu μ 0 7 0) → zFrm G G1 am 8 → Post (some (.int (nI (zsm (zdOn σ E F) S)))) G1) : zM Γ (d + 6) mX11_doubts 0 0 [.ref (am 0)] G Post := by
  refine zM_of pnX11 rfl (Nat.le_of_ble_eq_true rfl) rfl ?_
  have hS6 := hL.S6
  have hF12 := hL.F12
  have hE4 := hL.E4
  have hK3 := hL.K3
  refine z_aload_n dX11_doubts_0 rfl ?_
  refine z_iconst (v := 0) dX11_doubts_1 (by decide) ?_
  refine z_put dX11_doubts_2 fX11_36 (hM.1 _ (by decide)) rfl rfl (Nat.le_of_ble_eq_true rfl) ?_
  refine z_mset hM 0 7 (0) (by decide) rfl (fun G1 hM hQ => ?_)
  replace hL := zrel_u (j := 7) (x := 0) hL
  refine z_iconst (v := 0) dX11_doubts_5 (by decide) ?_
  refine z_istore_n dX11_doubts_6 (by decide) rfl ?_
  refine z_iconst (v := 0) dX11_doubts_7 (by decide) ?_
  refine z_istore_n dX11_doubts_8 (by decide) rfl ?_
  have key : ∀ (r : Nat) (i : Nat), i ≤ S → S < i + r → zX Γ mX11_doubts (d + 6) 0 0 9 [some (.ref (am 0)), some (.int (nI (zsm (zdOn σ E F) i))), some (.int (nI i))] [] G1 0 0 (zlift Post) := by
    intro r
    induction r with
    | zero =>
      intro i hi1 hi2
      exact absurd hi2 (by omega)
    | succ r ih =>
      intro i hi1 hi2
      refine z_iload_n dX11_doubts_9 rfl ?_
      refine z_aload_n dX11_doubts_10 rfl ?_
      refine z_get dX11_doubts_11 fX11_7.r (hM.1 _ (by decide)) rfl ?_
      refine z_iconst (v := 4) dX11_doubts_14 (by decide) ?_
      refine z_iald dX11_doubts_15 (hM.1 1 (by decide)) (show vp_in (nI 4) 229 from vp_in_nI (by decide) (by decide)) ?_
      rw [show zu μ 0 7 0 1 (Int32.toNatClampNeg 4) = nI S from hL.sc.2.2.2.2.1]
      refine z_icmp_ge (tgt := 33) dX11_doubts_16 (by decide) (fun c1 => ?_) (fun c1 => ?_)
      · have hi9 := zgeN (N := S) rfl (by omega) (by omega) c1
        refine z_iload_n dX11_doubts_33 rfl ?_
        exact z_ireturn (mi := mX11_doubts) dX11_doubts_34 rfl rfl (Nat.le_refl _) (Nat.le_refl _) (by rw [show i = S by omega]; exact hP _ hM hQ)
      · have hi9 := zltN (N := S) rfl (by omega) (by omega) c1
        refine z_iload_n dX11_doubts_19 rfl ?_
        refine z_aload_n dX11_doubts_20 rfl ?_
        refine z_iload_n dX11_doubts_21 rfl ?_
        refine z_V1 (mi' := mX11_doubtsOn) dX11_doubts_22 lX11_152 nX11_doubtsOn kX11_doubtsOn (by decide) (Nat.le_of_ble_eq_true rfl) (Nat.le_refl _) (Nat.le_refl _) (hM.1 _ (by decide)) rfl rfl ?_
        refine sX11_doubtsOn hM hL hB hi9 ?_
        refine z_iadd dX11_doubts_25 ?_
        refine z_istore_n dX11_doubts_26 (by decide) rfl ?_
        refine z_iinc dX11_doubts_27 rfl rfl (by decide) rfl ?_
        refine z_goto (tgt := 9) dX11_doubts_30 (by decide) ?_
        exact z_sub (lv' := [some (.ref (am 0)), some (.int (nI (zsm (zdOn σ E F) (i + 1)))), some (.int (nI (i + 1)))]) ⟨rfl, zsl (nI_add _ _), zsl (zinc i), trivial⟩ (ih (i + 1) (by omega) (by omega))
  exact z_sub (lv' := [some (.ref (am 0)), some (.int (nI (zsm (zdOn σ E F) 0))), some (.int (nI 0))]) ⟨rfl, rfl, rfl, trivial⟩ (key (S + 1) 0 (by omega) (by omega))
set_option maxHeartbeats 4000000 in
set_option maxRecDepth 10000 in
theorem sX11_doubtsAgain {Γ : zG} {d : Nat} {G : zH} {Post : zV} {am : Nat → Nat} {μ : zSt} (hM : zMod G am μ) {σ : zSt} {S F E K : Nat} {mm : Nat → Nat} {fl : Nat → Nat → Nat} (hL : zRel σ S F E K (μ 1) mm fl) {Y : Int} (hB : zBnd σ S F E K Y) (hP : ∀ G1, zMod G1 am (zu μ 0 7 0) → zFrm G G1 am 8 → Post (some (.int (nI (zsm (zdOf σ E F S) F) / 2))) G1) : zM Γ (d + 6) mX11_doubtsAgain 0 0 [.ref (am 0)] G Post := by
  refine zM_of pnX11 rfl (Nat.le_of_ble_eq_true rfl) rfl ?_
  have hS6 := hL.S6
  have hF12 := hL.F12
  have hE4 := hL.E4
  have hK3 := hL.K3
  refine z_aload_n dX11_doubtsAgain_0 rfl ?_
  refine z_iconst (v := 0) dX11_doubtsAgain_1 (by decide) ?_
  refine z_put dX11_doubtsAgain_2 fX11_36 (hM.1 _ (by decide)) rfl rfl (Nat.le_of_ble_eq_true rfl) ?_
  refine z_mset hM 0 7 (0) (by decide) rfl (fun G1 hM hQ => ?_)
  replace hL := zrel_u (j := 7) (x := 0) hL
  refine z_iconst (v := 0) dX11_doubtsAgain_5 (by decide) ?_
  refine z_istore_n dX11_doubtsAgain_6 (by decide) rfl ?_
  refine z_iconst (v := 0) dX11_doubtsAgain_7 (by decide) ?_
  refine z_istore_n dX11_doubtsAgain_8 (by decide) rfl ?_
  have key : ∀ (r : Nat) (i : Nat), i ≤ F → F < i + r → zX Γ mX11_doubtsAgain (d + 6) 0 0 9 [some (.ref (am 0)), some (.int (nI (zsm (zdOf σ E F S) i))), some (.int (nI i))] [] G1 0 0 (zlift Post) := by
    intro r
    induction r with
    | zero =>
      intro i hi1 hi2
      exact absurd hi2 (by omega)
    | succ r ih =>
      intro i hi1 hi2
      refine z_iload_n dX11_doubtsAgain_9 rfl ?_
      refine z_aload_n dX11_doubtsAgain_10 rfl ?_
      refine z_get dX11_doubtsAgain_11 fX11_7.r (hM.1 _ (by decide)) rfl ?_
      refine z_sipush (v := 179) dX11_doubtsAgain_14 (by decide) ?_
      refine z_iald dX11_doubtsAgain_17 (hM.1 1 (by decide)) (show vp_in (nI 179) 229 from vp_in_nI (by decide) (by decide)) ?_
      rw [show zu μ 0 7 0 1 (Int32.toNatClampNeg 179) = nI F from hL.sc.2.2.2.2.2.1]
      refine z_icmp_ge (tgt := 35) dX11_doubtsAgain_18 (by decide) (fun c1 => ?_) (fun c1 => ?_)
      · have hi9 := zgeN (N := F) rfl (by omega) (by omega) c1
        refine z_iload_n dX11_doubtsAgain_35 rfl ?_
        refine z_iconst (v := 2) dX11_doubtsAgain_36 (by decide) ?_
        refine z_idiv dX11_doubtsAgain_37 (by decide) ?_
        exact z_ireturn (mi := mX11_doubtsAgain) dX11_doubtsAgain_38 rfl rfl (Nat.le_refl _) (Nat.le_refl _) (by rw [show i = F by omega]; exact hP _ hM hQ)
      · have hi9 := zltN (N := F) rfl (by omega) (by omega) c1
        refine z_iload_n dX11_doubtsAgain_21 rfl ?_
        refine z_aload_n dX11_doubtsAgain_22 rfl ?_
        refine z_iload_n dX11_doubtsAgain_23 rfl ?_
        refine z_V1 (mi' := mX11_doubtsFor) dX11_doubtsAgain_24 lX11_146 nX11_doubtsFor kX11_doubtsFor (by decide) (Nat.le_of_ble_eq_true rfl) (Nat.le_refl _) (Nat.le_refl _) (hM.1 _ (by decide)) rfl rfl ?_
        refine sX11_doubtsFor hM hL (show i < 12 by omega) ?_
        refine z_iadd dX11_doubtsAgain_27 ?_
        refine z_istore_n dX11_doubtsAgain_28 (by decide) rfl ?_
        refine z_iinc dX11_doubtsAgain_29 rfl rfl (by decide) rfl ?_
        refine z_goto (tgt := 9) dX11_doubtsAgain_32 (by decide) ?_
        exact z_sub (lv' := [some (.ref (am 0)), some (.int (nI (zsm (zdOf σ E F S) (i + 1)))), some (.int (nI (i + 1)))]) ⟨rfl, zsl (nI_add _ _), zsl (zinc i), trivial⟩ (ih (i + 1) (by omega) (by omega))
  exact z_sub (lv' := [some (.ref (am 0)), some (.int (nI (zsm (zdOf σ E F S) 0))), some (.int (nI 0))]) ⟨rfl, rfl, rfl, trivial⟩ (key (F + 1) 0 (by omega) (by omega))
set_option maxHeartbeats 4000000 in
set_option maxRecDepth 10000 in
theorem sX11_marks {Γ : zG} {d : Nat} {G : zH} {Post : zV} {am : Nat → Nat} {μ : zSt} (hM : zMod G am μ) {σ : zSt} {S F E K : Nat} {mm : Nat → Nat} {fl : Nat → Nat → Nat} (hL : zRel σ S F E K (μ 1) mm fl) (hP : Post (some (.int (nI (zsm mm S)))) G) : zM Γ (d + 1) mX11_marks 0 0 [.ref (am 0)] G Post := by
  refine zM_of pnX11 rfl (Nat.le_of_ble_eq_true rfl) rfl ?_
  have hS6 := hL.S6
  have hF12 := hL.F12
  have hE4 := hL.E4
  have hK3 := hL.K3
  have key : ∀ (r : Nat) (i : Nat), i ≤ S → S < i + r → zX Γ mX11_marks (d + 1) 0 0 4 [some (.ref (am 0)), some (.int (nI (zsm mm i))), some (.int (nI i))] [] G 0 0 (zlift Post) := by
    intro r
    induction r with
    | zero =>
      intro i hi1 hi2
      exact absurd hi2 (by omega)
    | succ r ih =>
      intro i hi1 hi2
      refine z_iload_n dX11_marks_4 rfl ?_
      refine z_aload_n dX11_marks_5 rfl ?_
      refine z_get dX11_marks_6 fX11_7.r (hM.1 _ (by decide)) rfl ?_
      refine z_iconst (v := 4) dX11_marks_9 (by decide) ?_
      refine z_iald dX11_marks_10 (hM.1 1 (by decide)) (show vp_in (nI 4) 229 from vp_in_nI (by decide) (by decide)) ?_
      rw [show μ 1 (Int32.toNatClampNeg 4) = nI S from hL.sc.2.2.2.2.1]
      refine z_icmp_ge (tgt := 29) dX11_marks_11 (by decide) (fun c1 => ?_) (fun c1 => ?_)
      · have hi9 := zgeN (N := S) rfl (by omega) (by omega) c1
        refine z_iload_n dX11_marks_29 rfl ?_
        exact z_ireturn (mi := mX11_marks) dX11_marks_30 rfl rfl (Nat.le_refl _) (Nat.le_refl _) (by rw [show i = S by omega]; exact hP)
      · have hi9 := zltN (N := S) rfl (by omega) (by omega) c1
        refine z_iload_n dX11_marks_14 rfl ?_
        refine z_aload_n dX11_marks_15 rfl ?_
        refine z_iload_n dX11_marks_16 rfl ?_
        refine z_iconst (v := 4) dX11_marks_17 (by decide) ?_
        refine z_V2 (mi' := mX11_of) dX11_marks_18 lX11_70 nX11_of kX11_of (by decide) (Nat.le_of_ble_eq_true rfl) (Nat.le_refl _) (Nat.le_refl _) (hM.1 _ (by decide)) rfl rfl ?_
        refine sX11_of hM (s := i) (w := 4) (by omega) ?_
        rw [show μ 1 (5 + 29 * i + 4) = _ from (hL.st hi9).2.2.2.2.1]
        refine z_iadd dX11_marks_21 ?_
        refine z_istore_n dX11_marks_22 (by decide) rfl ?_
        refine z_iinc dX11_marks_23 rfl rfl (by decide) rfl ?_
        refine z_goto (tgt := 4) dX11_marks_26 (by decide) ?_
        exact z_sub (lv' := [some (.ref (am 0)), some (.int (nI (zsm mm (i + 1)))), some (.int (nI (i + 1)))]) ⟨rfl, zsl (nI_add _ _), zsl (zinc i), trivial⟩ (ih (i + 1) (by omega) (by omega))
  refine z_iconst (v := 0) dX11_marks_0 (by decide) ?_
  refine z_istore_n dX11_marks_1 (by decide) rfl ?_
  refine z_iconst (v := 0) dX11_marks_2 (by decide) ?_
  refine z_istore_n dX11_marks_3 (by decide) rfl ?_
  exact z_sub (lv' := [some (.ref (am 0)), some (.int (nI (zsm mm 0))), some (.int (nI 0))]) ⟨rfl, rfl, rfl, trivial⟩ (key (S + 1) 0 (by omega) (by omega))
set_option maxHeartbeats 4000000 in
set_option maxRecDepth 10000 in
theorem sX11_doubtful {Γ : zG} {d : Nat} {G : zH} {Post : zV} {am : Nat → Nat} {μ : zSt} (hM : zMod G am μ) {σ : zSt} {S F E K : Nat} {mm : Nat → Nat} {fl : Nat → Nat → Nat} (hL : zRel σ S F E K (μ 1) mm fl) {Y : Int} (hB : zBnd σ S F E K Y) (hP : Post (some (.int (nI (zct (fun s => decide (0 < zdOn σ E F s)) S)))) G) : zM Γ (d + 6) mX11_doubtful 0 0 [.ref (am 0)] G Post := by
  refine zM_of pnX11 rfl (Nat.le_of_ble_eq_true rfl) rfl ?_
  have hS6 := hL.S6
  have hF12 := hL.F12
  have hE4 := hL.E4
  have hK3 := hL.K3
  have key : ∀ (r : Nat) (i : Nat), i ≤ S → S < i + r → zX Γ mX11_doubtful (d + 6) 0 0 4 [some (.ref (am 0)), some (.int (nI (zct (fun s => decide (0 < zdOn σ E F s)) i))), some (.int (nI i))] [] G 0 0 (zlift Post) := by
    intro r
    induction r with
    | zero =>
      intro i hi1 hi2
      exact absurd hi2 (by omega)
    | succ r ih =>
      intro i hi1 hi2
      refine z_iload_n dX11_doubtful_4 rfl ?_
      refine z_aload_n dX11_doubtful_5 rfl ?_
      refine z_get dX11_doubtful_6 fX11_7.r (hM.1 _ (by decide)) rfl ?_
      refine z_iconst (v := 4) dX11_doubtful_9 (by decide) ?_
      refine z_iald dX11_doubtful_10 (hM.1 1 (by decide)) (show vp_in (nI 4) 229 from vp_in_nI (by decide) (by decide)) ?_
      rw [show μ 1 (Int32.toNatClampNeg 4) = nI S from hL.sc.2.2.2.2.1]
      refine z_icmp_ge (tgt := 36) dX11_doubtful_11 (by decide) (fun c1 => ?_) (fun c1 => ?_)
      · have hi9 := zgeN (N := S) rfl (by omega) (by omega) c1
        refine z_iload_n dX11_doubtful_36 rfl ?_
        exact z_ireturn (mi := mX11_doubtful) dX11_doubtful_37 rfl rfl (Nat.le_refl _) (Nat.le_refl _) (by rw [show i = S by omega]; exact hP)
      · have hi9 := zltN (N := S) rfl (by omega) (by omega) c1
        refine z_iload_n dX11_doubtful_14 rfl ?_
        refine z_aload_n dX11_doubtful_15 rfl ?_
        refine z_iload_n dX11_doubtful_16 rfl ?_
        refine z_V1 (mi' := mX11_doubtsOn) dX11_doubtful_17 lX11_152 nX11_doubtsOn kX11_doubtsOn (by decide) (Nat.le_of_ble_eq_true rfl) (Nat.le_refl _) (Nat.le_refl _) (hM.1 _ (by decide)) rfl rfl ?_
        refine sX11_doubtsOn hM hL hB hi9 ?_
        refine z_if_le (tgt := 27) dX11_doubtful_20 (by decide) (fun c2 => ?_) (fun c2 => ?_)
        · have h8 := zdOn_le σ E F i hF12
          have h7 := zgeN (N := zdOn σ E F i) (i := 0) rfl (by omega) (by omega) c2
          have e9 := zct_f (p := (fun s => decide (0 < zdOn σ E F s))) (n := i) (by simp; omega)
          refine z_iconst (v := 0) dX11_doubtful_27 (by decide) ?_
          refine z_iadd dX11_doubtful_28 ?_
          refine z_istore_n dX11_doubtful_29 (by decide) rfl ?_
          refine z_iinc dX11_doubtful_30 rfl rfl (by decide) rfl ?_
          refine z_goto (tgt := 4) dX11_doubtful_33 (by decide) ?_
          exact z_sub (lv' := [some (.ref (am 0)), some (.int (nI (zct (fun s => decide (0 < zdOn σ E F s)) (i + 1)))), some (.int (nI (i + 1)))]) ⟨rfl, zsl (by rw [e9]; first | exact nI_1 _ | exact zadd0 _ | rfl), zsl (zinc i), trivial⟩ (ih (i + 1) (by omega) (by omega))
        · have h8 := zdOn_le σ E F i hF12
          have h7 := zltN (N := zdOn σ E F i) (i := 0) rfl (by omega) (by omega) c2
          have e9 := zct_t (p := (fun s => decide (0 < zdOn σ E F s))) (n := i) (by simp; omega)
          refine z_iconst (v := 1) dX11_doubtful_23 (by decide) ?_
          refine z_goto (tgt := 28) dX11_doubtful_24 (by decide) ?_
          refine z_iadd dX11_doubtful_28 ?_
          refine z_istore_n dX11_doubtful_29 (by decide) rfl ?_
          refine z_iinc dX11_doubtful_30 rfl rfl (by decide) rfl ?_
          refine z_goto (tgt := 4) dX11_doubtful_33 (by decide) ?_
          exact z_sub (lv' := [some (.ref (am 0)), some (.int (nI (zct (fun s => decide (0 < zdOn σ E F s)) (i + 1)))), some (.int (nI (i + 1)))]) ⟨rfl, zsl (by rw [e9]; first | exact nI_1 _ | exact zadd0 _ | rfl), zsl (zinc i), trivial⟩ (ih (i + 1) (by omega) (by omega))
  refine z_iconst (v := 0) dX11_doubtful_0 (by decide) ?_
  refine z_istore_n dX11_doubtful_1 (by decide) rfl ?_
  refine z_iconst (v := 0) dX11_doubtful_2 (by decide) ?_
  refine z_istore_n dX11_doubtful_3 (by decide) rfl ?_
  exact z_sub (lv' := [some (.ref (am 0)), some (.int (nI (zct (fun s => decide (0 < zdOn σ E F s)) 0))), some (.int (nI 0))]) ⟨rfl, rfl, rfl, trivial⟩ (key (S + 1) 0 (by omega) (by omega))
set_option maxHeartbeats 4000000 in
set_option maxRecDepth 10000 in
theorem sX11_stoneOf {Γ : zG} {d : Nat} {G : zH} {Post : zV} {am : Nat → Nat} {μ : zSt} (hM : zMod G am μ) {σ : zSt} {S F E K : Nat} {mm : Nat → Nat} {fl : Nat → Nat → Nat} (hL : zRel σ S F E K (μ 1) mm fl) {Y : Int} (hB : zBnd σ S F E K Y) {x w : Int32} (hP : ∀ (r c : Int32) (G1 : zH), zans [zIO, zIA] (zoStoneOf σ E F x w) r c → zMod G1 am (zu μ 0 7 c) → zFrm G G1 am 8 → Post (some (.int r)) G1) : zM Γ (d + 6) mX11_stoneOf 0 0 [.ref (am 0), .int x, .int w] G Post := by
  refine zM_of pnX11 rfl (Nat.le_of_ble_eq_true rfl) rfl ?_
  have hS6 := hL.S6
  have hF12 := hL.F12
  have hE4 := hL.E4
  have hK3 := hL.K3
  refine z_aload_n dX11_stoneOf_0 rfl ?_
  refine z_aload_n dX11_stoneOf_1 rfl ?_
  refine z_iload_n dX11_stoneOf_2 rfl ?_
  refine z_V1 (mi' := mX11_isStone) dX11_stoneOf_3 lX11_101 nX11_isStone kX11_isStone (by decide) (Nat.le_of_ble_eq_true rfl) (Nat.le_refl _) (Nat.le_refl _) (hM.1 _ (by decide)) rfl rfl ?_
  refine sX11_isStone hM hL ?_
  refine z_if_ne (tgt := 13) dX11_stoneOf_6 (by decide) (fun c1 => ?_) (fun c1 => ?_)
  · have h1 : ¬ ¬ (0 ≤ x ∧ x < σ 13 1) := by rw [hL.n.1]; exact not_not_intro (zb_n.mp c1)
    obtain ⟨s, hs, rfl⟩ := zhas (by omega) (zb_n.mp c1)
    refine z_iload_n dX11_stoneOf_13 rfl ?_
    refine z_iconst (v := 0) dX11_stoneOf_14 (by decide) ?_
    refine z_iconst (v := 5) dX11_stoneOf_15 (by decide) ?_
    refine z_S3 (mi' := mX11_in) dX11_stoneOf_16 lX11_62 nX11_in kX11_in (by decide) (Nat.le_of_ble_eq_true rfl) (Nat.le_refl _) (Nat.le_refl _) ?_
    refine sX11_in ?_
    refine z_if_eq (tgt := 26) dX11_stoneOf_19 (by decide) (fun c2 => ?_) (fun c2 => ?_)
    · have h2 := zb_0.mp c2
      refine z_iconst (v := 2) dX11_stoneOf_26 (by decide) ?_
      refine z_V1 (mi' := mX11_fails) dX11_stoneOf_27 lX11_149 nX11_fails kX11_fails (by decide) (Nat.le_of_ble_eq_true rfl) (Nat.le_refl _) (Nat.le_refl _) (hM.1 _ (by decide)) rfl rfl ?_
      refine sX11_fails hM (fun G1 hM hQ => ?_)
      replace hL := zrel_u (j := 7) (x := 2) hL
      rw [zfb2]
      refine z_if_eq (tgt := 35) dX11_stoneOf_30 (by decide) (fun c3 => ?_) (fun c3 => ?_)
      · exact absurd c3 zi10
      · refine z_iconst (v := 0) dX11_stoneOf_33 (by decide) ?_
        exact z_ireturn (mi := mX11_stoneOf) dX11_stoneOf_34 rfl rfl (Nat.le_refl _) (Nat.le_refl _) (hP _ _ _ (by exact hL.xStN hs h2) hM hQ)
    · obtain ⟨j, hj, rfl⟩ := zhasLe (n := 5) (by decide) (zb_n.mp c2)
      refine z_iconst (v := 0) dX11_stoneOf_22 (by decide) ?_
      refine z_goto (tgt := 27) dX11_stoneOf_23 (by decide) ?_
      refine z_V1 (mi' := mX11_fails) dX11_stoneOf_27 lX11_149 nX11_fails kX11_fails (by decide) (Nat.le_of_ble_eq_true rfl) (Nat.le_refl _) (Nat.le_refl _) (hM.1 _ (by decide)) rfl rfl ?_
      refine sX11_fails hM (fun G1 hM hQ => ?_)
      replace hL := zrel_u (j := 7) (x := 0) hL
      rw [zfb0]
      refine z_if_eq (tgt := 35) dX11_stoneOf_30 (by decide) (fun c4 => ?_) (fun c4 => ?_)
      · refine z_iload_n dX11_stoneOf_35 rfl ?_
        refine z_iconst (v := 5) dX11_stoneOf_36 (by decide) ?_
        refine z_icmp_ge (tgt := 49) dX11_stoneOf_37 (by decide) (fun c5 => ?_) (fun c5 => ?_)
        · have h5 := (nI_leI (by decide) (by omega)).mp (show nI 5 ≤ nI j from c5)
          obtain rfl : j = 5 := (by omega)
          refine z_aload_n dX11_stoneOf_49 rfl ?_
          refine z_iload_n dX11_stoneOf_50 rfl ?_
          refine z_V1 (mi' := mX11_doubtsOn) dX11_stoneOf_51 lX11_152 nX11_doubtsOn kX11_doubtsOn (by decide) (Nat.le_of_ble_eq_true rfl) (Nat.le_refl _) (Nat.le_refl _) (hM.1 _ (by decide)) rfl rfl ?_
          refine sX11_doubtsOn hM hL hB hs ?_
          exact z_ireturn (mi := mX11_stoneOf) dX11_stoneOf_54 rfl rfl (Nat.le_refl _) (Nat.le_refl _) (hP _ _ _ (by exact hL.xSt5 hs) hM hQ)
        · have h5 : j < 5 := Nat.lt_of_not_le (fun q => c5 (show nI 5 ≤ nI j from (nI_leI (by decide) (by omega)).mpr q))
          refine z_aload_n dX11_stoneOf_40 rfl ?_
          refine z_iload_n dX11_stoneOf_41 rfl ?_
          refine z_iload_n dX11_stoneOf_42 rfl ?_
          refine z_V2 (mi' := mX11_of) dX11_stoneOf_43 lX11_70 nX11_of kX11_of (by decide) (Nat.le_of_ble_eq_true rfl) (Nat.le_refl _) (Nat.le_refl _) (hM.1 _ (by decide)) rfl rfl ?_
          refine sX11_of hM (s := s) (w := j) (by omega) ?_
          refine z_goto (tgt := 54) dX11_stoneOf_46 (by decide) ?_
          exact z_ireturn (mi := mX11_stoneOf) dX11_stoneOf_54 rfl rfl (Nat.le_refl _) (Nat.le_refl _) (hP _ _ _ (by exact hL.xSt hs h5) hM hQ)
      · exact absurd rfl c4
  · have h1 : ¬ (0 ≤ x ∧ x < σ 13 1) := by rw [hL.n.1]; exact zb_0.mp c1
    refine z_iconst (v := 1) dX11_stoneOf_9 (by decide) ?_
    refine z_goto (tgt := 27) dX11_stoneOf_10 (by decide) ?_
    refine z_V1 (mi' := mX11_fails) dX11_stoneOf_27 lX11_149 nX11_fails kX11_fails (by decide) (Nat.le_of_ble_eq_true rfl) (Nat.le_refl _) (Nat.le_refl _) (hM.1 _ (by decide)) rfl rfl ?_
    refine sX11_fails hM (fun G1 hM hQ => ?_)
    replace hL := zrel_u (j := 7) (x := 1) hL
    rw [zfb1]
    refine z_if_eq (tgt := 35) dX11_stoneOf_30 (by decide) (fun c6 => ?_) (fun c6 => ?_)
    · exact absurd c6 zi10
    · refine z_iconst (v := 0) dX11_stoneOf_33 (by decide) ?_
      exact z_ireturn (mi := mX11_stoneOf) dX11_stoneOf_34 rfl rfl (Nat.le_refl _) (Nat.le_refl _) (hP _ _ _ (by rw [zoStoneOf, if_pos h1]; rfl) hM hQ)
set_option maxHeartbeats 4000000 in
set_option maxRecDepth 10000 in
theorem sX11_floodOf {Γ : zG} {d : Nat} {G : zH} {Post : zV} {am : Nat → Nat} {μ : zSt} (hM : zMod G am μ) {σ : zSt} {S F E K : Nat} {mm : Nat → Nat} {fl : Nat → Nat → Nat} (hL : zRel σ S F E K (μ 1) mm fl) {Y : Int} (hB : zBnd σ S F E K Y) {x w : Int32} (hP : ∀ (r c : Int32) (G1 : zH), zans [zIO, zIA] (zoFloodOf σ E F S x w) r c → zMod G1 am (zu μ 0 7 c) → zFrm G G1 am 8 → Post (some (.int r)) G1) : zM Γ (d + 7) mX11_floodOf 0 0 [.ref (am 0), .int x, .int w] G Post := by
  refine zM_of pnX11 rfl (Nat.le_of_ble_eq_true rfl) rfl ?_
  have hS6 := hL.S6
  have hF12 := hL.F12
  have hE4 := hL.E4
  have hK3 := hL.K3
  refine z_aload_n dX11_floodOf_0 rfl ?_
  refine z_aload_n dX11_floodOf_1 rfl ?_
  refine z_iload_n dX11_floodOf_2 rfl ?_
  refine z_V1 (mi' := mX11_isFlood) dX11_floodOf_3 lX11_105 nX11_isFlood kX11_isFlood (by decide) (Nat.le_of_ble_eq_true rfl) (Nat.le_refl _) (Nat.le_refl _) (hM.1 _ (by decide)) rfl rfl ?_
  refine sX11_isFlood hM hL ?_
  refine z_if_ne (tgt := 13) dX11_floodOf_6 (by decide) (fun c1 => ?_) (fun c1 => ?_)
  · have h1 : ¬ ¬ (0 ≤ x ∧ x < σ 13 2) := by rw [hL.n.2.2.1]; exact not_not_intro (zb_n.mp c1)
    obtain ⟨f, hf, rfl⟩ := zhas (by omega) (zb_n.mp c1)
    refine z_iload_n dX11_floodOf_13 rfl ?_
    refine z_iconst (v := 0) dX11_floodOf_14 (by decide) ?_
    refine z_iconst (v := 5) dX11_floodOf_15 (by decide) ?_
    refine z_S3 (mi' := mX11_in) dX11_floodOf_16 lX11_62 nX11_in kX11_in (by decide) (Nat.le_of_ble_eq_true rfl) (Nat.le_refl _) (Nat.le_refl _) ?_
    refine sX11_in ?_
    refine z_if_eq (tgt := 26) dX11_floodOf_19 (by decide) (fun c2 => ?_) (fun c2 => ?_)
    · have h2 := zb_0.mp c2
      refine z_iconst (v := 2) dX11_floodOf_26 (by decide) ?_
      refine z_V1 (mi' := mX11_fails) dX11_floodOf_27 lX11_149 nX11_fails kX11_fails (by decide) (Nat.le_of_ble_eq_true rfl) (Nat.le_refl _) (Nat.le_refl _) (hM.1 _ (by decide)) rfl rfl ?_
      refine sX11_fails hM (fun G1 hM hQ => ?_)
      replace hL := zrel_u (j := 7) (x := 2) hL
      rw [zfb2]
      refine z_if_eq (tgt := 35) dX11_floodOf_30 (by decide) (fun c3 => ?_) (fun c3 => ?_)
      · exact absurd c3 zi10
      · refine z_iconst (v := 0) dX11_floodOf_33 (by decide) ?_
        exact z_ireturn (mi := mX11_floodOf) dX11_floodOf_34 rfl rfl (Nat.le_refl _) (Nat.le_refl _) (hP _ _ _ (by exact hL.xFlN hf h2) hM hQ)
    · obtain ⟨j, hj, rfl⟩ := zhasLe (n := 5) (by decide) (zb_n.mp c2)
      refine z_iconst (v := 0) dX11_floodOf_22 (by decide) ?_
      refine z_goto (tgt := 27) dX11_floodOf_23 (by decide) ?_
      refine z_V1 (mi' := mX11_fails) dX11_floodOf_27 lX11_149 nX11_fails kX11_fails (by decide) (Nat.le_of_ble_eq_true rfl) (Nat.le_refl _) (Nat.le_refl _) (hM.1 _ (by decide)) rfl rfl ?_
      refine sX11_fails hM (fun G1 hM hQ => ?_)
      replace hL := zrel_u (j := 7) (x := 0) hL
      rw [zfb0]
      refine z_if_eq (tgt := 35) dX11_floodOf_30 (by decide) (fun c4 => ?_) (fun c4 => ?_)
      · refine z_iload_n dX11_floodOf_35 rfl ?_
        by_cases t0 : (nI j) = 0
        · rw [t0]
          refine z_tableIn (tgt := 72) dX11_floodOf_36 (by decide) (by decide) rfl (by decide) ?_
          refine z_aload_n dX11_floodOf_72 rfl ?_
          refine z_iload_n dX11_floodOf_73 rfl ?_
          refine z_iload_n dX11_floodOf_74 rfl ?_
          refine z_V2 (mi' := mX11_ofFlood) dX11_floodOf_75 lX11_66 nX11_ofFlood kX11_ofFlood (by decide) (Nat.le_of_ble_eq_true rfl) (Nat.le_refl _) (Nat.le_refl _) (hM.1 _ (by decide)) rfl rfl ?_
          first
          | (refine sX11_ofFlood hM (f := f) (w := 0) (by omega) ?_
             rw [show zu μ 0 7 0 1 (180 + 3 * f + 0) = _ from (hL.fd hf).1])
          | (refine sX11_ofFlood hM (f := f) (w := 1) (by omega) ?_
             rw [show zu μ 0 7 0 1 (180 + 3 * f + 1) = _ from (hL.fd hf).2.1])
          | (refine sX11_ofFlood hM (f := f) (w := 2) (by omega) ?_
             rw [show zu μ 0 7 0 1 (180 + 3 * f + 2) = _ from (hL.fd hf).2.2])
          exact z_ireturn (mi := mX11_floodOf) dX11_floodOf_78 rfl rfl (Nat.le_refl _) (Nat.le_refl _) (hP _ _ _ (by rw [zoFloodOf, if_neg h1, nI_clamp (by omega), if_pos t0]; exact ⟨rfl, rfl⟩) hM hQ)
        by_cases t1 : (nI j) = 1
        · rw [t1]
          refine z_tableIn (tgt := 72) dX11_floodOf_36 (by decide) (by decide) rfl (by decide) ?_
          refine z_aload_n dX11_floodOf_72 rfl ?_
          refine z_iload_n dX11_floodOf_73 rfl ?_
          refine z_iload_n dX11_floodOf_74 rfl ?_
          refine z_V2 (mi' := mX11_ofFlood) dX11_floodOf_75 lX11_66 nX11_ofFlood kX11_ofFlood (by decide) (Nat.le_of_ble_eq_true rfl) (Nat.le_refl _) (Nat.le_refl _) (hM.1 _ (by decide)) rfl rfl ?_
          first
          | (refine sX11_ofFlood hM (f := f) (w := 0) (by omega) ?_
             rw [show zu μ 0 7 0 1 (180 + 3 * f + 0) = _ from (hL.fd hf).1])
          | (refine sX11_ofFlood hM (f := f) (w := 1) (by omega) ?_
             rw [show zu μ 0 7 0 1 (180 + 3 * f + 1) = _ from (hL.fd hf).2.1])
          | (refine sX11_ofFlood hM (f := f) (w := 2) (by omega) ?_
             rw [show zu μ 0 7 0 1 (180 + 3 * f + 2) = _ from (hL.fd hf).2.2])
          exact z_ireturn (mi := mX11_floodOf) dX11_floodOf_78 rfl rfl (Nat.le_refl _) (Nat.le_refl _) (hP _ _ _ (by rw [zoFloodOf, if_neg h1, nI_clamp (by omega), if_neg t0, if_pos t1]; exact ⟨rfl, rfl⟩) hM hQ)
        by_cases t2 : (nI j) = 2
        · rw [t2]
          refine z_tableIn (tgt := 72) dX11_floodOf_36 (by decide) (by decide) rfl (by decide) ?_
          refine z_aload_n dX11_floodOf_72 rfl ?_
          refine z_iload_n dX11_floodOf_73 rfl ?_
          refine z_iload_n dX11_floodOf_74 rfl ?_
          refine z_V2 (mi' := mX11_ofFlood) dX11_floodOf_75 lX11_66 nX11_ofFlood kX11_ofFlood (by decide) (Nat.le_of_ble_eq_true rfl) (Nat.le_refl _) (Nat.le_refl _) (hM.1 _ (by decide)) rfl rfl ?_
          first
          | (refine sX11_ofFlood hM (f := f) (w := 0) (by omega) ?_
             rw [show zu μ 0 7 0 1 (180 + 3 * f + 0) = _ from (hL.fd hf).1])
          | (refine sX11_ofFlood hM (f := f) (w := 1) (by omega) ?_
             rw [show zu μ 0 7 0 1 (180 + 3 * f + 1) = _ from (hL.fd hf).2.1])
          | (refine sX11_ofFlood hM (f := f) (w := 2) (by omega) ?_
             rw [show zu μ 0 7 0 1 (180 + 3 * f + 2) = _ from (hL.fd hf).2.2])
          exact z_ireturn (mi := mX11_floodOf) dX11_floodOf_78 rfl rfl (Nat.le_refl _) (Nat.le_refl _) (hP _ _ _ (by rw [zoFloodOf, if_neg h1, nI_clamp (by omega), if_neg t0, if_neg t1, if_pos t2]; exact ⟨rfl, rfl⟩) hM hQ)
        by_cases t3 : (nI j) = 3
        · rw [t3]
          refine z_tableIn (tgt := 79) dX11_floodOf_36 (by decide) (by decide) rfl (by decide) ?_
          refine z_aload_n dX11_floodOf_79 rfl ?_
          refine z_iload_n dX11_floodOf_80 rfl ?_
          refine z_V1 (mi' := mX11_marksFor) dX11_floodOf_81 lX11_155 nX11_marksFor kX11_marksFor (by decide) (Nat.le_of_ble_eq_true rfl) (Nat.le_refl _) (Nat.le_refl _) (hM.1 _ (by decide)) rfl rfl ?_
          refine sX11_marksFor hM hL (show f < 12 by omega) ?_
          exact z_ireturn (mi := mX11_floodOf) dX11_floodOf_84 rfl rfl (Nat.le_refl _) (Nat.le_refl _) (hP _ _ _ (by rw [zoFloodOf, if_neg h1, nI_clamp (by omega), if_neg t0, if_neg t1, if_neg t2, if_pos t3]; exact ⟨rfl, rfl⟩) hM hQ)
        by_cases t4 : (nI j) = 4
        · rw [t4]
          refine z_tableIn (tgt := 85) dX11_floodOf_36 (by decide) (by decide) rfl (by decide) ?_
          refine z_aload_n dX11_floodOf_85 rfl ?_
          refine z_iload_n dX11_floodOf_86 rfl ?_
          refine z_V1 (mi' := mX11_doubtsFor) dX11_floodOf_87 lX11_146 nX11_doubtsFor kX11_doubtsFor (by decide) (Nat.le_of_ble_eq_true rfl) (Nat.le_refl _) (Nat.le_refl _) (hM.1 _ (by decide)) rfl rfl ?_
          refine sX11_doubtsFor hM hL (show f < 12 by omega) ?_
          exact z_ireturn (mi := mX11_floodOf) dX11_floodOf_90 rfl rfl (Nat.le_refl _) (Nat.le_refl _) (hP _ _ _ (by rw [zoFloodOf, if_neg h1, nI_clamp (by omega), if_neg t0, if_neg t1, if_neg t2, if_neg t3, if_pos t4]; exact ⟨rfl, rfl⟩) hM hQ)
        refine z_tableOut (tgt := 91) dX11_floodOf_36 (by have u0 := lv_neT (a := 0) t0 (by decide); have u1 := lv_neT (a := 1) t1 (by decide); have u2 := lv_neT (a := 2) t2 (by decide); have u3 := lv_neT (a := 3) t3 (by decide); have u4 := lv_neT (a := 4) t4 (by decide); omega) (by decide) ?_
        refine z_aload_n dX11_floodOf_91 rfl ?_
        refine z_iload_n dX11_floodOf_92 rfl ?_
        refine z_V1 (mi' := mX11_credit) dX11_floodOf_93 lX11_158 nX11_credit kX11_credit (by decide) (Nat.le_of_ble_eq_true rfl) (Nat.le_refl _) (Nat.le_refl _) (hM.1 _ (by decide)) rfl rfl ?_
        refine sX11_credit hM hL hf ?_
        exact z_ireturn (mi := mX11_floodOf) dX11_floodOf_96 rfl rfl (Nat.le_refl _) (Nat.le_refl _) (by
    have t5 : nI j = 5 := by
      rcases (by omega : j = 0 ∨ j = 1 ∨ j = 2 ∨ j = 3 ∨ j = 4 ∨ j = 5) with rfl | rfl | rfl | rfl | rfl | rfl <;> first | rfl | exact absurd rfl t0 | exact absurd rfl t1 | exact absurd rfl t2 | exact absurd rfl t3 | exact absurd rfl t4
    exact hP _ _ _ (by rw [zoFloodOf, if_neg h1, nI_clamp (by omega), if_neg t0, if_neg t1, if_neg t2, if_neg t3, if_neg t4, if_pos t5]; exact ⟨rfl, rfl⟩) hM hQ)
      · exact absurd rfl c4
  · have h1 : ¬ (0 ≤ x ∧ x < σ 13 2) := by rw [hL.n.2.2.1]; exact zb_0.mp c1
    refine z_iconst (v := 1) dX11_floodOf_9 (by decide) ?_
    refine z_goto (tgt := 27) dX11_floodOf_10 (by decide) ?_
    refine z_V1 (mi' := mX11_fails) dX11_floodOf_27 lX11_149 nX11_fails kX11_fails (by decide) (Nat.le_of_ble_eq_true rfl) (Nat.le_refl _) (Nat.le_refl _) (hM.1 _ (by decide)) rfl rfl ?_
    refine sX11_fails hM (fun G1 hM hQ => ?_)
    replace hL := zrel_u (j := 7) (x := 1) hL
    rw [zfb1]
    refine z_if_eq (tgt := 35) dX11_floodOf_30 (by decide) (fun c5 => ?_) (fun c5 => ?_)
    · exact absurd c5 zi10
    · refine z_iconst (v := 0) dX11_floodOf_33 (by decide) ?_
      exact z_ireturn (mi := mX11_floodOf) dX11_floodOf_34 rfl rfl (Nat.le_refl _) (Nat.le_refl _) (hP _ _ _ (by rw [zoFloodOf, if_pos h1]; rfl) hM hQ)
set_option maxHeartbeats 4000000 in
set_option maxRecDepth 10000 in
theorem sX11_markOf {Γ : zG} {d : Nat} {G : zH} {Post : zV} {am : Nat → Nat} {μ : zSt} (hM : zMod G am μ) {σ : zSt} {S F E K : Nat} {mm : Nat → Nat} {fl : Nat → Nat → Nat} (hL : zRel σ S F E K (μ 1) mm fl) {x y w : Int32} (hP : ∀ (r c : Int32) (G1 : zH), zans [zIO, zIA, zNS] (zoMarkOf σ E x y w) r c → zMod G1 am (zu μ 0 7 c) → zFrm G G1 am 8 → Post (some (.int r)) G1) : zM Γ (d + 3) mX11_markOf 0 0 [.ref (am 0), .int x, .int y, .int w] G Post := by
  refine zM_of pnX11 rfl (Nat.le_of_ble_eq_true rfl) rfl ?_
  have hS6 := hL.S6
  have hF12 := hL.F12
  have hE4 := hL.E4
  have hK3 := hL.K3
  refine z_aload_n dX11_markOf_0 rfl ?_
  refine z_aload_n dX11_markOf_1 rfl ?_
  refine z_iload_n dX11_markOf_2 rfl ?_
  refine z_V1 (mi' := mX11_isStone) dX11_markOf_3 lX11_101 nX11_isStone kX11_isStone (by decide) (Nat.le_of_ble_eq_true rfl) (Nat.le_refl _) (Nat.le_refl _) (hM.1 _ (by decide)) rfl rfl ?_
  refine sX11_isStone hM hL ?_
  refine z_if_eq (tgt := 17) dX11_markOf_6 (by decide) (fun c1 => ?_) (fun c1 => ?_)
  · have h1 : ¬ (0 ≤ x ∧ x < σ 13 1) := by rw [hL.n.1]; exact zb_0.mp c1
    refine z_iconst (v := 1) dX11_markOf_17 (by decide) ?_
    refine z_goto (tgt := 48) dX11_markOf_18 (by decide) ?_
    refine z_V1 (mi' := mX11_fails) dX11_markOf_48 lX11_149 nX11_fails kX11_fails (by decide) (Nat.le_of_ble_eq_true rfl) (Nat.le_refl _) (Nat.le_refl _) (hM.1 _ (by decide)) rfl rfl ?_
    refine sX11_fails hM (fun G1 hM hQ => ?_)
    replace hL := zrel_u (j := 7) (x := 1) hL
    rw [zfb1]
    refine z_if_eq (tgt := 56) dX11_markOf_51 (by decide) (fun c2 => ?_) (fun c2 => ?_)
    · exact absurd c2 zi10
    · refine z_iconst (v := 0) dX11_markOf_54 (by decide) ?_
      exact z_ireturn (mi := mX11_markOf) dX11_markOf_55 rfl rfl (Nat.le_refl _) (Nat.le_refl _) (hP _ _ _ (by rw [zoMarkOf, if_pos h1]; rfl) hM hQ)
  · have h1 : ¬ ¬ (0 ≤ x ∧ x < σ 13 1) := by rw [hL.n.1]; exact not_not_intro (zb_n.mp c1)
    obtain ⟨s, hs, rfl⟩ := zhas (by omega) (zb_n.mp c1)
    refine z_aload_n dX11_markOf_9 rfl ?_
    refine z_iload_n dX11_markOf_10 rfl ?_
    refine z_V1 (mi' := mX11_isFlood) dX11_markOf_11 lX11_105 nX11_isFlood kX11_isFlood (by decide) (Nat.le_of_ble_eq_true rfl) (Nat.le_refl _) (Nat.le_refl _) (hM.1 _ (by decide)) rfl rfl ?_
    refine sX11_isFlood hM hL ?_
    refine z_if_ne (tgt := 21) dX11_markOf_14 (by decide) (fun c3 => ?_) (fun c3 => ?_)
    · have h2 : ¬ ¬ (0 ≤ y ∧ y < σ 13 2) := by rw [hL.n.2.2.1]; exact not_not_intro (zb_n.mp c3)
      obtain ⟨f, hf, rfl⟩ := zhas (by omega) (zb_n.mp c3)
      refine z_iload_n dX11_markOf_21 rfl ?_
      refine z_iconst (v := 0) dX11_markOf_22 (by decide) ?_
      refine z_iconst (v := 4) dX11_markOf_23 (by decide) ?_
      refine z_S3 (mi' := mX11_in) dX11_markOf_24 lX11_62 nX11_in kX11_in (by decide) (Nat.le_of_ble_eq_true rfl) (Nat.le_refl _) (Nat.le_refl _) ?_
      refine sX11_in ?_
      refine z_if_ne (tgt := 34) dX11_markOf_27 (by decide) (fun c4 => ?_) (fun c4 => ?_)
      · have h3 : ¬ (w < 0 ∨ 4 < w) := fun q => q.elim (fun q => Int32.not_lt.mpr (zb_n.mp c4).1 q) (fun q => Int32.not_lt.mpr (zb_n.mp c4).2 q)
        obtain ⟨j, hj, rfl⟩ := zhasLe (n := 4) (by decide) (zb_n.mp c4)
        refine z_aload_n dX11_markOf_34 rfl ?_
        refine z_iload_n dX11_markOf_35 rfl ?_
        refine z_iload_n dX11_markOf_36 rfl ?_
        refine z_V2 (mi' := mX11_placeOf) dX11_markOf_37 lX11_111 nX11_placeOf kX11_placeOf (by decide) (Nat.le_of_ble_eq_true rfl) (Nat.le_refl _) (Nat.le_refl _) (hM.1 _ (by decide)) rfl rfl ?_
        refine sX11_placeOf hM hL hs (show f < 12 by omega) ?_
        refine z_if_ge (tgt := 47) dX11_markOf_40 (by decide) (fun c5 => ?_) (fun c5 => ?_)
        · obtain ⟨k, hk, ek, hfk, hmk⟩ := hL.plk hs (show f < 12 by omega) c5
          refine z_iconst (v := 0) dX11_markOf_47 (by decide) ?_
          refine z_V1 (mi' := mX11_fails) dX11_markOf_48 lX11_149 nX11_fails kX11_fails (by decide) (Nat.le_of_ble_eq_true rfl) (Nat.le_refl _) (Nat.le_refl _) (hM.1 _ (by decide)) rfl rfl ?_
          refine sX11_fails hM (fun G1 hM hQ => ?_)
          replace hL := zrel_u (j := 7) (x := 0) hL
          rw [zfb0]
          refine z_if_eq (tgt := 56) dX11_markOf_51 (by decide) (fun c6 => ?_) (fun c6 => ?_)
          · refine z_aload_n dX11_markOf_56 rfl ?_
            refine z_iload_n dX11_markOf_57 rfl ?_
            refine z_iload_n dX11_markOf_58 rfl ?_
            refine z_V2 (mi' := mX11_placeOf) dX11_markOf_59 lX11_111 nX11_placeOf kX11_placeOf (by decide) (Nat.le_of_ble_eq_true rfl) (Nat.le_refl _) (Nat.le_refl _) (hM.1 _ (by decide)) rfl rfl ?_
            refine sX11_placeOf hM hL hs (show f < 12 by omega) ?_
            rw [ek]
            have hm6 := hL.m6 hs
            refine z_istore dX11_markOf_62 (by decide) rfl ?_
            refine z_iload_n dX11_markOf_64 rfl ?_
            refine z_iconst (v := 3) dX11_markOf_65 (by decide) ?_
            refine z_icmp_ge (tgt := 82) dX11_markOf_66 (by decide) (fun c7 => ?_) (fun c7 => ?_)
            · have h5 := (nI_leI (by decide) (by omega)).mp (show nI 3 ≤ nI j from c7)
              refine z_iload_n dX11_markOf_82 rfl ?_
              refine z_iconst (v := 3) dX11_markOf_83 (by decide) ?_
              refine z_icmp_ne (tgt := 97) dX11_markOf_84 (by decide) (fun c8 => ?_) (fun c8 => ?_)
              · obtain rfl : j = 4 := (by have : j ≠ 3 := fun q => c8 (by rw [q]; rfl); omega)
                refine z_aload_n dX11_markOf_97 rfl ?_
                refine z_aload_n dX11_markOf_98 rfl ?_
                refine z_iload_n dX11_markOf_99 rfl ?_
                refine z_iload dX11_markOf_100 rfl ?_
                refine z_iconst (v := 2) dX11_markOf_102 (by decide) ?_
                refine z_V3 (mi' := mX11_ofMark) dX11_markOf_103 lX11_80 nX11_ofMark kX11_ofMark (by decide) (Nat.le_of_ble_eq_true rfl) (Nat.le_refl _) (Nat.le_refl _) (hM.1 _ (by decide)) rfl rfl ?_
                refine sX11_ofMark hM (s := s) (k := k) (w := 2) (by have := hL.m6 hs; have := hk; omega) ?_
                rw [show zu μ 0 7 0 1 (5 + 29 * s + 5 + 4 * k + 2) = _ from (hL.mk hs hk).2.2.2.1]
                refine z_V1 (mi' := mX11_goneIn) dX11_markOf_106 lX11_161 nX11_goneIn kX11_goneIn (by decide) (Nat.le_of_ble_eq_true rfl) (Nat.le_refl _) (Nat.le_refl _) (hM.1 _ (by decide)) rfl rfl ?_
                refine sX11_goneIn hM hL ?_
                exact z_ireturn (mi := mX11_markOf) dX11_markOf_109 rfl rfl (Nat.le_refl _) (Nat.le_refl _) (hP _ _ _ (by rw [zoMarkOf, if_neg h1, if_neg h2, if_neg h3, nI_clamp (by omega), nI_clamp (by omega), if_pos hmk, if_neg (show ¬ nI 4 = 0 by decide), if_neg (show ¬ nI 4 = 1 by decide), if_neg (show ¬ nI 4 = 2 by decide), if_neg (show ¬ nI 4 = 3 by decide)]; rw [hfk]; exact ⟨rfl, rfl⟩) hM hQ)
              · obtain rfl : j = 3 := znI_inj (by omega) (by decide) c8
                refine z_aload_n dX11_markOf_87 rfl ?_
                refine z_iload_n dX11_markOf_88 rfl ?_
                refine z_iload dX11_markOf_89 rfl ?_
                refine z_V2 (mi' := mX11_trueOf) dX11_markOf_91 lX11_137 nX11_trueOf kX11_trueOf (by decide) (Nat.le_of_ble_eq_true rfl) (Nat.le_refl _) (Nat.le_refl _) (hM.1 _ (by decide)) rfl rfl ?_
                refine sX11_trueOf hM hL hs hk ?_
                refine z_goto (tgt := 109) dX11_markOf_94 (by decide) ?_
                exact z_ireturn (mi := mX11_markOf) dX11_markOf_109 rfl rfl (Nat.le_refl _) (Nat.le_refl _) (hP _ _ _ (by rw [zoMarkOf, if_neg h1, if_neg h2, if_neg h3, nI_clamp (by omega), nI_clamp (by omega), if_pos hmk, if_neg (show ¬ nI 3 = 0 by decide), if_neg (show ¬ nI 3 = 1 by decide), if_neg (show ¬ nI 3 = 2 by decide), if_pos (show nI 3 = 3 from rfl)]; rw [hfk]; exact ⟨rfl, rfl⟩) hM hQ)
            · have h5 : j < 3 := Nat.lt_of_not_le (fun q => c7 (show nI 3 ≤ nI j from (nI_leI (by decide) (by omega)).mpr q))
              refine z_aload_n dX11_markOf_69 rfl ?_
              refine z_iload_n dX11_markOf_70 rfl ?_
              refine z_iload dX11_markOf_71 rfl ?_
              refine z_iload_n dX11_markOf_73 rfl ?_
              refine z_iconst (v := 1) dX11_markOf_74 (by decide) ?_
              refine z_iadd dX11_markOf_75 ?_
              refine z_V3 (mi' := mX11_ofMark) dX11_markOf_76 lX11_80 nX11_ofMark kX11_ofMark (by decide) (Nat.le_of_ble_eq_true rfl) (Nat.le_refl _) (Nat.le_refl _) (hM.1 _ (by decide)) rfl rfl ?_
              rw [nI_1]
              refine sX11_ofMark hM (s := s) (k := k) (w := j + 1) (by omega) ?_
              refine z_goto (tgt := 109) dX11_markOf_79 (by decide) ?_
              exact z_ireturn (mi := mX11_markOf) dX11_markOf_109 rfl rfl (Nat.le_refl _) (Nat.le_refl _) (hP _ _ _ (by
    have hk9 := hL.mk hs hk
    rw [hfk] at hk9
    rcases (by omega : j = 0 ∨ j = 1 ∨ j = 2) with rfl | rfl | rfl
    · rw [zoMarkOf, if_neg h1, if_neg h2, if_neg h3, nI_clamp (by omega), nI_clamp (by omega), if_pos hmk, if_pos (show nI 0 = 0 from rfl)]; exact ⟨rfl, hk9.2.2.1⟩
    · rw [zoMarkOf, if_neg h1, if_neg h2, if_neg h3, nI_clamp (by omega), nI_clamp (by omega), if_pos hmk, if_neg (show ¬ nI 1 = 0 by decide), if_pos (show nI 1 = 1 from rfl)]; exact ⟨rfl, hk9.2.2.2.1⟩
    · rw [zoMarkOf, if_neg h1, if_neg h2, if_neg h3, nI_clamp (by omega), nI_clamp (by omega), if_pos hmk, if_neg (show ¬ nI 2 = 0 by decide), if_neg (show ¬ nI 2 = 1 by decide), if_pos (show nI 2 = 2 from rfl)]; exact ⟨rfl, hk9.2.2.2.2⟩) hM hQ)
          · exact absurd rfl c6
        · have hmk := hL.pln hs (show f < 12 by omega) c5
          refine z_iconst (v := 3) dX11_markOf_43 (by decide) ?_
          refine z_goto (tgt := 48) dX11_markOf_44 (by decide) ?_
          refine z_V1 (mi' := mX11_fails) dX11_markOf_48 lX11_149 nX11_fails kX11_fails (by decide) (Nat.le_of_ble_eq_true rfl) (Nat.le_refl _) (Nat.le_refl _) (hM.1 _ (by decide)) rfl rfl ?_
          refine sX11_fails hM (fun G1 hM hQ => ?_)
          replace hL := zrel_u (j := 7) (x := 3) hL
          rw [zfb3]
          refine z_if_eq (tgt := 56) dX11_markOf_51 (by decide) (fun c9 => ?_) (fun c9 => ?_)
          · exact absurd c9 zi10
          · refine z_iconst (v := 0) dX11_markOf_54 (by decide) ?_
            exact z_ireturn (mi := mX11_markOf) dX11_markOf_55 rfl rfl (Nat.le_refl _) (Nat.le_refl _) (hP _ _ _ (by rw [zoMarkOf, if_neg h1, if_neg h2, if_neg h3, nI_clamp (by omega), nI_clamp (by omega), if_neg hmk]; rfl) hM hQ)
      · have h3 : w < 0 ∨ 4 < w := by
          by_cases q : w < 0
          · exact Or.inl q
          · exact Or.inr (Int32.not_le.mp (fun q2 => zb_0.mp c4 ⟨Int32.not_lt.mp q, q2⟩))
        refine z_iconst (v := 2) dX11_markOf_30 (by decide) ?_
        refine z_goto (tgt := 48) dX11_markOf_31 (by decide) ?_
        refine z_V1 (mi' := mX11_fails) dX11_markOf_48 lX11_149 nX11_fails kX11_fails (by decide) (Nat.le_of_ble_eq_true rfl) (Nat.le_refl _) (Nat.le_refl _) (hM.1 _ (by decide)) rfl rfl ?_
        refine sX11_fails hM (fun G1 hM hQ => ?_)
        replace hL := zrel_u (j := 7) (x := 2) hL
        rw [zfb2]
        refine z_if_eq (tgt := 56) dX11_markOf_51 (by decide) (fun c10 => ?_) (fun c10 => ?_)
        · exact absurd c10 zi10
        · refine z_iconst (v := 0) dX11_markOf_54 (by decide) ?_
          exact z_ireturn (mi := mX11_markOf) dX11_markOf_55 rfl rfl (Nat.le_refl _) (Nat.le_refl _) (hP _ _ _ (by rw [zoMarkOf, if_neg h1, if_neg h2, if_pos h3]; rfl) hM hQ)
    · have h2 : ¬ (0 ≤ y ∧ y < σ 13 2) := by rw [hL.n.2.2.1]; exact zb_0.mp c3
      refine z_iconst (v := 1) dX11_markOf_17 (by decide) ?_
      refine z_goto (tgt := 48) dX11_markOf_18 (by decide) ?_
      refine z_V1 (mi' := mX11_fails) dX11_markOf_48 lX11_149 nX11_fails kX11_fails (by decide) (Nat.le_of_ble_eq_true rfl) (Nat.le_refl _) (Nat.le_refl _) (hM.1 _ (by decide)) rfl rfl ?_
      refine sX11_fails hM (fun G1 hM hQ => ?_)
      replace hL := zrel_u (j := 7) (x := 1) hL
      rw [zfb1]
      refine z_if_eq (tgt := 56) dX11_markOf_51 (by decide) (fun c11 => ?_) (fun c11 => ?_)
      · exact absurd c11 zi10
      · refine z_iconst (v := 0) dX11_markOf_54 (by decide) ?_
        exact z_ireturn (mi := mX11_markOf) dX11_markOf_55 rfl rfl (Nat.le_refl _) (Nat.le_refl _) (hP _ _ _ (by rw [zoMarkOf, if_neg h1, if_pos h2]; rfl) hM hQ)
