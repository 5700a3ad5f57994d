theorem znI_inj {a b : Nat} (ha : a < 2147483648) (hb : b < 2147483648) (h : nI a = nI b) : a = b := by
  have h1 := congrArg Int32.toInt h
  rw [nI_toInt ha, nI_toInt hb] at h1
  omega
theorem z_ssub (a b c : Int32) : a - b - c = a - (b + c) := by grind
theorem zm1_lt {x : Int32} (h : 0 ≤ x) : (-1 : Int32) < x := by
  have h1 := Int32.le_iff_toInt_le.mp h
  refine Int32.lt_iff_toInt_lt.mpr ?_
  have e1 : (-1 : Int32).toInt = -1 := by decide
  have e2 : (0 : Int32).toInt = 0 := by decide
  omega
/-- the best epoch so far, and the class's pair -/
def zshB (σ : zSt) (x : Int32) (i : Nat) : Option Nat → Prop
  | none => zsh (σ 7) (σ 8) x i = (-1, 0)
  | some k => k < i ∧ zsh (σ 7) (σ 8) x i = (σ 7 k, σ 8 k)
theorem zshB_n {σ : zSt} {x : Int32} {i : Nat} {b : Option Nat} (h : zshB σ x i b) (hn : ¬ (σ 7 i ≤ x ∧ (zsh (σ 7) (σ 8) x i).1 < σ 7 i)) : zshB σ x (i + 1) b := by
  have e : zsh (σ 7) (σ 8) x (i + 1) = zsh (σ 7) (σ 8) x i := by rw [zsh, if_neg hn]
  cases b with
  | none => exact e.trans h
  | some k => exact ⟨Nat.lt_succ_of_lt h.1, e.trans h.2⟩
theorem zshB_y {σ : zSt} {x : Int32} {i : Nat} (h1 : σ 7 i ≤ x) (h2 : (zsh (σ 7) (σ 8) x i).1 < σ 7 i) : zshB σ x (i + 1) (some i) := ⟨Nat.lt_succ_self i, by rw [zsh, if_pos ⟨h1, h2⟩]⟩
set_option maxHeartbeats 4000000 in
set_option maxRecDepth 10000 in
theorem sX11_shiftOf {Γ : zG} {d : Nat} {G : zH} {Post : zV} {am : Nat → Nat} {μ : zSt} (hM : zMod G am μ) {σ : zSt} {S F E K : Nat} {mm : Nat → Nat} {fl : Nat → Nat → Nat} (hL : zRel σ S F E K (μ 1) mm fl) {x : Int32} (hP : Post (some (.int (zshift σ E x))) G) : zM Γ (d + 1) mX11_shiftOf 0 0 [.ref (am 0), .int x] G Post := by
  refine zM_of pnX11 rfl (Nat.le_of_ble_eq_true rfl) rfl ?_
  have hS6 := hL.S6
  have hF12 := hL.F12
  have hE4 := hL.E4
  have hK3 := hL.K3
  have key : ∀ (r : Nat) (i : Nat) (b : Option Nat), i ≤ E → E < i + r → zshB σ x i b → zX Γ mX11_shiftOf (d + 1) 0 0 4 [some (.ref (am 0)), some (.int x), some (.int (zoi b)), some (.int (nI i))] [] G 0 0 (zlift Post) := by
    intro r
    induction r with
    | zero =>
      intro i b hi1 hi2 hb
      exact absurd hi2 (by omega)
    | succ r ih =>
      intro i b hi1 hi2 hb
      refine z_iload_n dX11_shiftOf_4 rfl ?_
      refine z_aload_n dX11_shiftOf_5 rfl ?_
      refine z_get dX11_shiftOf_6 fX11_7.r (hM.1 _ (by decide)) rfl ?_
      refine z_sipush (v := 216) dX11_shiftOf_9 (by decide) ?_
      refine z_iald dX11_shiftOf_12 (hM.1 1 (by decide)) (show vp_in (nI 216) 229 from vp_in_nI (by decide) (by decide)) ?_
      rw [show μ 1 (Int32.toNatClampNeg 216) = nI E from hL.sc.2.2.2.2.2.2.1]
      refine z_icmp_ge (tgt := 71) dX11_shiftOf_13 (by decide) (fun c1 => ?_) (fun c1 => ?_)
      · have hi9 := zgeN (N := E) rfl (by omega) (by omega) c1
        refine z_iload_n dX11_shiftOf_71 rfl ?_
        refine z_if_ge (tgt := 79) dX11_shiftOf_72 (by decide) (fun c2 => ?_) (fun c2 => ?_)
        · obtain ⟨j, rfl⟩ : ∃ j, b = some j := by
            cases b with
            | none => exact absurd c2 (by decide)
            | some j => exact ⟨j, rfl⟩
          have hj9 := hb.1
          rw [show zoi (some j) = nI j from rfl]
          refine z_aload_n dX11_shiftOf_79 rfl ?_
          refine z_get dX11_shiftOf_80 fX11_7.r (hM.1 _ (by decide)) rfl ?_
          refine z_sipush (v := 217) dX11_shiftOf_83 (by decide) ?_
          refine z_iconst (v := 2) dX11_shiftOf_86 (by decide) ?_
          refine z_iload_n dX11_shiftOf_87 rfl ?_
          refine z_imul dX11_shiftOf_88 ?_
          refine z_iadd dX11_shiftOf_89 ?_
          refine z_iconst (v := 1) dX11_shiftOf_90 (by decide) ?_
          refine z_iadd dX11_shiftOf_91 ?_
          rw [zixE, nI_1]
          refine z_iald dX11_shiftOf_92 (hM.1 1 (by decide)) (vp_in_nI (show 217 + 2 * j + 1 < 229 by omega) (by decide)) ?_
          rw [nI_clamp (show 217 + 2 * j + 1 < 2147483648 by omega), (hL.ep (by omega)).2]
          exact z_ireturn (mi := mX11_shiftOf) dX11_shiftOf_93 rfl rfl (Nat.le_refl _) (Nat.le_refl _) (by rw [zshift, show E = i by omega, hb.2] at hP; exact hP)
        · have hbn : b = none := by
            cases b with
            | none => rfl
            | some j => exact absurd (Int32.not_lt.mp (nI_pos (by have := hb.1; omega))) c2
          subst hbn
          refine z_iconst (v := 0) dX11_shiftOf_75 (by decide) ?_
          refine z_goto (tgt := 93) dX11_shiftOf_76 (by decide) ?_
          exact z_ireturn (mi := mX11_shiftOf) dX11_shiftOf_93 rfl rfl (Nat.le_refl _) (Nat.le_refl _) (by rw [zshift, show E = i by omega, show zsh (σ 7) (σ 8) x i = (-1, 0) from hb] at hP; exact hP)
      · have hi9 := zltN (N := E) rfl (by omega) (by omega) c1
        refine z_aload_n dX11_shiftOf_16 rfl ?_
        refine z_get dX11_shiftOf_17 fX11_7.r (hM.1 _ (by decide)) rfl ?_
        refine z_sipush (v := 217) dX11_shiftOf_20 (by decide) ?_
        refine z_iconst (v := 2) dX11_shiftOf_23 (by decide) ?_
        refine z_iload_n dX11_shiftOf_24 rfl ?_
        refine z_imul dX11_shiftOf_25 ?_
        refine z_iadd dX11_shiftOf_26 ?_
        rw [zixE]
        refine z_iald dX11_shiftOf_27 (hM.1 1 (by decide)) (vp_in_nI (show 217 + 2 * i < 229 by omega) (by decide)) ?_
        rw [nI_clamp (show 217 + 2 * i < 2147483648 by omega), (hL.ep hi9).1]
        refine z_iload_n dX11_shiftOf_28 rfl ?_
        refine z_icmp_gt (tgt := 65) dX11_shiftOf_29 (by decide) (fun c3 => ?_) (fun c3 => ?_)
        · obtain ⟨b9, hb9, e9⟩ : ∃ b9 : Option Nat, zshB σ x (i + 1) b9 ∧ zoi b = zoi b9 := ⟨b, zshB_n hb (fun q => Int32.not_lt.mpr q.1 c3), rfl⟩
          refine z_iinc dX11_shiftOf_65 rfl rfl (by decide) rfl ?_
          refine z_goto (tgt := 4) dX11_shiftOf_68 (by decide) ?_
          exact z_sub (lv' := [some (.ref (am 0)), some (.int x), some (.int (zoi b9)), some (.int (nI (i + 1)))]) ⟨rfl, rfl, zsl e9, zsl (zinc i), trivial⟩ (ih (i + 1) b9 (by omega) (by omega) hb9)
        · refine z_iload_n dX11_shiftOf_32 rfl ?_
          refine z_if_lt (tgt := 63) dX11_shiftOf_33 (by decide) (fun c4 => ?_) (fun c4 => ?_)
          · have hbn : b = none := by
              cases b with
              | none => rfl
              | some j => exact absurd c4 (nI_pos (by have := hb.1; omega))
            obtain ⟨b9, hb9, e9⟩ : ∃ b9 : Option Nat, zshB σ x (i + 1) b9 ∧ nI i = zoi b9 := ⟨some i, zshB_y (Int32.not_lt.mp c3) (by subst hbn; rw [show zsh (σ 7) (σ 8) x i = (-1, 0) from hb]; exact zm1_lt (hL.ep0 hi9)), rfl⟩
            refine z_iload_n dX11_shiftOf_63 rfl ?_
            refine z_istore_n dX11_shiftOf_64 (by decide) rfl ?_
            refine z_iinc dX11_shiftOf_65 rfl rfl (by decide) rfl ?_
            refine z_goto (tgt := 4) dX11_shiftOf_68 (by decide) ?_
            exact z_sub (lv' := [some (.ref (am 0)), some (.int x), some (.int (zoi b9)), some (.int (nI (i + 1)))]) ⟨rfl, rfl, zsl e9, zsl (zinc i), trivial⟩ (ih (i + 1) b9 (by omega) (by omega) hb9)
          · obtain ⟨j, rfl⟩ : ∃ j, b = some j := by
              cases b with
              | none => exact absurd (show (-1 : Int32) < 0 by decide) c4
              | some j => exact ⟨j, rfl⟩
            have hj9 := hb.1
            rw [show zoi (some j) = nI j from rfl]
            refine z_aload_n dX11_shiftOf_36 rfl ?_
            refine z_get dX11_shiftOf_37 fX11_7.r (hM.1 _ (by decide)) rfl ?_
            refine z_sipush (v := 217) dX11_shiftOf_40 (by decide) ?_
            refine z_iconst (v := 2) dX11_shiftOf_43 (by decide) ?_
            refine z_iload_n dX11_shiftOf_44 rfl ?_
            refine z_imul dX11_shiftOf_45 ?_
            refine z_iadd dX11_shiftOf_46 ?_
            rw [zixE]
            refine z_iald dX11_shiftOf_47 (hM.1 1 (by decide)) (vp_in_nI (show 217 + 2 * i < 229 by omega) (by decide)) ?_
            rw [nI_clamp (show 217 + 2 * i < 2147483648 by omega), (hL.ep hi9).1]
            refine z_aload_n dX11_shiftOf_48 rfl ?_
            refine z_get dX11_shiftOf_49 fX11_7.r (hM.1 _ (by decide)) rfl ?_
            refine z_sipush (v := 217) dX11_shiftOf_52 (by decide) ?_
            refine z_iconst (v := 2) dX11_shiftOf_55 (by decide) ?_
            refine z_iload_n dX11_shiftOf_56 rfl ?_
            refine z_imul dX11_shiftOf_57 ?_
            refine z_iadd dX11_shiftOf_58 ?_
            rw [zixE]
            refine z_iald dX11_shiftOf_59 (hM.1 1 (by decide)) (vp_in_nI (show 217 + 2 * j < 229 by omega) (by decide)) ?_
            rw [nI_clamp (show 217 + 2 * j < 2147483648 by omega), (hL.ep (by omega)).1]
            refine z_icmp_le (tgt := 65) dX11_shiftOf_60 (by decide) (fun c5 => ?_) (fun c5 => ?_)
            · obtain ⟨b9, hb9, e9⟩ : ∃ b9 : Option Nat, zshB σ x (i + 1) b9 ∧ nI j = zoi b9 := ⟨some j, zshB_n hb (fun q => Int32.not_lt.mpr c5 (by have q2 := q.2; rw [hb.2] at q2; exact q2)), rfl⟩
              refine z_iinc dX11_shiftOf_65 rfl rfl (by decide) rfl ?_
              refine z_goto (tgt := 4) dX11_shiftOf_68 (by decide) ?_
              exact z_sub (lv' := [some (.ref (am 0)), some (.int x), some (.int (zoi b9)), some (.int (nI (i + 1)))]) ⟨rfl, rfl, zsl e9, zsl (zinc i), trivial⟩ (ih (i + 1) b9 (by omega) (by omega) hb9)
            · obtain ⟨b9, hb9, e9⟩ : ∃ b9 : Option Nat, zshB σ x (i + 1) b9 ∧ nI i = zoi b9 := ⟨some i, zshB_y (Int32.not_lt.mp c3) (by rw [hb.2]; exact Int32.not_le.mp c5), rfl⟩
              refine z_iload_n dX11_shiftOf_63 rfl ?_
              refine z_istore_n dX11_shiftOf_64 (by decide) rfl ?_
              refine z_iinc dX11_shiftOf_65 rfl rfl (by decide) rfl ?_
              refine z_goto (tgt := 4) dX11_shiftOf_68 (by decide) ?_
              exact z_sub (lv' := [some (.ref (am 0)), some (.int x), some (.int (zoi b9)), some (.int (nI (i + 1)))]) ⟨rfl, rfl, zsl e9, zsl (zinc i), trivial⟩ (ih (i + 1) b9 (by omega) (by omega) hb9)
  refine z_iconst (v := (-1)) dX11_shiftOf_0 (by decide) ?_
  refine z_istore_n dX11_shiftOf_1 (by decide) rfl ?_
  refine z_iconst (v := 0) dX11_shiftOf_2 (by decide) ?_
  refine z_istore_n dX11_shiftOf_3 (by decide) rfl ?_
  exact z_sub (lv' := [some (.ref (am 0)), some (.int x), some (.int (zoi none)), some (.int (nI 0))]) ⟨rfl, rfl, rfl, rfl, trivial⟩ (key (E + 1) 0 none (by omega) (by omega) rfl)
set_option maxHeartbeats 4000000 in
set_option maxRecDepth 10000 in
theorem sX11_levelOf {Γ : zG} {d : Nat} {G : zH} {Post : zV} {am : Nat → Nat} {μ : zSt} (hM : zMod G am μ) {σ : zSt} {S F E K : Nat} {mm : Nat → Nat} {fl : Nat → Nat → Nat} (hL : zRel σ S F E K (μ 1) mm fl) {s f : Nat} (hs : s < S) (hf : f < F) (hP : Post (some (.int (zlevel σ s f))) G) : zM Γ (d + 1) mX11_levelOf 0 0 [.ref (am 0), .int (nI s), .int (nI f)] G Post := by
  refine zM_of pnX11 rfl (Nat.le_of_ble_eq_true rfl) rfl ?_
  have hS6 := hL.S6
  have hF12 := hL.F12
  have hE4 := hL.E4
  have hK3 := hL.K3
  refine z_aload_n dX11_levelOf_0 rfl ?_
  refine z_iload_n dX11_levelOf_1 rfl ?_
  refine z_iconst (v := 1) dX11_levelOf_2 (by decide) ?_
  refine z_V2 (mi' := mX11_ofFlood) dX11_levelOf_3 lX11_66 nX11_ofFlood kX11_ofFlood (by decide) (Nat.le_of_ble_eq_true rfl) (Nat.le_refl _) (Nat.le_refl _) (hM.1 _ (by decide)) rfl rfl ?_
  refine sX11_ofFlood hM (f := f) (w := 1) (by omega) ?_
  rw [show μ 1 (180 + 3 * f + 1) = _ from (hL.fd hf).2.1]
  refine z_aload_n dX11_levelOf_6 rfl ?_
  refine z_iload_n dX11_levelOf_7 rfl ?_
  refine z_iconst (v := 0) dX11_levelOf_8 (by decide) ?_
  refine z_V2 (mi' := mX11_of) dX11_levelOf_9 lX11_70 nX11_of kX11_of (by decide) (Nat.le_of_ble_eq_true rfl) (Nat.le_refl _) (Nat.le_refl _) (hM.1 _ (by decide)) rfl rfl ?_
  refine sX11_of hM (s := s) (w := 0) (by omega) ?_
  rw [show μ 1 (5 + 29 * s + 0) = _ from (hL.st hs).1]
  refine z_iconst (v := 5) dX11_levelOf_12 (by decide) ?_
  refine z_idiv dX11_levelOf_13 (by decide) ?_
  refine z_isub dX11_levelOf_14 ?_
  refine z_aload_n dX11_levelOf_15 rfl ?_
  refine z_iload_n dX11_levelOf_16 rfl ?_
  refine z_iconst (v := 1) dX11_levelOf_17 (by decide) ?_
  refine z_V2 (mi' := mX11_of) dX11_levelOf_18 lX11_70 nX11_of kX11_of (by decide) (Nat.le_of_ble_eq_true rfl) (Nat.le_refl _) (Nat.le_refl _) (hM.1 _ (by decide)) rfl rfl ?_
  refine sX11_of hM (s := s) (w := 1) (by omega) ?_
  rw [show μ 1 (5 + 29 * s + 1) = _ from (hL.st hs).2.1]
  refine z_isub dX11_levelOf_21 ?_
  exact z_ireturn (mi := mX11_levelOf) dX11_levelOf_22 rfl rfl (Nat.le_refl _) (Nat.le_refl _) (by rw [zlevel, ← z_ssub] at hP; exact hP)
set_option maxHeartbeats 4000000 in
set_option maxRecDepth 10000 in
theorem sX11_heightNow {Γ : zG} {d : Nat} {G : zH} {Post : zV} {am : Nat → Nat} {μ : zSt} (hM : zMod G am μ) {σ : zSt} {S F E K : Nat} {mm : Nat → Nat} {fl : Nat → Nat → Nat} (hL : zRel σ S F E K (μ 1) mm fl) {s f : Nat} (hs : s < S) (hf : f < F) (hP : Post (some (.int (zread σ E s f))) G) : zM Γ (d + 2) mX11_heightNow 0 0 [.ref (am 0), .int (nI s), .int (nI f)] G Post := by
  refine zM_of pnX11 rfl (Nat.le_of_ble_eq_true rfl) rfl ?_
  have hS6 := hL.S6
  have hF12 := hL.F12
  have hE4 := hL.E4
  have hK3 := hL.K3
  refine z_aload_n dX11_heightNow_0 rfl ?_
  refine z_iload_n dX11_heightNow_1 rfl ?_
  refine z_iload_n dX11_heightNow_2 rfl ?_
  refine z_V2 (mi' := mX11_levelOf) dX11_heightNow_3 lX11_73 nX11_levelOf kX11_levelOf (by decide) (Nat.le_of_ble_eq_true rfl) (Nat.le_refl _) (Nat.le_refl _) (hM.1 _ (by decide)) rfl rfl ?_
  refine sX11_levelOf hM hL hs hf ?_
  refine z_aload_n dX11_heightNow_6 rfl ?_
  refine z_iload_n dX11_heightNow_7 rfl ?_
  refine z_iconst (v := 3) dX11_heightNow_8 (by decide) ?_
  refine z_V2 (mi' := mX11_of) dX11_heightNow_9 lX11_70 nX11_of kX11_of (by decide) (Nat.le_of_ble_eq_true rfl) (Nat.le_refl _) (Nat.le_refl _) (hM.1 _ (by decide)) rfl rfl ?_
  refine sX11_of hM (s := s) (w := 3) (by omega) ?_
  rw [show μ 1 (5 + 29 * s + 3) = _ from (hL.st hs).2.2.2.1]
  refine z_iadd dX11_heightNow_12 ?_
  refine z_aload_n dX11_heightNow_13 rfl ?_
  refine z_aload_n dX11_heightNow_14 rfl ?_
  refine z_get dX11_heightNow_15 fX11_7.r (hM.1 _ (by decide)) rfl ?_
  refine z_iconst (v := 0) dX11_heightNow_18 (by decide) ?_
  refine z_iald dX11_heightNow_19 (hM.1 1 (by decide)) (show vp_in (nI 0) 229 from vp_in_nI (by decide) (by decide)) ?_
  rw [show μ 1 (Int32.toNatClampNeg 0) = σ 13 0 from hL.sc.1]
  refine z_V1 (mi' := mX11_shiftOf) dX11_heightNow_20 lX11_76 nX11_shiftOf kX11_shiftOf (by decide) (Nat.le_of_ble_eq_true rfl) (Nat.le_refl _) (Nat.le_refl _) (hM.1 _ (by decide)) rfl rfl ?_
  refine sX11_shiftOf hM hL ?_
  refine z_iadd dX11_heightNow_23 ?_
  exact z_ireturn (mi := mX11_heightNow) dX11_heightNow_24 rfl rfl (Nat.le_refl _) (Nat.le_refl _) (hP)
set_option maxHeartbeats 4000000 in
set_option maxRecDepth 10000 in
theorem sX11_trueOf {Γ : zG} {d : Nat} {G : zH} {Post : zV} {am : Nat → Nat} {μ : zSt} (hM : zMod G am μ) {σ : zSt} {S F E K : Nat} {mm : Nat → Nat} {fl : Nat → Nat → Nat} (hL : zRel σ S F E K (μ 1) mm fl) {s k : Nat} (hs : s < S) (hk : k < mm s) (hP : Post (some (.int (ztrue σ E s (fl s k)))) G) : zM Γ (d + 2) mX11_trueOf 0 0 [.ref (am 0), .int (nI s), .int (nI k)] G Post := by
  refine zM_of pnX11 rfl (Nat.le_of_ble_eq_true rfl) rfl ?_
  have hS6 := hL.S6
  have hF12 := hL.F12
  have hE4 := hL.E4
  have hK3 := hL.K3
  refine z_aload_n dX11_trueOf_0 rfl ?_
  refine z_iload_n dX11_trueOf_1 rfl ?_
  refine z_iload_n dX11_trueOf_2 rfl ?_
  refine z_iconst (v := 1) dX11_trueOf_3 (by decide) ?_
  refine z_V3 (mi' := mX11_ofMark) dX11_trueOf_4 lX11_80 nX11_ofMark kX11_ofMark (by decide) (Nat.le_of_ble_eq_true rfl) (Nat.le_refl _) (Nat.le_refl _) (hM.1 _ (by decide)) rfl rfl ?_
  refine sX11_ofMark hM (s := s) (k := k) (w := 1) (by have := hL.m6 hs; have := hk; omega) ?_
  rw [show μ 1 (5 + 29 * s + 5 + 4 * k + 1) = _ from (hL.mk hs hk).2.2.1]
  refine z_aload_n dX11_trueOf_7 rfl ?_
  refine z_aload_n dX11_trueOf_8 rfl ?_
  refine z_iload_n dX11_trueOf_9 rfl ?_
  refine z_iload_n dX11_trueOf_10 rfl ?_
  refine z_iconst (v := 3) dX11_trueOf_11 (by decide) ?_
  refine z_V3 (mi' := mX11_ofMark) dX11_trueOf_12 lX11_80 nX11_ofMark kX11_ofMark (by decide) (Nat.le_of_ble_eq_true rfl) (Nat.le_refl _) (Nat.le_refl _) (hM.1 _ (by decide)) rfl rfl ?_
  refine sX11_ofMark hM (s := s) (k := k) (w := 3) (by have := hL.m6 hs; have := hk; omega) ?_
  rw [show μ 1 (5 + 29 * s + 5 + 4 * k + 3) = _ from (hL.mk hs hk).2.2.2.2]
  refine z_V1 (mi' := mX11_shiftOf) dX11_trueOf_15 lX11_76 nX11_shiftOf kX11_shiftOf (by decide) (Nat.le_of_ble_eq_true rfl) (Nat.le_refl _) (Nat.le_refl _) (hM.1 _ (by decide)) rfl rfl ?_
  refine sX11_shiftOf hM hL ?_
  refine z_isub dX11_trueOf_18 ?_
  exact z_ireturn (mi := mX11_trueOf) dX11_trueOf_19 rfl rfl (Nat.le_refl _) (Nat.le_refl _) (hP)
set_option maxHeartbeats 4000000 in
set_option maxRecDepth 10000 in
theorem sX11_placeOf {Γ : zG} {d : Nat} {G : zH} {Post : zV} {am : Nat → Nat} {μ : zSt} (hM : zMod G am μ) {σ : zSt} {S F E K : Nat} {mm : Nat → Nat} {fl : Nat → Nat → Nat} (hL : zRel σ S F E K (μ 1) mm fl) {s f : Nat} (hs : s < S) (hf : f < 12) (hP : Post (some (.int (zfi (fun k => decide (fl s k = f)) (mm s)))) G) : zM Γ (d + 1) mX11_placeOf 0 0 [.ref (am 0), .int (nI s), .int (nI f)] G Post := by
  refine zM_of pnX11 rfl (Nat.le_of_ble_eq_true rfl) rfl ?_
  have hS6 := hL.S6
  have hF12 := hL.F12
  have hE4 := hL.E4
  have hK3 := hL.K3
  have hm6 := hL.m6 hs
  have key : ∀ (r : Nat) (i : Nat), i ≤ (mm s) → (mm s) < i + r → (∀ k, k < i → (fun k => decide (fl s k = f)) k = false) → zX Γ mX11_placeOf (d + 1) 0 0 2 [some (.ref (am 0)), some (.int (nI s)), some (.int (nI f)), some (.int (nI i))] [] G 0 0 (zlift Post) := by
    intro r
    induction r with
    | zero =>
      intro i hi1 hi2 hno
      exact absurd hi2 (by omega)
    | succ r ih =>
      intro i hi1 hi2 hno
      refine z_iload_n dX11_placeOf_2 rfl ?_
      refine z_aload_n dX11_placeOf_3 rfl ?_
      refine z_iload_n dX11_placeOf_4 rfl ?_
      refine z_iconst (v := 4) dX11_placeOf_5 (by decide) ?_
      refine z_V2 (mi' := mX11_of) dX11_placeOf_6 lX11_70 nX11_of kX11_of (by decide) (Nat.le_of_ble_eq_true rfl) (Nat.le_refl _) (Nat.le_refl _) (hM.1 _ (by decide)) rfl rfl ?_
      refine sX11_of hM (s := s) (w := 4) (by omega) ?_
      rw [show μ 1 (5 + 29 * s + 4) = _ from (hL.st hs).2.2.2.2.1]
      refine z_icmp_ge (tgt := 31) dX11_placeOf_9 (by decide) (fun c1 => ?_) (fun c1 => ?_)
      · have hi9 := zgeN (N := (mm s)) rfl (by omega) (by omega) c1
        refine z_iconst (v := (-1)) dX11_placeOf_31 (by decide) ?_
        exact z_ireturn (mi := mX11_placeOf) dX11_placeOf_32 rfl rfl (Nat.le_refl _) (Nat.le_refl _) (by rw [zfi_no (by rw [show (mm s) = i by omega]; exact hno)] at hP; exact hP)
      · have hi9 := zltN (N := (mm s)) rfl (by omega) (by omega) c1
        refine z_aload_n dX11_placeOf_12 rfl ?_
        refine z_iload_n dX11_placeOf_13 rfl ?_
        refine z_iload_n dX11_placeOf_14 rfl ?_
        refine z_iconst (v := 0) dX11_placeOf_15 (by decide) ?_
        refine z_V3 (mi' := mX11_ofMark) dX11_placeOf_16 lX11_80 nX11_ofMark kX11_ofMark (by decide) (Nat.le_of_ble_eq_true rfl) (Nat.le_refl _) (Nat.le_refl _) (hM.1 _ (by decide)) rfl rfl ?_
        refine sX11_ofMark hM (s := s) (k := i) (w := 0) (by have := hL.m6 hs; have := hi9; omega) ?_
        rw [show μ 1 (5 + 29 * s + 5 + 4 * i + 0) = _ from (hL.mk hs hi9).2.1]
        refine z_iload_n dX11_placeOf_19 rfl ?_
        refine z_icmp_ne (tgt := 25) dX11_placeOf_20 (by decide) (fun c2 => ?_) (fun c2 => ?_)
        · refine z_iinc dX11_placeOf_25 rfl rfl (by decide) rfl ?_
          refine z_goto (tgt := 2) dX11_placeOf_28 (by decide) ?_
          exact z_sub (lv' := [some (.ref (am 0)), some (.int (nI s)), some (.int (nI f)), some (.int (nI (i + 1)))]) ⟨rfl, rfl, rfl, zsl (zinc i), trivial⟩ (ih (i + 1) (by omega) (by omega) (zff_f hno (decide_eq_false (fun q => c2 (by rw [q])))))
        · refine z_iload_n dX11_placeOf_23 rfl ?_
          exact z_ireturn (mi := mX11_placeOf) dX11_placeOf_24 rfl rfl (Nat.le_refl _) (Nat.le_refl _) (by rw [zfi_yes hno (decide_eq_true (znI_inj (by have := (hL.mk hs hi9).1; omega) (by omega) c2)) hi9] at hP; exact hP)
  refine z_iconst (v := 0) dX11_placeOf_0 (by decide) ?_
  refine z_istore_n dX11_placeOf_1 (by decide) rfl ?_
  exact z_sub (lv' := [some (.ref (am 0)), some (.int (nI s)), some (.int (nI f)), some (.int (nI 0))]) ⟨rfl, rfl, rfl, rfl, trivial⟩ (key ((mm s) + 1) 0 (by omega) (by omega) (fun k hk => absurd hk (by omega)))
set_option maxHeartbeats 4000000 in
set_option maxRecDepth 10000 in
theorem sX11_placeAt {Γ : zG} {d : Nat} {G : zH} {Post : zV} {am : Nat → Nat} {μ : zSt} (hM : zMod G am μ) {σ : zSt} {S F E K : Nat} {mm : Nat → Nat} {fl : Nat → Nat → Nat} (hL : zRel σ S F E K (μ 1) mm fl) {s : Nat} {x : Int32} (hs : s < S) (hP : Post (some (.int (zfi (fun k => decide (σ 10 (12 * s + fl s k) = x)) (mm s)))) G) : zM Γ (d + 1) mX11_placeAt 0 0 [.ref (am 0), .int (nI s), .int x] G Post := by
  refine zM_of pnX11 rfl (Nat.le_of_ble_eq_true rfl) rfl ?_
  have hS6 := hL.S6
  have hF12 := hL.F12
  have hE4 := hL.E4
  have hK3 := hL.K3
  have hm6 := hL.m6 hs
  have key : ∀ (r : Nat) (i : Nat), i ≤ (mm s) → (mm s) < i + r → (∀ k, k < i → (fun k => decide (σ 10 (12 * s + fl s k) = x)) k = false) → zX Γ mX11_placeAt (d + 1) 0 0 2 [some (.ref (am 0)), some (.int (nI s)), some (.int x), some (.int (nI i))] [] G 0 0 (zlift Post) := by
    intro r
    induction r with
    | zero =>
      intro i hi1 hi2 hno
      exact absurd hi2 (by omega)
    | succ r ih =>
      intro i hi1 hi2 hno
      refine z_iload_n dX11_placeAt_2 rfl ?_
      refine z_aload_n dX11_placeAt_3 rfl ?_
      refine z_iload_n dX11_placeAt_4 rfl ?_
      refine z_iconst (v := 4) dX11_placeAt_5 (by decide) ?_
      refine z_V2 (mi' := mX11_of) dX11_placeAt_6 lX11_70 nX11_of kX11_of (by decide) (Nat.le_of_ble_eq_true rfl) (Nat.le_refl _) (Nat.le_refl _) (hM.1 _ (by decide)) rfl rfl ?_
      refine sX11_of hM (s := s) (w := 4) (by omega) ?_
      rw [show μ 1 (5 + 29 * s + 4) = _ from (hL.st hs).2.2.2.2.1]
      refine z_icmp_ge (tgt := 31) dX11_placeAt_9 (by decide) (fun c1 => ?_) (fun c1 => ?_)
      · have hi9 := zgeN (N := (mm s)) rfl (by omega) (by omega) c1
        refine z_iconst (v := (-1)) dX11_placeAt_31 (by decide) ?_
        exact z_ireturn (mi := mX11_placeAt) dX11_placeAt_32 rfl rfl (Nat.le_refl _) (Nat.le_refl _) (by rw [zfi_no (by rw [show (mm s) = i by omega]; exact hno)] at hP; exact hP)
      · have hi9 := zltN (N := (mm s)) rfl (by omega) (by omega) c1
        refine z_aload_n dX11_placeAt_12 rfl ?_
        refine z_iload_n dX11_placeAt_13 rfl ?_
        refine z_iload_n dX11_placeAt_14 rfl ?_
        refine z_iconst (v := 1) dX11_placeAt_15 (by decide) ?_
        refine z_V3 (mi' := mX11_ofMark) dX11_placeAt_16 lX11_80 nX11_ofMark kX11_ofMark (by decide) (Nat.le_of_ble_eq_true rfl) (Nat.le_refl _) (Nat.le_refl _) (hM.1 _ (by decide)) rfl rfl ?_
        refine sX11_ofMark hM (s := s) (k := i) (w := 1) (by have := hL.m6 hs; have := hi9; omega) ?_
        rw [show μ 1 (5 + 29 * s + 5 + 4 * i + 1) = _ from (hL.mk hs hi9).2.2.1]
        refine z_iload_n dX11_placeAt_19 rfl ?_
        refine z_icmp_ne (tgt := 25) dX11_placeAt_20 (by decide) (fun c2 => ?_) (fun c2 => ?_)
        · refine z_iinc dX11_placeAt_25 rfl rfl (by decide) rfl ?_
          refine z_goto (tgt := 2) dX11_placeAt_28 (by decide) ?_
          exact z_sub (lv' := [some (.ref (am 0)), some (.int (nI s)), some (.int x), some (.int (nI (i + 1)))]) ⟨rfl, rfl, rfl, zsl (zinc i), trivial⟩ (ih (i + 1) (by omega) (by omega) (zff_f hno (decide_eq_false (c2))))
        · refine z_iload_n dX11_placeAt_23 rfl ?_
          exact z_ireturn (mi := mX11_placeAt) dX11_placeAt_24 rfl rfl (Nat.le_refl _) (Nat.le_refl _) (by rw [zfi_yes hno (decide_eq_true (c2)) hi9] at hP; exact hP)
  refine z_iconst (v := 0) dX11_placeAt_0 (by decide) ?_
  refine z_istore_n dX11_placeAt_1 (by decide) rfl ?_
  exact z_sub (lv' := [some (.ref (am 0)), some (.int (nI s)), some (.int x), some (.int (nI 0))]) ⟨rfl, rfl, rfl, rfl, trivial⟩ (key ((mm s) + 1) 0 (by omega) (by omega) (fun k hk => absurd hk (by omega)))
set_option maxHeartbeats 4000000 in
set_option maxRecDepth 10000 in
theorem sX11_ofYear {Γ : zG} {d : Nat} {G : zH} {Post : zV} {am : Nat → Nat} {μ : zSt} (hM : zMod G am μ) {σ : zSt} {S F E K : Nat} {mm : Nat → Nat} {fl : Nat → Nat → Nat} (hL : zRel σ S F E K (μ 1) mm fl) {x : Int32} (hP : Post (some (.int (zfi (fun k => decide (σ 4 k = x)) F))) G) : zM Γ (d + 1) mX11_ofYear 0 0 [.ref (am 0), .int x] G Post := by
  refine zM_of pnX11 rfl (Nat.le_of_ble_eq_true rfl) rfl ?_
  have hS6 := hL.S6
  have hF12 := hL.F12
  have hE4 := hL.E4
  have hK3 := hL.K3
  have key : ∀ (r : Nat) (i : Nat), i ≤ F → F < i + r → (∀ k, k < i → (fun k => decide (σ 4 k = x)) k = false) → zX Γ mX11_ofYear (d + 1) 0 0 2 [some (.ref (am 0)), some (.int x), some (.int (nI i))] [] G 0 0 (zlift Post) := by
    intro r
    induction r with
    | zero =>
      intro i hi1 hi2 hno
      exact absurd hi2 (by omega)
    | succ r ih =>
      intro i hi1 hi2 hno
      refine z_iload_n dX11_ofYear_2 rfl ?_
      refine z_aload_n dX11_ofYear_3 rfl ?_
      refine z_get dX11_ofYear_4 fX11_7.r (hM.1 _ (by decide)) rfl ?_
      refine z_sipush (v := 179) dX11_ofYear_7 (by decide) ?_
      refine z_iald dX11_ofYear_10 (hM.1 1 (by decide)) (show vp_in (nI 179) 229 from vp_in_nI (by decide) (by decide)) ?_
      rw [show μ 1 (Int32.toNatClampNeg 179) = nI F from hL.sc.2.2.2.2.2.1]
      refine z_icmp_ge (tgt := 32) dX11_ofYear_11 (by decide) (fun c1 => ?_) (fun c1 => ?_)
      · have hi9 := zgeN (N := F) rfl (by omega) (by omega) c1
        refine z_iconst (v := (-1)) dX11_ofYear_32 (by decide) ?_
        exact z_ireturn (mi := mX11_ofYear) dX11_ofYear_33 rfl rfl (Nat.le_refl _) (Nat.le_refl _) (by rw [zfi_no (by rw [show F = i by omega]; exact hno)] at hP; exact hP)
      · have hi9 := zltN (N := F) rfl (by omega) (by omega) c1
        refine z_aload_n dX11_ofYear_14 rfl ?_
        refine z_iload_n dX11_ofYear_15 rfl ?_
        refine z_iconst (v := 0) dX11_ofYear_16 (by decide) ?_
        refine z_V2 (mi' := mX11_ofFlood) dX11_ofYear_17 lX11_66 nX11_ofFlood kX11_ofFlood (by decide) (Nat.le_of_ble_eq_true rfl) (Nat.le_refl _) (Nat.le_refl _) (hM.1 _ (by decide)) rfl rfl ?_
        refine sX11_ofFlood hM (f := i) (w := 0) (by omega) ?_
        rw [show μ 1 (180 + 3 * i + 0) = _ from (hL.fd hi9).1]
        refine z_iload_n dX11_ofYear_20 rfl ?_
        refine z_icmp_ne (tgt := 26) dX11_ofYear_21 (by decide) (fun c2 => ?_) (fun c2 => ?_)
        · refine z_iinc dX11_ofYear_26 rfl rfl (by decide) rfl ?_
          refine z_goto (tgt := 2) dX11_ofYear_29 (by decide) ?_
          exact z_sub (lv' := [some (.ref (am 0)), some (.int x), some (.int (nI (i + 1)))]) ⟨rfl, rfl, zsl (zinc i), trivial⟩ (ih (i + 1) (by omega) (by omega) (zff_f hno (decide_eq_false (c2))))
        · refine z_iload_n dX11_ofYear_24 rfl ?_
          exact z_ireturn (mi := mX11_ofYear) dX11_ofYear_25 rfl rfl (Nat.le_refl _) (Nat.le_refl _) (by rw [zfi_yes hno (decide_eq_true (c2)) hi9] at hP; exact hP)
  refine z_iconst (v := 0) dX11_ofYear_0 (by decide) ?_
  refine z_istore_n dX11_ofYear_1 (by decide) rfl ?_
  exact z_sub (lv' := [some (.ref (am 0)), some (.int x), some (.int (nI 0))]) ⟨rfl, rfl, rfl, trivial⟩ (key (F + 1) 0 (by omega) (by omega) (fun k hk => absurd hk (by omega)))
