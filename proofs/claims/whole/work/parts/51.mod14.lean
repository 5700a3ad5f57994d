/-- the reader stands at p -/
def zAt (ν : zSt) (c : Nat → Int32) (n p : Nat) : Prop := ν 0 13 = nI n ∧ n ≤ 60 ∧ ν 0 17 = nI p ∧ p ≤ n ∧ ν 5 = c
/-- only the reader's place and what is told have changed -/
def zSm (μ ν : zSt) : Prop := (∀ r, r ≠ 0 → r ≠ 7 → ν r = μ r) ∧ (∀ j, j ≠ 17 → j ≠ 19 → ν 0 j = μ 0 j)
theorem zSm.rf {μ : zSt} : zSm μ μ := ⟨fun _ _ _ => rfl, fun _ _ _ => rfl⟩
theorem zSm.tr {μ ν ξ : zSt} (h : zSm μ ν) (h2 : zSm ν ξ) : zSm μ ξ := ⟨fun r a b => (h2.1 r a b).trans (h.1 r a b), fun j a b => (h2.2 j a b).trans (h.2 j a b)⟩
theorem zSm.p {ν : zSt} (x : Int32) : zSm ν (zu ν 0 17 x) := ⟨fun r a _ => zu_r a, fun j a _ => zu_j a⟩
theorem zSm.m {ν : zSt} (x : Int32) : zSm ν (zu ν 0 19 x) := ⟨fun r a _ => zu_r a, fun j _ a => zu_j a⟩
theorem zSm.t {ν : zSt} (j : Nat) (x : Int32) : zSm ν (zu ν 7 j x) := ⟨fun r _ a => zu_r a, fun j _ _ => by rw [zu_r (show (0 : Nat) ≠ 7 by decide)]⟩
theorem zAt.p {ν : zSt} {c : Nat → Int32} {n p q : Nat} (h : zAt ν c n p) (hq : q ≤ n) : zAt (zu ν 0 17 (nI q)) c n q := ⟨by rw [zu_j (by decide)]; exact h.1, h.2.1, zu_s _ _ _ _, hq, by rw [zu_r (by decide)]; exact h.2.2.2.2⟩
theorem zAt.m {ν : zSt} {c : Nat → Int32} {n p : Nat} (h : zAt ν c n p) (x : Int32) : zAt (zu ν 0 19 x) c n p := ⟨by rw [zu_j (by decide)]; exact h.1, h.2.1, by rw [zu_j (by decide)]; exact h.2.2.1, h.2.2.2.1, by rw [zu_r (by decide)]; exact h.2.2.2.2⟩
theorem zAt.t {ν : zSt} {c : Nat → Int32} {n p : Nat} (h : zAt ν c n p) (j : Nat) (x : Int32) : zAt (zu ν 7 j x) c n p := ⟨by rw [zu_r (by decide)]; exact h.1, h.2.1, by rw [zu_r (by decide)]; exact h.2.2.1, h.2.2.2.1, by rw [zu_r (by decide)]; exact h.2.2.2.2⟩
theorem zv1 (x : Int32) : 10 * 0 + x - 48 = x - 48 := by grind
theorem zv2 (x y : Int32) : 10 * (x - 48) + y - 48 = 10 * (x - 48) + (y - 48) := by grind
set_option maxHeartbeats 4000000 in
set_option maxRecDepth 10000 in
theorem sX11_here {Γ : zG} {d : Nat} {G : zH} {Post : zV} {am : Nat → Nat} {μ : zSt} (hM : zMod G am μ) {c : Nat → Int32} {n p : Nat} (hA : zAt μ c n p) (hP : Post (some (.int (zhere c n p))) G) : zM Γ d mX11_here 0 0 [.ref (am 0)] G Post := by
  refine zM_of pnX11 rfl (Nat.le_of_ble_eq_true rfl) rfl ?_
  obtain ⟨a1, a2, a3, a4, a5⟩ := hA
  refine z_aload_n dX11_here_0 rfl ?_
  refine z_get dX11_here_1 fX11_180.r (hM.1 _ (by decide)) rfl ?_
  refine z_aload_n dX11_here_4 rfl ?_
  refine z_get dX11_here_5 fX11_177.r (hM.1 _ (by decide)) rfl ?_
  rw [a1, a3]
  refine z_icmp_ge (tgt := 23) dX11_here_8 (by decide) (fun c1 => ?_) (fun c1 => ?_)
  · have h1 : ¬ p < n := fun q => by have := (nI_leI (by omega) (by omega)).mp c1; omega
    refine z_iconst (v := (-1)) dX11_here_23 (by decide) ?_
    exact z_ireturn (mi := mX11_here) dX11_here_24 rfl rfl (Nat.le_refl _) (Nat.le_refl _) (by rw [zhere, if_neg h1] at hP; exact hP)
  · have h1 : p < n := Nat.lt_of_not_le fun q => c1 ((nI_leI (by omega) (by omega)).mpr q)
    refine z_aload_n dX11_here_11 rfl ?_
    refine z_get dX11_here_12 fX11_22.r (hM.1 _ (by decide)) rfl ?_
    refine z_aload_n dX11_here_15 rfl ?_
    refine z_get dX11_here_16 fX11_180.r (hM.1 _ (by decide)) rfl ?_
    rw [a3]
    refine z_iald dX11_here_19 (hM.1 5 (by decide)) (vp_in_nI (show p < 60 by omega) (by decide)) ?_
    rw [nI_clamp (show p < 2147483648 by omega), a5]
    refine z_goto (tgt := 24) dX11_here_20 (by decide) ?_
    exact z_ireturn (mi := mX11_here) dX11_here_24 rfl rfl (Nat.le_refl _) (Nat.le_refl _) (by rw [zhere, if_pos h1] at hP; exact hP)
set_option maxHeartbeats 4000000 in
set_option maxRecDepth 10000 in
theorem sX11_skips {Γ : zG} {d : Nat} {G : zH} {Post : zV} {am : Nat → Nat} {μ : zSt} (hM : zMod G am μ) {c : Nat → Int32} {n p : Nat} (hA : zAt μ c n p) {x : Int32} (hx : x ≠ -1) (hN : zlit c n p x = false → Post (some (.int 0)) G) (hS : zlit c n p x = true → ∀ G1 ν, zMod G1 am ν → zFrm G G1 am 8 → zAt ν c n (p + 1) → zSm μ ν → ν 7 = μ 7 → ν 0 19 = μ 0 19 → Post (some (.int 1)) G1) : zM Γ (d + 1) mX11_skips 0 0 [.ref (am 0), .int x] G Post := by
  refine zM_of pnX11 rfl (Nat.le_of_ble_eq_true rfl) rfl ?_
  have hQ : zFrm G G am 8 := zFrm.rf
  refine z_aload_n dX11_skips_0 rfl ?_
  refine z_V0 (mi' := mX11_here) dX11_skips_1 lX11_183 nX11_here kX11_here (by decide) (Nat.le_of_ble_eq_true rfl) (Nat.le_refl _) (Nat.le_refl _) (hM.1 _ (by decide)) rfl rfl ?_
  refine sX11_here hM hA ?_
  refine z_iload_n dX11_skips_4 rfl ?_
  refine z_icmp_eq (tgt := 10) dX11_skips_5 (by decide) (fun c1 => ?_) (fun c1 => ?_)
  · have hz := (zhere_l hx).mp c1
    have hz1 := zlit_t hz
    refine z_aload_n dX11_skips_10 rfl ?_
    refine z_dup dX11_skips_11 rfl ?_
    refine z_get dX11_skips_12 fX11_180.r (hM.1 _ (by decide)) rfl ?_
    refine z_iconst (v := 1) dX11_skips_15 (by decide) ?_
    rw [hA.2.2.1]
    refine z_iadd dX11_skips_16 ?_
    rw [nI_1]
    refine z_put dX11_skips_17 fX11_180 (hM.1 _ (by decide)) rfl rfl (Nat.le_of_ble_eq_true rfl) ?_
    refine z_mset hM 0 17 (nI (p + 1)) (by decide) rfl (fun _ hM hF => ?_)
    have hQ := hQ.tr hF
    refine z_iconst (v := 1) dX11_skips_20 (by decide) ?_
    exact z_ireturn (mi := mX11_skips) dX11_skips_21 rfl rfl (Nat.le_refl _) (Nat.le_refl _) (hS hz _ _ hM hQ (hA.p (by omega)) (zSm.p _) (zu_r (by decide)) (zu_j (by decide)))
  · have hz : zlit c n p x = false := zbf (fun q => c1 ((zhere_l hx).mpr q))
    refine z_iconst (v := 0) dX11_skips_8 (by decide) ?_
    exact z_ireturn (mi := mX11_skips) dX11_skips_9 rfl rfl (Nat.le_refl _) (Nat.le_refl _) (hN hz)
set_option maxHeartbeats 4000000 in
set_option maxRecDepth 10000 in
theorem sX11_number_1 {Γ : zG} {d : Nat} {G : zH} {Post : zV} {am : Nat → Nat} {μ : zSt} (hM : zMod G am μ) {c : Nat → Int32} {n p : Nat} (hA : zAt μ c n p) {pl : Nat} (hpl : pl < 124) (hN : znum c n false p = none → Post (some (.int 0)) G) (hS : ∀ v q, znum c n false p = some (v, q) → ∀ G1 ν, zMod G1 am ν → zFrm G G1 am 8 → zAt ν c n q → zSm μ ν → ν 7 pl = v → (∀ j, j ≠ pl → ν 7 j = μ 7 j) → ν 0 19 = μ 0 19 → Post (some (.int 1)) G1) : zM Γ (d + 1) mX11_number 0 0 [.ref (am 0), .int (nI pl), .int 1] G Post := by
  refine zM_of pnX11 rfl (Nat.le_of_ble_eq_true rfl) rfl ?_
  have hn60 := hA.2.1
  have hQ : zFrm G G am 8 := zFrm.rf
  refine z_aload_n dX11_number_0 rfl ?_
  refine z_V0 (mi' := mX11_here) dX11_number_1 lX11_183 nX11_here kX11_here (by decide) (Nat.le_of_ble_eq_true rfl) (Nat.le_refl _) (Nat.le_refl _) (hM.1 _ (by decide)) rfl rfl ?_
  refine sX11_here hM hA ?_
  refine z_bipush (v := 48) dX11_number_4 (by decide) ?_
  refine z_bipush (v := 57) dX11_number_6 (by decide) ?_
  refine z_S3 (mi' := mX11_in) dX11_number_8 lX11_62 nX11_in kX11_in (by decide) (Nat.le_of_ble_eq_true rfl) (Nat.le_refl _) (Nat.le_refl _) ?_
  refine sX11_in ?_
  refine z_if_ne (tgt := 16) dX11_number_11 (by decide) (fun c1 => ?_) (fun c1 => ?_)
  · have hz : zisd c n p = true := zisd_h.mp (zb_n.mp c1)
    have hz1 := (zisd_t hz).1
    refine z_aload_n dX11_number_16 rfl ?_
    refine z_get dX11_number_17 fX11_33.r (hM.1 _ (by decide)) rfl ?_
    refine z_iload_n dX11_number_20 rfl ?_
    refine z_iconst (v := 0) dX11_number_21 (by decide) ?_
    refine z_iast dX11_number_22 (hM.1 7 (by decide)) (vp_in_nI (show pl < 124 by omega) (by decide)) ?_
    rw [nI_clamp (show pl < 2147483648 by omega)]
    refine z_mset hM 7 pl (0) (by decide) (by simp only [zmE, zu_row]) (fun _ hM hF => ?_)
    have hQ := hQ.tr hF
    refine z_iconst (v := 0) dX11_number_23 (by decide) ?_
    refine z_istore_n dX11_number_24 (by decide) rfl ?_
    refine z_iload_n dX11_number_25 rfl ?_
    refine z_iload_n dX11_number_26 rfl ?_
    refine z_icmp_ge (tgt := 83) dX11_number_27 (by decide) (fun c2 => ?_) (fun c2 => ?_)
    · exact absurd c2 (by decide)
    · refine z_aload_n dX11_number_30 rfl ?_
      refine z_V0 (mi' := mX11_here) dX11_number_31 lX11_183 nX11_here kX11_here (by decide) (Nat.le_of_ble_eq_true rfl) (Nat.le_refl _) (Nat.le_refl _) (hM.1 _ (by decide)) rfl rfl ?_
      refine sX11_here hM (hA.t pl 0) ?_
      refine z_bipush (v := 48) dX11_number_34 (by decide) ?_
      refine z_bipush (v := 57) dX11_number_36 (by decide) ?_
      refine z_S3 (mi' := mX11_in) dX11_number_38 lX11_62 nX11_in kX11_in (by decide) (Nat.le_of_ble_eq_true rfl) (Nat.le_refl _) (Nat.le_refl _) ?_
      refine sX11_in ?_
      refine z_if_eq (tgt := 83) dX11_number_41 (by decide) (fun c3 => ?_) (fun c3 => ?_)
      · exact absurd (zisd_h.mpr hz) (zb_0.mp c3)
      · refine z_aload_n dX11_number_44 rfl ?_
        refine z_get dX11_number_45 fX11_33.r (hM.1 _ (by decide)) rfl ?_
        refine z_iload_n dX11_number_48 rfl ?_
        refine z_bipush (v := 10) dX11_number_49 (by decide) ?_
        refine z_aload_n dX11_number_51 rfl ?_
        refine z_get dX11_number_52 fX11_33.r (hM.1 _ (by decide)) rfl ?_
        refine z_iload_n dX11_number_55 rfl ?_
        refine z_iald dX11_number_56 (hM.1 7 (by decide)) (vp_in_nI (show pl < 124 by omega) (by decide)) ?_
        rw [nI_clamp (show pl < 2147483648 by omega), zu_s]
        refine z_imul dX11_number_57 ?_
        refine z_aload_n dX11_number_58 rfl ?_
        refine z_V0 (mi' := mX11_here) dX11_number_59 lX11_183 nX11_here kX11_here (by decide) (Nat.le_of_ble_eq_true rfl) (Nat.le_refl _) (Nat.le_refl _) (hM.1 _ (by decide)) rfl rfl ?_
        refine sX11_here hM (hA.t pl 0) ?_
        rw [zhere, if_pos (show p < n by omega)]
        refine z_iadd dX11_number_62 ?_
        refine z_bipush (v := 48) dX11_number_63 (by decide) ?_
        refine z_isub dX11_number_65 ?_
        rw [zv1]
        refine z_iast dX11_number_66 (hM.1 7 (by decide)) (vp_in_nI (show pl < 124 by omega) (by decide)) ?_
        rw [nI_clamp (show pl < 2147483648 by omega)]
        refine z_mset hM 7 pl (c p - 48) (by decide) (by simp only [zmE, zu_row]) (fun _ hM hF => ?_)
        have hQ := hQ.tr hF
        refine z_aload_n dX11_number_67 rfl ?_
        refine z_dup dX11_number_68 rfl ?_
        refine z_get dX11_number_69 fX11_180.r (hM.1 _ (by decide)) rfl ?_
        refine z_iconst (v := 1) dX11_number_72 (by decide) ?_
        rw [show zu (zu μ 7 pl 0) 7 pl (c p - 48) 0 17 = nI (p) from hA.2.2.1]
        refine z_iadd dX11_number_73 ?_
        rw [nI_1]
        refine z_put dX11_number_74 fX11_180 (hM.1 _ (by decide)) rfl rfl (Nat.le_of_ble_eq_true rfl) ?_
        refine z_mset hM 0 17 (nI (p + 1)) (by decide) rfl (fun _ hM hF => ?_)
        have hQ := hQ.tr hF
        refine z_iinc dX11_number_77 rfl rfl (by decide) rfl ?_
        refine z_goto (tgt := 25) dX11_number_80 (by decide) ?_
        refine z_iload_n dX11_number_25 rfl ?_
        refine z_iload_n dX11_number_26 rfl ?_
        refine z_icmp_ge (tgt := 83) dX11_number_27 (by decide) (fun c4 => ?_) (fun c4 => ?_)
        · refine z_iconst (v := 1) dX11_number_83 (by decide) ?_
          exact z_ireturn (mi := mX11_number) dX11_number_84 rfl rfl (Nat.le_refl _) (Nat.le_refl _) (hS _ _ (znum_1 hz) _ _ hM hQ (((hA.t pl 0).t pl (c p - 48)).p (q := p + 1) (by omega)) (((zSm.t pl 0).tr (zSm.t pl (c p - 48))).tr (zSm.p (nI (p + 1)))) (by rw [zu_r (show (7 : Nat) ≠ 0 by decide), zu_s]) (fun j hj => by rw [zu_r (show (7 : Nat) ≠ 0 by decide), zu_j hj, zu_j hj]) rfl)
        · exact absurd (by decide) c4
  · have hz : zisd c n p = false := zbf (fun q => zb_0.mp c1 (zisd_h.mpr q))
    refine z_iconst (v := 0) dX11_number_14 (by decide) ?_
    exact z_ireturn (mi := mX11_number) dX11_number_15 rfl rfl (Nat.le_refl _) (Nat.le_refl _) (hN (znum_n hz false))
set_option maxHeartbeats 4000000 in
set_option maxRecDepth 10000 in
theorem sX11_number_2 {Γ : zG} {d : Nat} {G : zH} {Post : zV} {am : Nat → Nat} {μ : zSt} (hM : zMod G am μ) {c : Nat → Int32} {n p : Nat} (hA : zAt μ c n p) {pl : Nat} (hpl : pl < 124) (hN : znum c n true p = none → Post (some (.int 0)) G) (hS : ∀ v q, znum c n true p = some (v, q) → ∀ G1 ν, zMod G1 am ν → zFrm G G1 am 8 → zAt ν c n q → zSm μ ν → ν 7 pl = v → (∀ j, j ≠ pl → ν 7 j = μ 7 j) → ν 0 19 = μ 0 19 → Post (some (.int 1)) G1) : zM Γ (d + 1) mX11_number 0 0 [.ref (am 0), .int (nI pl), .int 2] G Post := by
  refine zM_of pnX11 rfl (Nat.le_of_ble_eq_true rfl) rfl ?_
  have hn60 := hA.2.1
  have hQ : zFrm G G am 8 := zFrm.rf
  refine z_aload_n dX11_number_0 rfl ?_
  refine z_V0 (mi' := mX11_here) dX11_number_1 lX11_183 nX11_here kX11_here (by decide) (Nat.le_of_ble_eq_true rfl) (Nat.le_refl _) (Nat.le_refl _) (hM.1 _ (by decide)) rfl rfl ?_
  refine sX11_here hM hA ?_
  refine z_bipush (v := 48) dX11_number_4 (by decide) ?_
  refine z_bipush (v := 57) dX11_number_6 (by decide) ?_
  refine z_S3 (mi' := mX11_in) dX11_number_8 lX11_62 nX11_in kX11_in (by decide) (Nat.le_of_ble_eq_true rfl) (Nat.le_refl _) (Nat.le_refl _) ?_
  refine sX11_in ?_
  refine z_if_ne (tgt := 16) dX11_number_11 (by decide) (fun c1 => ?_) (fun c1 => ?_)
  · have hz : zisd c n p = true := zisd_h.mp (zb_n.mp c1)
    have hz1 := (zisd_t hz).1
    refine z_aload_n dX11_number_16 rfl ?_
    refine z_get dX11_number_17 fX11_33.r (hM.1 _ (by decide)) rfl ?_
    refine z_iload_n dX11_number_20 rfl ?_
    refine z_iconst (v := 0) dX11_number_21 (by decide) ?_
    refine z_iast dX11_number_22 (hM.1 7 (by decide)) (vp_in_nI (show pl < 124 by omega) (by decide)) ?_
    rw [nI_clamp (show pl < 2147483648 by omega)]
    refine z_mset hM 7 pl (0) (by decide) (by simp only [zmE, zu_row]) (fun _ hM hF => ?_)
    have hQ := hQ.tr hF
    refine z_iconst (v := 0) dX11_number_23 (by decide) ?_
    refine z_istore_n dX11_number_24 (by decide) rfl ?_
    refine z_iload_n dX11_number_25 rfl ?_
    refine z_iload_n dX11_number_26 rfl ?_
    refine z_icmp_ge (tgt := 83) dX11_number_27 (by decide) (fun c2 => ?_) (fun c2 => ?_)
    · exact absurd c2 (by decide)
    · refine z_aload_n dX11_number_30 rfl ?_
      refine z_V0 (mi' := mX11_here) dX11_number_31 lX11_183 nX11_here kX11_here (by decide) (Nat.le_of_ble_eq_true rfl) (Nat.le_refl _) (Nat.le_refl _) (hM.1 _ (by decide)) rfl rfl ?_
      refine sX11_here hM (hA.t pl 0) ?_
      refine z_bipush (v := 48) dX11_number_34 (by decide) ?_
      refine z_bipush (v := 57) dX11_number_36 (by decide) ?_
      refine z_S3 (mi' := mX11_in) dX11_number_38 lX11_62 nX11_in kX11_in (by decide) (Nat.le_of_ble_eq_true rfl) (Nat.le_refl _) (Nat.le_refl _) ?_
      refine sX11_in ?_
      refine z_if_eq (tgt := 83) dX11_number_41 (by decide) (fun c3 => ?_) (fun c3 => ?_)
      · exact absurd (zisd_h.mpr hz) (zb_0.mp c3)
      · refine z_aload_n dX11_number_44 rfl ?_
        refine z_get dX11_number_45 fX11_33.r (hM.1 _ (by decide)) rfl ?_
        refine z_iload_n dX11_number_48 rfl ?_
        refine z_bipush (v := 10) dX11_number_49 (by decide) ?_
        refine z_aload_n dX11_number_51 rfl ?_
        refine z_get dX11_number_52 fX11_33.r (hM.1 _ (by decide)) rfl ?_
        refine z_iload_n dX11_number_55 rfl ?_
        refine z_iald dX11_number_56 (hM.1 7 (by decide)) (vp_in_nI (show pl < 124 by omega) (by decide)) ?_
        rw [nI_clamp (show pl < 2147483648 by omega), zu_s]
        refine z_imul dX11_number_57 ?_
        refine z_aload_n dX11_number_58 rfl ?_
        refine z_V0 (mi' := mX11_here) dX11_number_59 lX11_183 nX11_here kX11_here (by decide) (Nat.le_of_ble_eq_true rfl) (Nat.le_refl _) (Nat.le_refl _) (hM.1 _ (by decide)) rfl rfl ?_
        refine sX11_here hM (hA.t pl 0) ?_
        rw [zhere, if_pos (show p < n by omega)]
        refine z_iadd dX11_number_62 ?_
        refine z_bipush (v := 48) dX11_number_63 (by decide) ?_
        refine z_isub dX11_number_65 ?_
        rw [zv1]
        refine z_iast dX11_number_66 (hM.1 7 (by decide)) (vp_in_nI (show pl < 124 by omega) (by decide)) ?_
        rw [nI_clamp (show pl < 2147483648 by omega)]
        refine z_mset hM 7 pl (c p - 48) (by decide) (by simp only [zmE, zu_row]) (fun _ hM hF => ?_)
        have hQ := hQ.tr hF
        refine z_aload_n dX11_number_67 rfl ?_
        refine z_dup dX11_number_68 rfl ?_
        refine z_get dX11_number_69 fX11_180.r (hM.1 _ (by decide)) rfl ?_
        refine z_iconst (v := 1) dX11_number_72 (by decide) ?_
        rw [show zu (zu μ 7 pl 0) 7 pl (c p - 48) 0 17 = nI (p) from hA.2.2.1]
        refine z_iadd dX11_number_73 ?_
        rw [nI_1]
        refine z_put dX11_number_74 fX11_180 (hM.1 _ (by decide)) rfl rfl (Nat.le_of_ble_eq_true rfl) ?_
        refine z_mset hM 0 17 (nI (p + 1)) (by decide) rfl (fun _ hM hF => ?_)
        have hQ := hQ.tr hF
        refine z_iinc dX11_number_77 rfl rfl (by decide) rfl ?_
        refine z_goto (tgt := 25) dX11_number_80 (by decide) ?_
        refine z_iload_n dX11_number_25 rfl ?_
        refine z_iload_n dX11_number_26 rfl ?_
        refine z_icmp_ge (tgt := 83) dX11_number_27 (by decide) (fun c4 => ?_) (fun c4 => ?_)
        · exact absurd c4 (by decide)
        · refine z_aload_n dX11_number_30 rfl ?_
          refine z_V0 (mi' := mX11_here) dX11_number_31 lX11_183 nX11_here kX11_here (by decide) (Nat.le_of_ble_eq_true rfl) (Nat.le_refl _) (Nat.le_refl _) (hM.1 _ (by decide)) rfl rfl ?_
          refine sX11_here hM (((hA.t pl 0).t pl (c p - 48)).p (q := p + 1) (by omega)) ?_
          refine z_bipush (v := 48) dX11_number_34 (by decide) ?_
          refine z_bipush (v := 57) dX11_number_36 (by decide) ?_
          refine z_S3 (mi' := mX11_in) dX11_number_38 lX11_62 nX11_in kX11_in (by decide) (Nat.le_of_ble_eq_true rfl) (Nat.le_refl _) (Nat.le_refl _) ?_
          refine sX11_in ?_
          refine z_if_eq (tgt := 83) dX11_number_41 (by decide) (fun c5 => ?_) (fun c5 => ?_)
          · have hy : zisd c n (p + 1) = false := zbf (fun q => zb_0.mp c5 (zisd_h.mpr q))
            refine z_iconst (v := 1) dX11_number_83 (by decide) ?_
            exact z_ireturn (mi := mX11_number) dX11_number_84 rfl rfl (Nat.le_refl _) (Nat.le_refl _) (hS _ _ (znum_3 hz hy) _ _ hM hQ (((hA.t pl 0).t pl (c p - 48)).p (q := p + 1) (by omega)) (((zSm.t pl 0).tr (zSm.t pl (c p - 48))).tr (zSm.p (nI (p + 1)))) (by rw [zu_r (show (7 : Nat) ≠ 0 by decide), zu_s]) (fun j hj => by rw [zu_r (show (7 : Nat) ≠ 0 by decide), zu_j hj, zu_j hj]) rfl)
          · have hy : zisd c n (p + 1) = true := zisd_h.mp (zb_n.mp c5)
            have hy1 := (zisd_t hy).1
            refine z_aload_n dX11_number_44 rfl ?_
            refine z_get dX11_number_45 fX11_33.r (hM.1 _ (by decide)) rfl ?_
            refine z_iload_n dX11_number_48 rfl ?_
            refine z_bipush (v := 10) dX11_number_49 (by decide) ?_
            refine z_aload_n dX11_number_51 rfl ?_
            refine z_get dX11_number_52 fX11_33.r (hM.1 _ (by decide)) rfl ?_
            refine z_iload_n dX11_number_55 rfl ?_
            refine z_iald dX11_number_56 (hM.1 7 (by decide)) (vp_in_nI (show pl < 124 by omega) (by decide)) ?_
            rw [nI_clamp (show pl < 2147483648 by omega), zu_r (show (7 : Nat) ≠ 0 by decide), zu_s]
            refine z_imul dX11_number_57 ?_
            refine z_aload_n dX11_number_58 rfl ?_
            refine z_V0 (mi' := mX11_here) dX11_number_59 lX11_183 nX11_here kX11_here (by decide) (Nat.le_of_ble_eq_true rfl) (Nat.le_refl _) (Nat.le_refl _) (hM.1 _ (by decide)) rfl rfl ?_
            refine sX11_here hM (((hA.t pl 0).t pl (c p - 48)).p (q := p + 1) (by omega)) ?_
            rw [zhere, if_pos (show p + 1 < n by omega)]
            refine z_iadd dX11_number_62 ?_
            refine z_bipush (v := 48) dX11_number_63 (by decide) ?_
            refine z_isub dX11_number_65 ?_
            rw [zv2]
            refine z_iast dX11_number_66 (hM.1 7 (by decide)) (vp_in_nI (show pl < 124 by omega) (by decide)) ?_
            rw [nI_clamp (show pl < 2147483648 by omega)]
            refine z_mset hM 7 pl (10 * (c p - 48) + (c (p + 1) - 48)) (by decide) (by simp only [zmE, zu_row]) (fun _ hM hF => ?_)
            have hQ := hQ.tr hF
            refine z_aload_n dX11_number_67 rfl ?_
            refine z_dup dX11_number_68 rfl ?_
            refine z_get dX11_number_69 fX11_180.r (hM.1 _ (by decide)) rfl ?_
            refine z_iconst (v := 1) dX11_number_72 (by decide) ?_
            rw [show zu (zu (zu (zu μ 7 pl 0) 7 pl (c p - 48)) 0 17 (nI (p + 1))) 7 pl (10 * (c p - 48) + (c (p + 1) - 48)) 0 17 = nI (p + 1) from rfl]
            refine z_iadd dX11_number_73 ?_
            rw [nI_1]
            refine z_put dX11_number_74 fX11_180 (hM.1 _ (by decide)) rfl rfl (Nat.le_of_ble_eq_true rfl) ?_
            refine z_mset hM 0 17 (nI (p + 2)) (by decide) rfl (fun _ hM hF => ?_)
            have hQ := hQ.tr hF
            refine z_iinc dX11_number_77 rfl rfl (by decide) rfl ?_
            refine z_goto (tgt := 25) dX11_number_80 (by decide) ?_
            refine z_iload_n dX11_number_25 rfl ?_
            refine z_iload_n dX11_number_26 rfl ?_
            refine z_icmp_ge (tgt := 83) dX11_number_27 (by decide) (fun c6 => ?_) (fun c6 => ?_)
            · refine z_iconst (v := 1) dX11_number_83 (by decide) ?_
              exact z_ireturn (mi := mX11_number) dX11_number_84 rfl rfl (Nat.le_refl _) (Nat.le_refl _) (hS _ _ (znum_2 hz hy) _ _ hM hQ (((((hA.t pl 0).t pl (c p - 48)).p (q := p + 1) (by omega)).t pl (10 * (c p - 48) + (c (p + 1) - 48))).p (q := p + 2) (by omega)) (((((zSm.t pl 0).tr (zSm.t pl (c p - 48))).tr (zSm.p (nI (p + 1)))).tr (zSm.t pl (10 * (c p - 48) + (c (p + 1) - 48)))).tr (zSm.p (nI (p + 2)))) (by rw [zu_r (show (7 : Nat) ≠ 0 by decide), zu_s]) (fun j hj => by rw [zu_r (show (7 : Nat) ≠ 0 by decide), zu_j hj, zu_r (show (7 : Nat) ≠ 0 by decide), zu_j hj, zu_j hj]) rfl)
            · exact absurd (by decide) c6
  · have hz : zisd c n p = false := zbf (fun q => zb_0.mp c1 (zisd_h.mpr q))
    refine z_iconst (v := 0) dX11_number_14 (by decide) ?_
    exact z_ireturn (mi := mX11_number) dX11_number_15 rfl rfl (Nat.le_refl _) (Nat.le_refl _) (hN (znum_n hz true))
