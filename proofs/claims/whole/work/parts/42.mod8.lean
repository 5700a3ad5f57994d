def zml (r : Nat) : Nat := if r = 2 then 1832 else 229
theorem zml_lt (r : Nat) : zml r < 2147483648 := by unfold zml; split <;> decide
theorem zmE_arr {am : Nat → Nat} {μ : zSt} {r : Nat} (h1 : 1 ≤ r) (h4 : r ≤ 4) : zmE am μ r = .inl (.int, (zml r, .inl (μ r))) := by
  rcases (by omega : r = 1 ∨ r = 2 ∨ r = 3 ∨ r = 4) with rfl | rfl | rfl | rfl <;> rfl
/-- n cells of a row laid upon another, from q on; a row moved up by one block -/
def zcy (f g : Nat → Int32) (q p n : Nat) : Nat → Int32 := fun j => if q ≤ j ∧ j < q + n then g (p + (j - q)) else f j
def zsf (f : Nat → Int32) (n : Nat) : Nat → Int32 := fun j => if j < n then f (j + 229) else f j
theorem zcy_0 (f g : Nat → Int32) (q p j : Nat) : zcy f g q p 0 j = f j := by
  unfold zcy
  rw [if_neg (by omega)]
theorem zcy_s (f g : Nat → Int32) (q p i j : Nat) : (if j = q + i then g (p + i) else zcy f g q p i j) = zcy f g q p (i + 1) j := by
  unfold zcy
  by_cases e : j = q + i
  · rw [if_pos e, if_pos (by omega), show p + (j - q) = p + i by omega]
  · rw [if_neg e]
    by_cases h : q ≤ j ∧ j < q + i
    · rw [if_pos h, if_pos (by omega)]
    · rw [if_neg h, if_neg (by omega)]
theorem zsf_0 (f : Nat → Int32) (j : Nat) : zsf f 0 j = f j := by
  unfold zsf
  rw [if_neg (by omega)]
theorem zsf_s (f : Nat → Int32) (i j : Nat) : (if j = i then zsf f i (i + 229) else zsf f i j) = zsf f (i + 1) j := by
  unfold zsf
  by_cases e : j = i
  · rw [if_pos e, if_neg (by omega), if_pos (by omega), e]
  · rw [if_neg e]
    by_cases h : j < i
    · rw [if_pos h, if_pos (by omega)]
    · rw [if_neg h, if_neg (by omega)]
/-- what keeping a row leaves in the reference -/
def zmkeep (μ : zSt) (r ct : Nat) : zSt := if μ 0 6 = 0 then zu (zrw (zu μ 0 7 0) 2 (zcy (if ct < 8 then μ 2 else zsf (μ 2) 1603) (μ r) (229 * (if ct < 8 then ct else 7)) 0 229)) 0 5 (nI (if ct < 8 then ct + 1 else 8)) else zu μ 0 7 0
theorem zmkeep_lt {μ : zSt} {r ct : Nat} (h6 : μ 0 6 = 0) (h : ct < 8) : zmkeep μ r ct = zu (zrw (zu μ 0 7 0) 2 (zcy (μ 2) (μ r) (229 * ct) 0 229)) 0 5 (nI (ct + 1)) := by
  rw [zmkeep, if_pos h6, if_pos h, if_pos h, if_pos h]
theorem zmkeep_8 {μ : zSt} {r : Nat} (h6 : μ 0 6 = 0) : zmkeep μ r 8 = zu (zrw (zu μ 0 7 0) 2 (zcy (zsf (μ 2) 1603) (μ r) 1603 0 229)) 0 5 (nI 8) := by
  rw [zmkeep, if_pos h6, if_neg (by decide), if_neg (by decide), if_neg (by decide)]
theorem zmkeep_in {μ : zSt} {r ct : Nat} (h6 : ¬ μ 0 6 = 0) : zmkeep μ r ct = zu μ 0 7 0 := if_neg h6
theorem zmkeep_r {μ : zSt} {r ct r' : Nat} (h0 : r' ≠ 0) (h2 : r' ≠ 2) : zmkeep μ r ct r' = μ r' := by
  unfold zmkeep
  split
  · rw [zu_r h0, zrw_n h2, zu_r h0]
  · rw [zu_r h0]
theorem zmkeep_j {μ : zSt} {r ct j : Nat} (h5 : j ≠ 5) (h7 : j ≠ 7) : zmkeep μ r ct 0 j = μ 0 j := by
  unfold zmkeep
  split
  · rw [zu_j h5, zrw_n (by decide), zu_j h7]
  · rw [zu_j h7]
theorem zu_7 (σ : zSt) (r j : Nat) (x : Int32) : zu σ r j x r j = x := by unfold zu; rw [if_pos ⟨rfl, rfl⟩]
theorem zmkeep_7 {μ : zSt} {r ct : Nat} : zmkeep μ r ct 0 7 = 0 := by
  unfold zmkeep
  split
  · rw [zu_j (by decide), zrw_n (by decide), zu_7]
  · rw [zu_7]
theorem zmkeep_5 {μ : zSt} {r ct : Nat} (h6 : μ 0 6 = 0) : zmkeep μ r ct 0 5 = nI (if ct < 8 then ct + 1 else 8) := by
  rw [zmkeep, if_pos h6, zu_7]
theorem zmkeep_2a {μ : zSt} {r ct i j : Nat} (h6 : μ 0 6 = 0) (h : ct < 8) (hi : i < ct) (hj : j < 229) : zmkeep μ r ct 2 (229 * i + j) = μ 2 (229 * i + j) := by
  rw [zmkeep_lt h6 h, zu_r (by decide), zrw_s, zcy, if_neg (by omega)]
theorem zmkeep_2b {μ : zSt} {r ct j : Nat} (h6 : μ 0 6 = 0) (h : ct < 8) (hj : j < 229) : zmkeep μ r ct 2 (229 * ct + j) = μ r j := by
  rw [zmkeep_lt h6 h, zu_r (by decide), zrw_s, zcy, if_pos (by omega), show 0 + (229 * ct + j - 229 * ct) = j by omega]
theorem zmkeep_2c {μ : zSt} {r i j : Nat} (h6 : μ 0 6 = 0) (hi : i < 7) (hj : j < 229) : zmkeep μ r 8 2 (229 * i + j) = μ 2 (229 * (i + 1) + j) := by
  rw [zmkeep_8 h6, zu_r (by decide), zrw_s, zcy, if_neg (by omega), zsf, if_pos (by omega), show 229 * i + j + 229 = 229 * (i + 1) + j by omega]
theorem zmkeep_2d {μ : zSt} {r j : Nat} (h6 : μ 0 6 = 0) (hj : j < 229) : zmkeep μ r 8 2 (229 * 7 + j) = μ r j := by
  rw [zmkeep_8 h6, zu_r (by decide), zrw_s, zcy, if_pos (by omega), show 0 + (229 * 7 + j - 1603) = j by omega]
theorem zmk_eq {A : zSt} {f f' : Nat → Int32} {x y : Int32} : zu (zrw (zu (zrw A 2 f) 0 5 x) 2 f') 0 5 y = zu (zrw A 2 f') 0 5 y := funext fun r' => funext fun j => by
  unfold zu zrw
  by_cases e0 : r' = 0
  · subst e0
    by_cases e5 : j = 5
    · simp [e5]
    · simp [e5]
  · by_cases e2 : r' = 2
    · simp [e2]
    · simp [e0, e2]
set_option maxHeartbeats 4000000 in
set_option maxRecDepth 10000 in
theorem sX11_copies {Γ : zG} {d : Nat} {G : zH} {Post : zV} {am : Nat → Nat} {μ : zSt} (hM : zMod G am μ) {r1 r2 p q : Nat} (h1 : 1 ≤ r1) (h4 : r1 ≤ 4) (h1b : 1 ≤ r2) (h4b : r2 ≤ 4) (h12 : r1 ≠ r2) (hp : p + 229 ≤ zml r1) (hq : q + 229 ≤ zml r2) (hP : ∀ G1, zMod G1 am (zrw μ r2 (zcy (μ r2) (μ r1) q p 229)) → zFrm G G1 am 8 → Post (none) G1) : zM Γ d mX11_copies 0 0 [.ref (am r1), .int (nI p), .ref (am r2), .int (nI q)] G Post := by
  refine zM_of pnX11 rfl (Nat.le_of_ble_eq_true rfl) rfl ?_
  have hQ : zFrm G G am 8 := zFrm.rf
  have key : ∀ (r : Nat) (i : Nat) (G1 : zH), i ≤ 229 → 229 < i + r → zMod G1 am (zrw μ r2 (zcy (μ r2) (μ r1) q p i)) → zFrm G G1 am 8 → zX Γ mX11_copies (d) 0 0 3 [some (.ref (am r1)), some (.int (nI p)), some (.ref (am r2)), some (.int (nI q)), some (.int (nI i))] [] G1 0 0 (zlift Post) := by
    intro r
    induction r with
    | zero =>
      intro i G1 hi1 hi2 hM hQ
      exact absurd hi2 (by omega)
    | succ r ih =>
      intro i G1 hi1 hi2 hM hQ
      refine z_iload dX11_copies_3 rfl ?_
      refine z_sipush (v := 229) dX11_copies_5 (by decide) ?_
      refine z_icmp_ge (tgt := 29) dX11_copies_8 (by decide) (fun c1 => ?_) (fun c1 => ?_)
      · have hi9 := zgeN (N := 229) rfl (by omega) (by omega) c1
        exact z_vreturn (mi := mX11_copies) dX11_copies_29 rfl (Nat.le_refl _) (Nat.le_refl _) (by rw [show i = 229 by omega] at hM; exact hP _ hM hQ)
      · have hi9 := zltN (N := 229) rfl (by omega) (by omega) c1
        refine z_aload_n dX11_copies_11 rfl ?_
        refine z_iload_n dX11_copies_12 rfl ?_
        refine z_iload dX11_copies_13 rfl ?_
        refine z_iadd dX11_copies_15 ?_
        refine z_aload_n dX11_copies_16 rfl ?_
        refine z_iload_n dX11_copies_17 rfl ?_
        refine z_iload dX11_copies_18 rfl ?_
        refine z_iadd dX11_copies_20 ?_
        rw [nI_add, nI_add]
        refine z_iald dX11_copies_21 ((hM.1 r1 (by omega)).trans (by rw [zmE_arr h1 h4, zrw_n h12])) (vp_in_nI (show p + i < zml r1 by omega) (zml_lt r1)) ?_
        rw [nI_clamp (show p + i < 2147483648 by have := zml_lt r1; omega)]
        refine z_iast dX11_copies_22 ((hM.1 r2 (by omega)).trans (by rw [zmE_arr h1b h4b])) (vp_in_nI (show q + i < zml r2 by omega) (zml_lt r2)) ?_
        rw [nI_clamp (show q + i < 2147483648 by have := zml_lt r2; omega)]
        refine z_mset hM r2 (q + i) (μ r1 (p + i)) (by omega) (by rw [zmE_arr h1b h4b, zu_row]) (fun G2 hM hF => ?_)
        have hQ := hQ.tr hF
        refine z_iinc dX11_copies_23 rfl rfl (by decide) rfl ?_
        refine z_goto (tgt := 3) dX11_copies_26 (by decide) ?_
        exact z_sub (lv' := [some (.ref (am r1)), some (.int (nI p)), some (.ref (am r2)), some (.int (nI q)), some (.int (nI (i + 1)))]) ⟨rfl, rfl, rfl, rfl, zsl (zinc i), trivial⟩ (ih (i + 1) _ (by omega) (by omega) (by rw [zu_zrw (zcy_s (μ r2) (μ r1) q p i)] at hM; exact hM) hQ)
  refine z_iconst (v := 0) dX11_copies_0 (by decide) ?_
  refine z_istore dX11_copies_1 (by decide) rfl ?_
  exact z_sub (lv' := [some (.ref (am r1)), some (.int (nI p)), some (.ref (am r2)), some (.int (nI q)), some (.int (nI 0))]) ⟨rfl, rfl, rfl, rfl, rfl, trivial⟩ (key 230 0 G (by omega) (by omega) (by rw [zrw_0 (zcy_0 (μ r2) (μ r1) q p)]; exact hM) hQ)
set_option maxHeartbeats 4000000 in
set_option maxRecDepth 10000 in
theorem sX11_keeps {Γ : zG} {d : Nat} {G : zH} {Post : zV} {am : Nat → Nat} {μ : zSt} (hM : zMod G am μ) {r ct : Nat} (h1 : 1 ≤ r) (h4 : r ≤ 4) (h2 : r ≠ 2) (hct : μ 0 5 = nI ct) (hc8 : ct ≤ 8) (hP : ∀ G1, zMod G1 am (zmkeep μ r ct) → zFrm G G1 am 8 → Post (none) G1) : zM Γ (d + 1) mX11_keeps 0 0 [.ref (am 0), .ref (am r)] G Post := by
  refine zM_of pnX11 rfl (Nat.le_of_ble_eq_true rfl) rfl ?_
  have hQ : zFrm G G am 8 := zFrm.rf
  refine z_aload_n dX11_keeps_0 rfl ?_
  refine z_iconst (v := 0) dX11_keeps_1 (by decide) ?_
  refine z_put dX11_keeps_2 fX11_36 (hM.1 _ (by decide)) rfl rfl (Nat.le_of_ble_eq_true rfl) ?_
  refine z_mset hM 0 7 (0) (by decide) rfl (fun _ hM hF => ?_)
  have hQ := hQ.tr hF
  refine z_aload_n dX11_keeps_5 rfl ?_
  refine z_get dX11_keeps_6 fX11_45.r (hM.1 _ (by decide)) rfl ?_
  refine z_if_eq (tgt := 13) dX11_keeps_9 (by decide) (fun c1 => ?_) (fun c1 => ?_)
  · have h6 : μ 0 6 = 0 := c1
    refine z_aload_n dX11_keeps_13 rfl ?_
    refine z_get dX11_keeps_14 fX11_55.r (hM.1 _ (by decide)) rfl ?_
    refine z_bipush (v := 8) dX11_keeps_17 (by decide) ?_
    refine z_icmp_ne (tgt := 63) dX11_keeps_19 (by decide) (fun c2 => ?_) (fun c2 => ?_)
    · have h8 : ct < 8 := by
        have h9 : ct ≠ 8 := fun q => c2 (show μ 0 5 = 8 by rw [hct, q]; rfl)
        omega
      refine z_aload_n dX11_keeps_63 rfl ?_
      refine z_iconst (v := 0) dX11_keeps_64 (by decide) ?_
      refine z_aload_n dX11_keeps_65 rfl ?_
      refine z_get dX11_keeps_66 fX11_13.r (hM.1 _ (by decide)) rfl ?_
      refine z_sipush (v := 229) dX11_keeps_69 (by decide) ?_
      refine z_aload_n dX11_keeps_72 rfl ?_
      refine z_get dX11_keeps_73 fX11_55.r (hM.1 _ (by decide)) rfl ?_
      refine z_imul dX11_keeps_76 ?_
      rw [show zu μ 0 7 0 0 5 = nI ct from hct, show (229 : Int32) = nI 229 from rfl, pk_mul]
      refine z_S4 (mi' := mX11_copies) dX11_keeps_77 lX11_58 nX11_copies kX11_copies (by decide) (Nat.le_of_ble_eq_true rfl) (Nat.le_refl _) (Nat.le_refl _) ?_
      refine sX11_copies hM (r1 := r) (r2 := 2) (p := 0) (q := 229 * ct) h1 h4 (by decide) (by decide) h2 (by unfold zml; rw [if_neg h2]; decide) (show 229 * ct + 229 ≤ 1832 by omega) (fun G1 hM hF => ?_)
      have hQ := hQ.tr hF
      refine z_aload_n dX11_keeps_80 rfl ?_
      refine z_dup dX11_keeps_81 rfl ?_
      refine z_get dX11_keeps_82 fX11_55.r (hM.1 _ (by decide)) rfl ?_
      refine z_iconst (v := 1) dX11_keeps_85 (by decide) ?_
      rw [show zrw (zu μ 0 7 0) 2 (zcy (zu μ 0 7 0 2) (zu μ 0 7 0 r) (229 * ct) 0 229) 0 5 = nI ct from hct]
      refine z_iadd dX11_keeps_86 ?_
      rw [nI_1]
      refine z_put dX11_keeps_87 fX11_55 (hM.1 _ (by decide)) rfl rfl (Nat.le_of_ble_eq_true rfl) ?_
      refine z_mset hM 0 5 (nI (ct + 1)) (by decide) rfl (fun G2 hM hF => ?_)
      have hQ := hQ.tr hF
      exact z_vreturn (mi := mX11_keeps) dX11_keeps_90 rfl (Nat.le_refl _) (Nat.le_refl _) (by rw [zu_r (show r ≠ 0 by omega), zu_r (show (2 : Nat) ≠ 0 by decide)] at hM; rw [zmkeep_lt h6 h8] at hP; exact hP _ hM hQ)
    · have h8 : ct = 8 := znI_inj (by omega) (by decide) (hct.symm.trans (show μ 0 5 = nI 8 from c2))
      have key : ∀ (r9 : Nat) (i : Nat) (G1 : zH), i ≤ 1603 → 1603 < i + r9 → zMod G1 am (zrw (zu μ 0 7 0) 2 (zsf (μ 2) i)) → zFrm G G1 am 8 → zX Γ mX11_keeps (d + 1) 0 0 24 [some (.ref (am 0)), some (.ref (am r)), some (.int (nI i))] [] G1 0 0 (zlift Post) := by
        intro r9
        induction r9 with
        | zero =>
          intro i G1 hi1 hi2 hM hQ
          exact absurd hi2 (by omega)
        | succ r9 ih =>
          intro i G1 hi1 hi2 hM hQ
          refine z_iload_n dX11_keeps_24 rfl ?_
          refine z_sipush (v := 1603) dX11_keeps_25 (by decide) ?_
          refine z_icmp_ge (tgt := 53) dX11_keeps_28 (by decide) (fun c1 => ?_) (fun c1 => ?_)
          · have hi9 := zgeN (N := 1603) rfl (by omega) (by omega) c1
            refine z_aload_n dX11_keeps_53 rfl ?_
            refine z_dup dX11_keeps_54 rfl ?_
            refine z_get dX11_keeps_55 fX11_55.r (hM.1 _ (by decide)) rfl ?_
            refine z_iconst (v := 1) dX11_keeps_58 (by decide) ?_
            rw [show zrw (zu μ 0 7 0) 2 (zsf (μ 2) i) 0 5 = nI 8 from (show μ 0 5 = nI 8 by rw [hct, h8])]
            refine z_isub dX11_keeps_59 ?_
            rw [show nI 8 - 1 = nI 7 from rfl]
            refine z_put dX11_keeps_60 fX11_55 (hM.1 _ (by decide)) rfl rfl (Nat.le_of_ble_eq_true rfl) ?_
            refine z_mset hM 0 5 (nI 7) (by decide) rfl (fun _ hM hF => ?_)
            have hQ := hQ.tr hF
            have e7 : zu (zrw (zu μ 0 7 0) 2 (zsf (μ 2) i)) 0 5 (nI 7) 0 5 = nI 7 := rfl
            refine z_aload_n dX11_keeps_63 rfl ?_
            refine z_iconst (v := 0) dX11_keeps_64 (by decide) ?_
            refine z_aload_n dX11_keeps_65 rfl ?_
            refine z_get dX11_keeps_66 fX11_13.r (hM.1 _ (by decide)) rfl ?_
            refine z_sipush (v := 229) dX11_keeps_69 (by decide) ?_
            refine z_aload_n dX11_keeps_72 rfl ?_
            refine z_get dX11_keeps_73 fX11_55.r (hM.1 _ (by decide)) rfl ?_
            refine z_imul dX11_keeps_76 ?_
            rw [e7, show (229 : Int32) * nI 7 = nI 1603 from rfl]
            refine z_S4 (mi' := mX11_copies) dX11_keeps_77 lX11_58 nX11_copies kX11_copies (by decide) (Nat.le_of_ble_eq_true rfl) (Nat.le_refl _) (Nat.le_refl _) ?_
            refine sX11_copies hM (r1 := r) (r2 := 2) (p := 0) (q := 1603) h1 h4 (by decide) (by decide) h2 (by unfold zml; rw [if_neg h2]; decide) (by decide) (fun G2 hM hF => ?_)
            have hQ := hQ.tr hF
            refine z_aload_n dX11_keeps_80 rfl ?_
            refine z_dup dX11_keeps_81 rfl ?_
            refine z_get dX11_keeps_82 fX11_55.r (hM.1 _ (by decide)) rfl ?_
            refine z_iconst (v := 1) dX11_keeps_85 (by decide) ?_
            rw [show zrw (zu (zrw (zu μ 0 7 0) 2 (zsf (μ 2) i)) 0 5 (nI 7)) 2 (zcy (zu (zrw (zu μ 0 7 0) 2 (zsf (μ 2) i)) 0 5 (nI 7) 2) (zu (zrw (zu μ 0 7 0) 2 (zsf (μ 2) i)) 0 5 (nI 7) r) 1603 0 229) 0 5 = nI 7 from rfl]
            refine z_iadd dX11_keeps_86 ?_
            rw [show nI 7 + 1 = nI 8 from rfl]
            refine z_put dX11_keeps_87 fX11_55 (hM.1 _ (by decide)) rfl rfl (Nat.le_of_ble_eq_true rfl) ?_
            refine z_mset hM 0 5 (nI 8) (by decide) rfl (fun G2 hM hF => ?_)
            have hQ := hQ.tr hF
            exact z_vreturn (mi := mX11_keeps) dX11_keeps_90 rfl (Nat.le_refl _) (Nat.le_refl _) (by rw [show i = 1603 by omega, zmk_eq, zu_r (show r ≠ 0 by omega), zrw_n h2, zu_r (show r ≠ 0 by omega), zu_r (show (2 : Nat) ≠ 0 by decide), zrw_s, ← zmkeep_8 h6] at hM; rw [h8] at hP; exact hP _ hM hQ)
          · have hi9 := zltN (N := 1603) rfl (by omega) (by omega) c1
            refine z_aload_n dX11_keeps_31 rfl ?_
            refine z_get dX11_keeps_32 fX11_13.r (hM.1 _ (by decide)) rfl ?_
            refine z_iload_n dX11_keeps_35 rfl ?_
            refine z_aload_n dX11_keeps_36 rfl ?_
            refine z_get dX11_keeps_37 fX11_13.r (hM.1 _ (by decide)) rfl ?_
            refine z_iload_n dX11_keeps_40 rfl ?_
            refine z_sipush (v := 229) dX11_keeps_41 (by decide) ?_
            refine z_iadd dX11_keeps_44 ?_
            rw [show (229 : Int32) = nI 229 from rfl, nI_add]
            refine z_iald dX11_keeps_45 (hM.1 2 (by decide)) (vp_in_nI (show i + 229 < 1832 by omega) (by decide)) ?_
            rw [nI_clamp (show i + 229 < 2147483648 by omega)]
            refine z_iast dX11_keeps_46 (hM.1 2 (by decide)) (vp_in_nI (show i < 1832 by omega) (by decide)) ?_
            rw [nI_clamp (show i < 2147483648 by omega)]
            refine z_mset hM 2 i (zsf (μ 2) i (i + 229)) (by decide) (by simp only [zmE, zu_row, zrw_s]) (fun G2 hM hF => ?_)
            have hQ := hQ.tr hF
            refine z_iinc dX11_keeps_47 rfl rfl (by decide) rfl ?_
            refine z_goto (tgt := 24) dX11_keeps_50 (by decide) ?_
            exact z_sub (lv' := [some (.ref (am 0)), some (.ref (am r)), some (.int (nI (i + 1)))]) ⟨rfl, rfl, zsl (zinc i), trivial⟩ (ih (i + 1) _ (by omega) (by omega) (by rw [zu_zrw (zsf_s (μ 2) i)] at hM; exact hM) hQ)
      refine z_iconst (v := 0) dX11_keeps_22 (by decide) ?_
      refine z_istore_n dX11_keeps_23 (by decide) rfl ?_
      exact z_sub (lv' := [some (.ref (am 0)), some (.ref (am r)), some (.int (nI 0))]) ⟨rfl, rfl, rfl, trivial⟩ (key 1604 0 _ (by omega) (by omega) (by rw [zrw_0 (σ := zu μ 0 7 0) (r := 2) (f := zsf (μ 2) 0) (fun j => (zsf_0 (μ 2) j).trans rfl)]; exact hM) hQ)
  · have h6 : ¬ μ 0 6 = 0 := c1
    exact z_vreturn (mi := mX11_keeps) dX11_keeps_12 rfl (Nat.le_refl _) (Nat.le_refl _) (by rw [zmkeep_in h6] at hP; exact hP _ hM hQ)
