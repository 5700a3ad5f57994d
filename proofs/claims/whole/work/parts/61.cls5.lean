/-- the class's reader stands at p of n signs c -/
def zTa (γ : zSt) (c : Nat → Int32) (n p : Nat) : Prop := γ 0 7 = nI n ∧ n ≤ 60 ∧ γ 0 8 = nI p ∧ p ≤ n ∧ γ 1 = c ∧ ∀ j, j < 60 → narrow FieldType.char (.int (c j)) = .int (c j)
theorem zTa.p {γ : zSt} {c : Nat → Int32} {n p q : Nat} (h : zTa γ c n p) (hq : q ≤ n) : zTa (zu γ 0 8 (nI q)) c n q := ⟨by rw [zu_j (by decide)]; exact h.1, h.2.1, zu_s _ _ _ _, hq, by rw [zu_r (by decide)]; exact h.2.2.2.2.1, h.2.2.2.2.2⟩
theorem zTa.k {γ : zSt} {c : Nat → Int32} {n p : Nat} (h : zTa γ c n p) {r : Nat} (hr : r = 2 ∨ r = 3) (j : Nat) (x : Int32) : zTa (zu γ r j x) c n p := ⟨by rw [zu_r (by omega)]; exact h.1, h.2.1, by rw [zu_r (by omega)]; exact h.2.2.1, h.2.2.2.1, by rw [zu_r (by omega)]; exact h.2.2.2.2.1, h.2.2.2.2.2⟩
/-- the sign at p, or none -/
def zsg (c : Nat → Int32) (n p : Nat) : Int32 := if p < n then c p else 0
theorem zsg_d {c : Nat → Int32} {n p : Nat} : (48 ≤ zsg c n p ∧ zsg c n p ≤ 57) ↔ zisd c n p = true := by
  unfold zsg zisd
  by_cases h : p < n
  · rw [if_pos h, decide_eq_true_eq]
    exact ⟨fun z => ⟨h, z⟩, fun z => z.2⟩
  · rw [if_neg h, decide_eq_true_eq]
    exact ⟨fun z => absurd z.1 (by decide), fun z => absurd z.1 h⟩
theorem zsg_l {c : Nat → Int32} {n p : Nat} {x : Int32} (hx : x ≠ 0) : zsg c n p = x ↔ zlit c n p x = true := by
  unfold zsg zlit
  by_cases h : p < n
  · rw [if_pos h, decide_eq_true_eq]
    exact ⟨fun z => ⟨h, z⟩, fun z => z.2⟩
  · rw [if_neg h, decide_eq_true_eq]
    exact ⟨fun z => absurd z.symm hx, fun z => absurd z.1 h⟩
/-- only the reader's place and what is told have changed in the class -/
def zTs (γ δ : zSt) : Prop := (∀ r, r ≠ 0 → r ≠ 2 → r ≠ 3 → δ r = γ r) ∧ (∀ j, j ≠ 8 → j ≠ 9 → δ 0 j = γ 0 j)
theorem zTs.rf {γ : zSt} : zTs γ γ := ⟨fun _ _ _ _ => rfl, fun _ _ _ => rfl⟩
theorem zTs.tr {γ δ ε : zSt} (h : zTs γ δ) (h2 : zTs δ ε) : zTs γ ε := ⟨fun r a b c => (h2.1 r a b c).trans (h.1 r a b c), fun j a b => (h2.2 j a b).trans (h.2 j a b)⟩
theorem zTs.p {γ : zSt} (x : Int32) : zTs γ (zu γ 0 8 x) := ⟨fun r a _ _ => zu_r a, fun j a _ => zu_j a⟩
theorem zTs.f {γ : zSt} (x : Int32) : zTs γ (zu γ 0 9 x) := ⟨fun r a _ _ => zu_r a, fun j _ a => zu_j a⟩
theorem zTs.k {γ : zSt} {r : Nat} (hr : r = 2 ∨ r = 3) (j : Nat) (x : Int32) : zTs γ (zu γ r j x) := ⟨fun r' a b c => zu_r (by omega), fun j _ _ => by rw [zu_r (by omega)]⟩
theorem zu_zu {σ : zSt} {r j : Nat} {x y : Int32} : zu (zu σ r j x) r j y = zu σ r j y := funext fun r' => funext fun j' => by
  unfold zu
  by_cases h : r' = r ∧ j' = j
  · rw [if_pos h, if_pos h]
  · rw [if_neg h, if_neg h, if_neg h]
/-- which form goes with a letter -/
def zfx (x : Int32) : Nat := if x = 107 then 2 else if x = 109 then 0 else if x = 115 then 2 else if x = 119 then 3 else if x = 120 then 1 else if x = 121 then 4 else 5
theorem zfx_lt (x : Int32) : zfx x < 6 := by
  unfold zfx
  repeat (first | split | decide)
theorem zfx_f (x : Int32) : (zform x).length = zLen.getD (zfx x) 0 ∧ ∀ j, j < (zform x).length → (zByt.getD (zfx x) []).getD j 0 = nI ((zform x).getD j 0) ∧ (zform x).getD j 0 < 128 := by
  unfold zform zfx
  by_cases h1 : x = 109
  · rw [h1]; decide
  by_cases h2 : x = 120
  · rw [h2]; decide
  by_cases h3 : x = 107
  · rw [h3]; decide
  by_cases h4 : x = 115
  · rw [h4]; decide
  by_cases h5 : x = 119
  · rw [h5]; decide
  by_cases h6 : x = 121
  · rw [h6]; decide
  rw [if_neg h1, if_neg h2, if_neg h3, if_neg h4, if_neg h5, if_neg h6, if_neg h3, if_neg h1, if_neg h4, if_neg h5, if_neg h2, if_neg h6]
  decide
theorem zform_0 : zform 0 = [] := by decide
theorem zformL (x : Int32) (j : Nat) (hj : j < (zform x).length) : (zform x).getD j 0 = 49 ∨ (zform x).getD j 0 = 50 ∨ (zform x).getD j 0 = 58 ∨ (zform x).getD j 0 = 47 ∨ (zform x).getD j 0 = 43 := by
  have key : ∀ l, l ∈ [[49, 58, 50, 47, 49], [49, 58, 50], [49], [50, 43, 49], [50], ([] : List Nat)] → ∀ j, j < l.length → l.getD j 0 = 49 ∨ l.getD j 0 = 50 ∨ l.getD j 0 = 58 ∨ l.getD j 0 = 47 ∨ l.getD j 0 = 43 := by decide
  refine key (zform x) ?_ j hj
  unfold zform
  repeat (first | split | decide)
theorem zprt_d {c : Nat → Int32} {n p q d : Nat} {ds : List Nat} {a : List Int32} {v : Int32} (hd : d = 49 ∨ d = 50) (h : znum c n (decide (d = 50)) p = some (v, q)) : zprt c n (d :: ds) p a = zprt c n ds q (a ++ [v]) := by
  rw [zprt, if_pos hd, h]
theorem zprt_dn {c : Nat → Int32} {n p d : Nat} {ds : List Nat} {a : List Int32} (hd : d = 49 ∨ d = 50) (h : zisd c n p = false) : zprt c n (d :: ds) p a = (false, p, a) := by
  rw [zprt, if_pos hd, znum_n h]
set_option maxHeartbeats 4000000 in
set_option maxRecDepth 10000 in
theorem sX9_signHere {Γ : zG} {d : Nat} {G : zH} {ax : Nat → Nat} {bq m : Nat} {ρ : Nat → zSt} {γ : zSt} (hC : zCls G ax bq m ρ γ) {Post : zV} {c : Nat → Int32} {n p : Nat} (hA : zTa γ c n p) (hP : Post (some (.int (zsg c n p))) G) : zM Γ d mX9_signHere 0 0 [.ref (ax 4)] G Post := by
  refine zM_of pnX9 rfl (Nat.le_of_ble_eq_true rfl) rfl ?_
  obtain ⟨a1, a2, a3, a4, a5, a6⟩ := hA
  refine z_aload_n dX9_signHere_0 rfl ?_
  refine z_get dX9_signHere_1 fX9_27.r (hC.1 _ (by decide)) rfl ?_
  rw [a3]
  refine z_if_lt (tgt := 42) dX9_signHere_4 (by decide) (fun c1 => ?_) (fun c1 => ?_)
  · exact absurd c1 (nI_pos (by omega))
  · refine z_aload_n dX9_signHere_7 rfl ?_
    refine z_get dX9_signHere_8 fX9_27.r (hC.1 _ (by decide)) rfl ?_
    refine z_aload_n dX9_signHere_11 rfl ?_
    refine z_get dX9_signHere_12 fX9_13.r (hC.1 _ (by decide)) rfl ?_
    rw [a3, a1]
    refine z_icmp_ge (tgt := 42) dX9_signHere_15 (by decide) (fun c2 => ?_) (fun c2 => ?_)
    · have h1 : ¬ p < n := fun q => by have := (nI_leI (by omega) (by omega)).mp c2; omega
      refine z_iconst (v := 0) dX9_signHere_42 (by decide) ?_
      exact z_ireturn (mi := mX9_signHere) dX9_signHere_43 rfl (rfl) (Nat.le_refl _) (Nat.le_refl _) (by rw [zsg, if_neg h1] at hP; exact hP)
    · have h1 : p < n := Nat.lt_of_not_le fun q => c2 ((nI_leI (by omega) (by omega)).mpr q)
      refine z_aload_n dX9_signHere_18 rfl ?_
      refine z_get dX9_signHere_19 fX9_27.r (hC.1 _ (by decide)) rfl ?_
      refine z_aload_n dX9_signHere_22 rfl ?_
      refine z_get dX9_signHere_23 fX9_9.r (hC.1 _ (by decide)) rfl ?_
      refine z_alen (v := nI 60) dX9_signHere_26 (hC.1 5 (by decide)) rfl ?_
      rw [a3]
      refine z_icmp_ge (tgt := 42) dX9_signHere_27 (by decide) (fun c3 => ?_) (fun c3 => ?_)
      · exact absurd ((nI_leI (by decide) (by omega)).mp (show nI 60 ≤ nI p from c3)) (by omega)
      · refine z_aload_n dX9_signHere_30 rfl ?_
        refine z_get dX9_signHere_31 fX9_9.r (hC.1 _ (by decide)) rfl ?_
        refine z_aload_n dX9_signHere_34 rfl ?_
        refine z_get dX9_signHere_35 fX9_27.r (hC.1 _ (by decide)) rfl ?_
        rw [a3]
        refine z_cald dX9_signHere_38 (hC.1 5 (by decide)) (vp_in_nI (show p < 60 by omega) (by decide)) ?_
        rw [nI_clamp (show p < 2147483648 by omega), a5]
        refine z_goto (tgt := 43) dX9_signHere_39 (by decide) ?_
        exact z_ireturn (mi := mX9_signHere) dX9_signHere_43 rfl (a6 p (by omega)) (Nat.le_refl _) (Nat.le_refl _) (by rw [zsg, if_pos h1] at hP; exact hP)
set_option maxHeartbeats 4000000 in
set_option maxRecDepth 10000 in
theorem sX9_isDigit {Γ : zG} {d : Nat} {G : zH} {Post : zV} {x : Int32} (hP : Post (some (.int (zb (48 ≤ x ∧ x ≤ 57)))) G) : zM Γ d mX9_isDigit 0 0 [.int x] G Post := by
  refine zM_of pnX9 rfl (Nat.le_of_ble_eq_true rfl) rfl ?_
  refine z_iload_n dX9_isDigit_0 rfl ?_
  refine z_bipush (v := 48) dX9_isDigit_1 (by decide) ?_
  refine z_icmp_lt (tgt := 16) dX9_isDigit_3 (by decide) (fun c1 => ?_) (fun c1 => ?_)
  · refine z_iconst (v := 0) dX9_isDigit_16 (by decide) ?_
    exact z_ireturn (mi := mX9_isDigit) dX9_isDigit_17 rfl rfl (Nat.le_refl _) (Nat.le_refl _) (by rw [zb_f (fun q => Int32.not_le.mpr c1 q.1)] at hP; exact hP)
  · refine z_iload_n dX9_isDigit_6 rfl ?_
    refine z_bipush (v := 57) dX9_isDigit_7 (by decide) ?_
    refine z_icmp_gt (tgt := 16) dX9_isDigit_9 (by decide) (fun c2 => ?_) (fun c2 => ?_)
    · refine z_iconst (v := 0) dX9_isDigit_16 (by decide) ?_
      exact z_ireturn (mi := mX9_isDigit) dX9_isDigit_17 rfl rfl (Nat.le_refl _) (Nat.le_refl _) (by rw [zb_f (fun q => Int32.not_le.mpr c2 q.2)] at hP; exact hP)
    · refine z_iconst (v := 1) dX9_isDigit_12 (by decide) ?_
      refine z_goto (tgt := 17) dX9_isDigit_13 (by decide) ?_
      exact z_ireturn (mi := mX9_isDigit) dX9_isDigit_17 rfl rfl (Nat.le_refl _) (Nat.le_refl _) (by rw [zb_t ⟨Int32.not_lt.mp c1, Int32.not_lt.mp c2⟩] at hP; exact hP)
set_option maxHeartbeats 4000000 in
set_option maxRecDepth 10000 in
theorem sX9_readDigit {Γ : zG} {d : Nat} {G : zH} {ax : Nat → Nat} {bq m : Nat} {ρ : Nat → zSt} {γ : zSt} (hC : zCls G ax bq m ρ γ) {Post : zV} {c : Nat → Int32} {n p : Nat} (hA : zTa γ c n p) (hp : p < n) (hP : ∀ G1, zCls G1 ax bq m ρ (zu γ 0 8 (nI (p + 1))) → zFC G G1 ax bq → Post (some (.int (c p - 48))) G1) : zM Γ (d + 1) mX9_readDigit 0 0 [.ref (ax 4)] G Post := by
  refine zM_of pnX9 rfl (Nat.le_of_ble_eq_true rfl) rfl ?_
  have hQ : zFC G G ax bq := zFC.rf
  refine z_aload_n dX9_readDigit_0 rfl ?_
  refine z_V0 (mi' := mX9_signHere) dX9_readDigit_1 lX9_40 nX9_signHere kX9_signHere (by decide) (Nat.le_of_ble_eq_true rfl) (Nat.le_refl _) (Nat.le_refl _) (hC.1 _ (by decide)) rfl rfl ?_
  refine sX9_signHere hC hA ?_
  rw [zsg, if_pos hp]
  refine z_bipush (v := 48) dX9_readDigit_4 (by decide) ?_
  refine z_isub dX9_readDigit_6 ?_
  refine z_istore_n dX9_readDigit_7 (by decide) rfl ?_
  refine z_aload_n dX9_readDigit_8 rfl ?_
  refine z_dup dX9_readDigit_9 rfl ?_
  refine z_get dX9_readDigit_10 fX9_27.r (hC.1 _ (by decide)) rfl ?_
  refine z_iconst (v := 1) dX9_readDigit_13 (by decide) ?_
  rw [hA.2.2.1]
  refine z_iadd dX9_readDigit_14 ?_
  rw [nI_1]
  refine z_put dX9_readDigit_15 fX9_27 (hC.1 _ (by decide)) rfl rfl (Nat.le_of_ble_eq_true rfl) ?_
  refine z_cnum hC 8 (nI (p + 1)) (by decide) rfl (fun _ hC hF => ?_)
  have hQ := hQ.tr hF
  refine z_iload_n dX9_readDigit_18 rfl ?_
  exact z_ireturn (mi := mX9_readDigit) dX9_readDigit_19 rfl rfl (Nat.le_refl _) (Nat.le_refl _) (hP _ hC hQ)
set_option maxHeartbeats 4000000 in
set_option maxRecDepth 10000 in
theorem sX9_readNumber_false {Γ : zG} {d : Nat} {G : zH} {ax : Nat → Nat} {bq m : Nat} {ρ : Nat → zSt} {γ : zSt} (hC : zCls G ax bq m ρ γ) {Post : zV} {c : Nat → Int32} {n p : Nat} (hA : zTa γ c n p) (hz : zisd c n p = true) (hP : ∀ v q, znum c n false p = some (v, q) → ∀ G1, zCls G1 ax bq m ρ (zu γ 0 8 (nI q)) → zFC G G1 ax bq → Post (some (.int v)) G1) : zM Γ (d + 2) mX9_readNumber 0 0 [.ref (ax 4), .int 0] G Post := by
  refine zM_of pnX9 rfl (Nat.le_of_ble_eq_true rfl) rfl ?_
  have hQ : zFC G G ax bq := zFC.rf
  have hz1 := (zisd_t hz).1
  have hA1 : zTa (zu γ 0 8 (nI (p + 1))) c n (p + 1) := hA.p (by omega)
  refine z_aload_n dX9_readNumber_0 rfl ?_
  refine z_V0 (mi' := mX9_readDigit) dX9_readNumber_1 lX9_85 nX9_readDigit kX9_readDigit (by decide) (Nat.le_of_ble_eq_true rfl) (Nat.le_refl _) (Nat.le_refl _) (hC.1 _ (by decide)) rfl rfl ?_
  refine sX9_readDigit hC hA hz1 (fun _ hC hF => ?_)
  have hQ := hQ.tr hF
  refine z_istore_n dX9_readNumber_4 (by decide) rfl ?_
  refine z_iload_n dX9_readNumber_5 rfl ?_
  refine z_if_eq (tgt := 29) dX9_readNumber_6 (by decide) (fun c1 => ?_) (fun c1 => ?_)
  · have h00 : True := trivial
    refine z_iload_n dX9_readNumber_29 rfl ?_
    exact z_ireturn (mi := mX9_readNumber) dX9_readNumber_30 rfl rfl (Nat.le_refl _) (Nat.le_refl _) (hP _ _ (znum_1 hz) _ hC hQ)
  · exact absurd rfl c1
set_option maxHeartbeats 4000000 in
set_option maxRecDepth 10000 in
theorem sX9_readNumber_true {Γ : zG} {d : Nat} {G : zH} {ax : Nat → Nat} {bq m : Nat} {ρ : Nat → zSt} {γ : zSt} (hC : zCls G ax bq m ρ γ) {Post : zV} {c : Nat → Int32} {n p : Nat} (hA : zTa γ c n p) (hz : zisd c n p = true) (hP : ∀ v q, znum c n true p = some (v, q) → ∀ G1, zCls G1 ax bq m ρ (zu γ 0 8 (nI q)) → zFC G G1 ax bq → Post (some (.int v)) G1) : zM Γ (d + 2) mX9_readNumber 0 0 [.ref (ax 4), .int 1] G Post := by
  refine zM_of pnX9 rfl (Nat.le_of_ble_eq_true rfl) rfl ?_
  have hQ : zFC G G ax bq := zFC.rf
  have hz1 := (zisd_t hz).1
  have hA1 : zTa (zu γ 0 8 (nI (p + 1))) c n (p + 1) := hA.p (by omega)
  refine z_aload_n dX9_readNumber_0 rfl ?_
  refine z_V0 (mi' := mX9_readDigit) dX9_readNumber_1 lX9_85 nX9_readDigit kX9_readDigit (by decide) (Nat.le_of_ble_eq_true rfl) (Nat.le_refl _) (Nat.le_refl _) (hC.1 _ (by decide)) rfl rfl ?_
  refine sX9_readDigit hC hA hz1 (fun _ hC hF => ?_)
  have hQ := hQ.tr hF
  refine z_istore_n dX9_readNumber_4 (by decide) rfl ?_
  refine z_iload_n dX9_readNumber_5 rfl ?_
  refine z_if_eq (tgt := 29) dX9_readNumber_6 (by decide) (fun c1 => ?_) (fun c1 => ?_)
  · exact absurd c1 zi10
  · refine z_aload_n dX9_readNumber_9 rfl ?_
    refine z_V0 (mi' := mX9_signHere) dX9_readNumber_10 lX9_40 nX9_signHere kX9_signHere (by decide) (Nat.le_of_ble_eq_true rfl) (Nat.le_refl _) (Nat.le_refl _) (hC.1 _ (by decide)) rfl rfl ?_
    refine sX9_signHere hC hA1 ?_
    refine z_S1 (mi' := mX9_isDigit) dX9_readNumber_13 lX9_77 nX9_isDigit kX9_isDigit (by decide) (Nat.le_of_ble_eq_true rfl) (Nat.le_refl _) (Nat.le_refl _) ?_
    refine sX9_isDigit ?_
    refine z_if_eq (tgt := 29) dX9_readNumber_16 (by decide) (fun c2 => ?_) (fun c2 => ?_)
    · have hy : zisd c n (p + 1) = false := zbf (fun q => zb_0.mp c2 (zsg_d.mpr q))
      refine z_iload_n dX9_readNumber_29 rfl ?_
      exact z_ireturn (mi := mX9_readNumber) dX9_readNumber_30 rfl rfl (Nat.le_refl _) (Nat.le_refl _) (hP _ _ (znum_3 hz hy) _ hC hQ)
    · have hy : zisd c n (p + 1) = true := zsg_d.mp (zb_n.mp c2)
      have hy1 := (zisd_t hy).1
      refine z_bipush (v := 10) dX9_readNumber_19 (by decide) ?_
      refine z_iload_n dX9_readNumber_21 rfl ?_
      refine z_imul dX9_readNumber_22 ?_
      refine z_aload_n dX9_readNumber_23 rfl ?_
      refine z_V0 (mi' := mX9_readDigit) dX9_readNumber_24 lX9_85 nX9_readDigit kX9_readDigit (by decide) (Nat.le_of_ble_eq_true rfl) (Nat.le_refl _) (Nat.le_refl _) (hC.1 _ (by decide)) rfl rfl ?_
      refine sX9_readDigit hC hA1 hy1 (fun _ hC hF => ?_)
      have hQ := hQ.tr hF
      refine z_iadd dX9_readNumber_27 ?_
      refine z_istore_n dX9_readNumber_28 (by decide) rfl ?_
      refine z_iload_n dX9_readNumber_29 rfl ?_
      exact z_ireturn (mi := mX9_readNumber) dX9_readNumber_30 rfl rfl (Nat.le_refl _) (Nat.le_refl _) (hP _ _ (znum_2 hz hy) _ (by rw [zu_zu] at hC; exact hC) hQ)
set_option maxHeartbeats 4000000 in
set_option maxRecDepth 10000 in
theorem sX9_formOf {Γ : zG} {d : Nat} {G : zH} {Post : zV} {x : Int32} (hP : Post (some (.ref (Γ.2.2.2.1 (zfx x)))) G) : zM Γ d mX9_formOf 0 0 [.int x] G Post := by
  refine zM_of pnX9 rfl (Nat.le_of_ble_eq_true rfl) rfl ?_
  refine z_iload_n dX9_formOf_0 rfl ?_
  by_cases t107 : x = 107
  · rw [t107]
    refine z_tableIn (tgt := 82) dX9_formOf_1 (by decide) (by decide) rfl (by decide) ?_
    refine z_ldcS (i := 2) dX9_formOf_82 rfl ?_
    exact z_areturn (mi := mX9_formOf) dX9_formOf_84 rfl (Or.inl ⟨_, rfl⟩) (Or.inr ⟨_, rfl⟩) (Nat.le_refl _) (Nat.le_refl _) (by rw [t107] at hP; exact hP)
  by_cases t108 : x = 108
  · rw [t108]
    refine z_tableIn (tgt := 94) dX9_formOf_1 (by decide) (by decide) rfl (by decide) ?_
    refine z_ldcS (i := 5) dX9_formOf_94 rfl ?_
    exact z_areturn (mi := mX9_formOf) dX9_formOf_96 rfl (Or.inl ⟨_, rfl⟩) (Or.inr ⟨_, rfl⟩) (Nat.le_refl _) (Nat.le_refl _) (by rw [t108] at hP; exact hP)
  by_cases t109 : x = 109
  · rw [t109]
    refine z_tableIn (tgt := 76) dX9_formOf_1 (by decide) (by decide) rfl (by decide) ?_
    refine z_ldcS (i := 0) dX9_formOf_76 rfl ?_
    exact z_areturn (mi := mX9_formOf) dX9_formOf_78 rfl (Or.inl ⟨_, rfl⟩) (Or.inr ⟨_, rfl⟩) (Nat.le_refl _) (Nat.le_refl _) (by rw [t109] at hP; exact hP)
  by_cases t110 : x = 110
  · rw [t110]
    refine z_tableIn (tgt := 94) dX9_formOf_1 (by decide) (by decide) rfl (by decide) ?_
    refine z_ldcS (i := 5) dX9_formOf_94 rfl ?_
    exact z_areturn (mi := mX9_formOf) dX9_formOf_96 rfl (Or.inl ⟨_, rfl⟩) (Or.inr ⟨_, rfl⟩) (Nat.le_refl _) (Nat.le_refl _) (by rw [t110] at hP; exact hP)
  by_cases t111 : x = 111
  · rw [t111]
    refine z_tableIn (tgt := 94) dX9_formOf_1 (by decide) (by decide) rfl (by decide) ?_
    refine z_ldcS (i := 5) dX9_formOf_94 rfl ?_
    exact z_areturn (mi := mX9_formOf) dX9_formOf_96 rfl (Or.inl ⟨_, rfl⟩) (Or.inr ⟨_, rfl⟩) (Nat.le_refl _) (Nat.le_refl _) (by rw [t111] at hP; exact hP)
  by_cases t112 : x = 112
  · rw [t112]
    refine z_tableIn (tgt := 94) dX9_formOf_1 (by decide) (by decide) rfl (by decide) ?_
    refine z_ldcS (i := 5) dX9_formOf_94 rfl ?_
    exact z_areturn (mi := mX9_formOf) dX9_formOf_96 rfl (Or.inl ⟨_, rfl⟩) (Or.inr ⟨_, rfl⟩) (Nat.le_refl _) (Nat.le_refl _) (by rw [t112] at hP; exact hP)
  by_cases t113 : x = 113
  · rw [t113]
    refine z_tableIn (tgt := 94) dX9_formOf_1 (by decide) (by decide) rfl (by decide) ?_
    refine z_ldcS (i := 5) dX9_formOf_94 rfl ?_
    exact z_areturn (mi := mX9_formOf) dX9_formOf_96 rfl (Or.inl ⟨_, rfl⟩) (Or.inr ⟨_, rfl⟩) (Nat.le_refl _) (Nat.le_refl _) (by rw [t113] at hP; exact hP)
  by_cases t114 : x = 114
  · rw [t114]
    refine z_tableIn (tgt := 94) dX9_formOf_1 (by decide) (by decide) rfl (by decide) ?_
    refine z_ldcS (i := 5) dX9_formOf_94 rfl ?_
    exact z_areturn (mi := mX9_formOf) dX9_formOf_96 rfl (Or.inl ⟨_, rfl⟩) (Or.inr ⟨_, rfl⟩) (Nat.le_refl _) (Nat.le_refl _) (by rw [t114] at hP; exact hP)
  by_cases t115 : x = 115
  · rw [t115]
    refine z_tableIn (tgt := 85) dX9_formOf_1 (by decide) (by decide) rfl (by decide) ?_
    refine z_ldcS (i := 2) dX9_formOf_85 rfl ?_
    exact z_areturn (mi := mX9_formOf) dX9_formOf_87 rfl (Or.inl ⟨_, rfl⟩) (Or.inr ⟨_, rfl⟩) (Nat.le_refl _) (Nat.le_refl _) (by rw [t115] at hP; exact hP)
  by_cases t116 : x = 116
  · rw [t116]
    refine z_tableIn (tgt := 94) dX9_formOf_1 (by decide) (by decide) rfl (by decide) ?_
    refine z_ldcS (i := 5) dX9_formOf_94 rfl ?_
    exact z_areturn (mi := mX9_formOf) dX9_formOf_96 rfl (Or.inl ⟨_, rfl⟩) (Or.inr ⟨_, rfl⟩) (Nat.le_refl _) (Nat.le_refl _) (by rw [t116] at hP; exact hP)
  by_cases t117 : x = 117
  · rw [t117]
    refine z_tableIn (tgt := 94) dX9_formOf_1 (by decide) (by decide) rfl (by decide) ?_
    refine z_ldcS (i := 5) dX9_formOf_94 rfl ?_
    exact z_areturn (mi := mX9_formOf) dX9_formOf_96 rfl (Or.inl ⟨_, rfl⟩) (Or.inr ⟨_, rfl⟩) (Nat.le_refl _) (Nat.le_refl _) (by rw [t117] at hP; exact hP)
  by_cases t118 : x = 118
  · rw [t118]
    refine z_tableIn (tgt := 94) dX9_formOf_1 (by decide) (by decide) rfl (by decide) ?_
    refine z_ldcS (i := 5) dX9_formOf_94 rfl ?_
    exact z_areturn (mi := mX9_formOf) dX9_formOf_96 rfl (Or.inl ⟨_, rfl⟩) (Or.inr ⟨_, rfl⟩) (Nat.le_refl _) (Nat.le_refl _) (by rw [t118] at hP; exact hP)
  by_cases t119 : x = 119
  · rw [t119]
    refine z_tableIn (tgt := 88) dX9_formOf_1 (by decide) (by decide) rfl (by decide) ?_
    refine z_ldcS (i := 3) dX9_formOf_88 rfl ?_
    exact z_areturn (mi := mX9_formOf) dX9_formOf_90 rfl (Or.inl ⟨_, rfl⟩) (Or.inr ⟨_, rfl⟩) (Nat.le_refl _) (Nat.le_refl _) (by rw [t119] at hP; exact hP)
  by_cases t120 : x = 120
  · rw [t120]
    refine z_tableIn (tgt := 79) dX9_formOf_1 (by decide) (by decide) rfl (by decide) ?_
    refine z_ldcS (i := 1) dX9_formOf_79 rfl ?_
    exact z_areturn (mi := mX9_formOf) dX9_formOf_81 rfl (Or.inl ⟨_, rfl⟩) (Or.inr ⟨_, rfl⟩) (Nat.le_refl _) (Nat.le_refl _) (by rw [t120] at hP; exact hP)
  by_cases t121 : x = 121
  · rw [t121]
    refine z_tableIn (tgt := 91) dX9_formOf_1 (by decide) (by decide) rfl (by decide) ?_
    refine z_ldcS (i := 4) dX9_formOf_91 rfl ?_
    exact z_areturn (mi := mX9_formOf) dX9_formOf_93 rfl (Or.inl ⟨_, rfl⟩) (Or.inr ⟨_, rfl⟩) (Nat.le_refl _) (Nat.le_refl _) (by rw [t121] at hP; exact hP)
  refine z_tableOut (tgt := 94) dX9_formOf_1 (by have u107 := lv_neT (a := 107) t107 (by decide); have u108 := lv_neT (a := 108) t108 (by decide); have u109 := lv_neT (a := 109) t109 (by decide); have u110 := lv_neT (a := 110) t110 (by decide); have u111 := lv_neT (a := 111) t111 (by decide); have u112 := lv_neT (a := 112) t112 (by decide); have u113 := lv_neT (a := 113) t113 (by decide); have u114 := lv_neT (a := 114) t114 (by decide); have u115 := lv_neT (a := 115) t115 (by decide); have u116 := lv_neT (a := 116) t116 (by decide); have u117 := lv_neT (a := 117) t117 (by decide); have u118 := lv_neT (a := 118) t118 (by decide); have u119 := lv_neT (a := 119) t119 (by decide); have u120 := lv_neT (a := 120) t120 (by decide); have u121 := lv_neT (a := 121) t121 (by decide); omega) (by decide) ?_
  refine z_ldcS (i := 5) dX9_formOf_94 rfl ?_
  exact z_areturn (mi := mX9_formOf) dX9_formOf_96 rfl (Or.inl ⟨_, rfl⟩) (Or.inr ⟨_, rfl⟩) (Nat.le_refl _) (Nat.le_refl _) (by rw [zfx, if_neg t107, if_neg t109, if_neg t115, if_neg t119, if_neg t120, if_neg t121] at hP; exact hP)
