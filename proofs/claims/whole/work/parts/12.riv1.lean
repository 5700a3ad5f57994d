set_option maxHeartbeats 4000000 in
set_option maxRecDepth 10000 in
theorem sX7_at {Γ : zG} {d : Nat} {G : zH} {Post : zV} {a n j : Nat} {f : Nat → Int32} (hA : G a = some (.inl (.int, (n, .inl f)))) (hn : n < 2147483648) (hj : j < n) (hP : Post (some (.int (f j))) G) : zM Γ d mX7_at 0 0 [.ref a, .int (nI j)] G Post := by
  refine zM_of pnX7 rfl (Nat.le_of_ble_eq_true rfl) rfl ?_
  refine z_iload_n dX7_at_0 rfl ?_
  refine z_if_lt (tgt := 16) dX7_at_1 (by decide) (fun c1 => ?_) (fun c1 => ?_)
  · exact absurd c1 (nI_pos (by omega))
  · refine z_iload_n dX7_at_4 rfl ?_
    refine z_aload_n dX7_at_5 rfl ?_
    refine z_alen dX7_at_6 hA rfl ?_
    refine z_icmp_ge (tgt := 16) dX7_at_7 (by decide) (fun c2 => ?_) (fun c2 => ?_)
    · exact absurd c2 (nI_ge hj hn)
    · refine z_aload_n dX7_at_10 rfl ?_
      refine z_iload_n dX7_at_11 rfl ?_
      refine z_iald dX7_at_12 hA (vp_in_nI hj hn) ?_
      refine z_goto (tgt := 17) dX7_at_13 (by decide) ?_
      exact z_ireturn (mi := mX7_at) dX7_at_17 rfl rfl (Nat.le_refl _) (Nat.le_refl _) (by rw [nI_clamp (by omega)]; exact hP)
set_option maxHeartbeats 4000000 in
set_option maxRecDepth 10000 in
theorem sX7_set {Γ : zG} {d : Nat} {G : zH} {Post : zV} {a n j : Nat} {f : Nat → Int32} {x : Int32} (hA : G a = some (.inl (.int, (n, .inl f)))) (hn : n < 2147483648) (hj : j < n) (hP : Post none (zset G a (.inl (.int, (n, .inl (upd f j x)))))) : zM Γ d mX7_set 0 0 [.ref a, .int (nI j), .int x] G Post := by
  refine zM_of pnX7 rfl (Nat.le_of_ble_eq_true rfl) rfl ?_
  refine z_iload_n dX7_set_0 rfl ?_
  refine z_if_lt (tgt := 14) dX7_set_1 (by decide) (fun c1 => ?_) (fun c1 => ?_)
  · exact absurd c1 (nI_pos (by omega))
  · refine z_iload_n dX7_set_4 rfl ?_
    refine z_aload_n dX7_set_5 rfl ?_
    refine z_alen dX7_set_6 hA rfl ?_
    refine z_icmp_ge (tgt := 14) dX7_set_7 (by decide) (fun c2 => ?_) (fun c2 => ?_)
    · exact absurd c2 (nI_ge hj hn)
    · refine z_aload_n dX7_set_10 rfl ?_
      refine z_iload_n dX7_set_11 rfl ?_
      refine z_iload_n dX7_set_12 rfl ?_
      refine z_iast dX7_set_13 hA (vp_in_nI hj hn) ?_
      exact z_vreturn (mi := mX7_set) dX7_set_14 rfl (Nat.le_refl _) (Nat.le_refl _) (by rw [nI_clamp (by omega)]; exact hP)
set_option maxHeartbeats 4000000 in
set_option maxRecDepth 10000 in
theorem sX8_has {Γ : zG} {d : Nat} {G : zH} {Post : zV} {ad : Nat → Nat} {σ : zSt} (hR : zRiv G ad σ) {x : Int32} (hP : Post (some (.int (zb (0 ≤ x ∧ x < σ 13 1)))) G) : zM Γ d mX8_has 0 0 [.ref (ad 1), .int x] G Post := by
  refine zM_of pnX8 rfl (Nat.le_of_ble_eq_true rfl) rfl ?_
  refine z_iload_n dX8_has_0 rfl ?_
  refine z_if_lt (tgt := 16) dX8_has_1 (by decide) (fun c1 => ?_) (fun c1 => ?_)
  · refine z_iconst (v := 0) dX8_has_16 (by decide) ?_
    exact z_ireturn (mi := mX8_has) dX8_has_17 rfl rfl (Nat.le_refl _) (Nat.le_refl _) (by rw [zb_f (fun q => absurd c1 (Int32.not_lt.mpr q.1))] at hP; exact hP)
  · refine z_iload_n dX8_has_4 rfl ?_
    refine z_aload_n dX8_has_5 rfl ?_
    refine z_get dX8_has_6 fX8_7.r (hR.1 _ (by decide)) rfl ?_
    refine z_icmp_ge (tgt := 16) dX8_has_9 (by decide) (fun c2 => ?_) (fun c2 => ?_)
    · refine z_iconst (v := 0) dX8_has_16 (by decide) ?_
      exact z_ireturn (mi := mX8_has) dX8_has_17 rfl rfl (Nat.le_refl _) (Nat.le_refl _) (by rw [zb_f (fun q => absurd c2 (Int32.not_le.mpr q.2))] at hP; exact hP)
    · refine z_iconst (v := 1) dX8_has_12 (by decide) ?_
      refine z_goto (tgt := 17) dX8_has_13 (by decide) ?_
      exact z_ireturn (mi := mX8_has) dX8_has_17 rfl rfl (Nat.le_refl _) (Nat.le_refl _) (by rw [zb_t ⟨Int32.not_lt.mp c1, Int32.not_le.mp c2⟩] at hP; exact hP)
set_option maxHeartbeats 4000000 in
set_option maxRecDepth 10000 in
theorem sX2_has {Γ : zG} {d : Nat} {G : zH} {Post : zV} {ad : Nat → Nat} {σ : zSt} (hR : zRiv G ad σ) {x : Int32} (hP : Post (some (.int (zb (0 ≤ x ∧ x < σ 13 2)))) G) : zM Γ d mX2_has 0 0 [.ref (ad 2), .int x] G Post := by
  refine zM_of pnX2 rfl (Nat.le_of_ble_eq_true rfl) rfl ?_
  refine z_iload_n dX2_has_0 rfl ?_
  refine z_if_lt (tgt := 16) dX2_has_1 (by decide) (fun c1 => ?_) (fun c1 => ?_)
  · refine z_iconst (v := 0) dX2_has_16 (by decide) ?_
    exact z_ireturn (mi := mX2_has) dX2_has_17 rfl rfl (Nat.le_refl _) (Nat.le_refl _) (by rw [zb_f (fun q => absurd c1 (Int32.not_lt.mpr q.1))] at hP; exact hP)
  · refine z_iload_n dX2_has_4 rfl ?_
    refine z_aload_n dX2_has_5 rfl ?_
    refine z_get dX2_has_6 fX2_7.r (hR.1 _ (by decide)) rfl ?_
    refine z_icmp_ge (tgt := 16) dX2_has_9 (by decide) (fun c2 => ?_) (fun c2 => ?_)
    · refine z_iconst (v := 0) dX2_has_16 (by decide) ?_
      exact z_ireturn (mi := mX2_has) dX2_has_17 rfl rfl (Nat.le_refl _) (Nat.le_refl _) (by rw [zb_f (fun q => absurd c2 (Int32.not_le.mpr q.2))] at hP; exact hP)
    · refine z_iconst (v := 1) dX2_has_12 (by decide) ?_
      refine z_goto (tgt := 17) dX2_has_13 (by decide) ?_
      exact z_ireturn (mi := mX2_has) dX2_has_17 rfl rfl (Nat.le_refl _) (Nat.le_refl _) (by rw [zb_t ⟨Int32.not_lt.mp c1, Int32.not_le.mp c2⟩] at hP; exact hP)
set_option maxHeartbeats 4000000 in
set_option maxRecDepth 10000 in
theorem sX0_has {Γ : zG} {d : Nat} {G : zH} {Post : zV} {ad : Nat → Nat} {σ : zSt} (hR : zRiv G ad σ) {x : Int32} (hP : Post (some (.int (zb (0 ≤ x ∧ x < σ 13 4)))) G) : zM Γ d mX0_has 0 0 [.ref (ad 4), .int x] G Post := by
  refine zM_of pnX0 rfl (Nat.le_of_ble_eq_true rfl) rfl ?_
  refine z_iload_n dX0_has_0 rfl ?_
  refine z_if_lt (tgt := 16) dX0_has_1 (by decide) (fun c1 => ?_) (fun c1 => ?_)
  · refine z_iconst (v := 0) dX0_has_16 (by decide) ?_
    exact z_ireturn (mi := mX0_has) dX0_has_17 rfl rfl (Nat.le_refl _) (Nat.le_refl _) (by rw [zb_f (fun q => absurd c1 (Int32.not_lt.mpr q.1))] at hP; exact hP)
  · refine z_iload_n dX0_has_4 rfl ?_
    refine z_aload_n dX0_has_5 rfl ?_
    refine z_get dX0_has_6 fX0_7.r (hR.1 _ (by decide)) rfl ?_
    refine z_icmp_ge (tgt := 16) dX0_has_9 (by decide) (fun c2 => ?_) (fun c2 => ?_)
    · refine z_iconst (v := 0) dX0_has_16 (by decide) ?_
      exact z_ireturn (mi := mX0_has) dX0_has_17 rfl rfl (Nat.le_refl _) (Nat.le_refl _) (by rw [zb_f (fun q => absurd c2 (Int32.not_le.mpr q.2))] at hP; exact hP)
    · refine z_iconst (v := 1) dX0_has_12 (by decide) ?_
      refine z_goto (tgt := 17) dX0_has_13 (by decide) ?_
      exact z_ireturn (mi := mX0_has) dX0_has_17 rfl rfl (Nat.le_refl _) (Nat.le_refl _) (by rw [zb_t ⟨Int32.not_lt.mp c1, Int32.not_le.mp c2⟩] at hP; exact hP)
set_option maxHeartbeats 4000000 in
set_option maxRecDepth 10000 in
theorem sX8_loss {Γ : zG} {d : Nat} {G : zH} {Post : zV} {ad : Nat → Nat} {σ : zSt} (hR : zRiv G ad σ) {s : Nat} (hs : s < 6) (hP : Post (some (.int (σ 0 s / 5 + σ 1 s))) G) : zM Γ (d + 1) mX8_loss 0 0 [.ref (ad 1), .int (nI s)] G Post := by
  refine zM_of pnX8 rfl (Nat.le_of_ble_eq_true rfl) rfl ?_
  refine z_aload_n dX8_loss_0 rfl ?_
  refine z_get dX8_loss_1 fX8_13.r (hR.1 _ (by decide)) rfl ?_
  refine z_iload_n dX8_loss_4 rfl ?_
  refine z_S2 (mi' := mX7_at) dX8_loss_5 lX8_36 nX7_at kX7_at (by decide) (Nat.le_of_ble_eq_true rfl) (Nat.le_refl _) (Nat.le_refl _) ?_
  refine sX7_at (hR.1 _ (by decide)) (by decide) hs ?_
  refine z_iconst (v := 5) dX8_loss_8 (by decide) ?_
  refine z_idiv dX8_loss_9 (by decide) ?_
  refine z_aload_n dX8_loss_10 rfl ?_
  refine z_get dX8_loss_11 fX8_17.r (hR.1 _ (by decide)) rfl ?_
  refine z_iload_n dX8_loss_14 rfl ?_
  refine z_S2 (mi' := mX7_at) dX8_loss_15 lX8_36 nX7_at kX7_at (by decide) (Nat.le_of_ble_eq_true rfl) (Nat.le_refl _) (Nat.le_refl _) ?_
  refine sX7_at (hR.1 _ (by decide)) (by decide) hs ?_
  refine z_iadd dX8_loss_18 ?_
  exact z_ireturn (mi := mX8_loss) dX8_loss_19 rfl rfl (Nat.le_refl _) (Nat.le_refl _) (hP)
set_option maxHeartbeats 4000000 in
set_option maxRecDepth 10000 in
theorem sX8_drift {Γ : zG} {d : Nat} {G : zH} {Post : zV} {x : Int32} (hP : Post (some (.int (zdrift x))) G) : zM Γ d mX8_drift 0 0 [.int x] G Post := by
  refine zM_of pnX8 rfl (Nat.le_of_ble_eq_true rfl) rfl ?_
  refine z_iload_n dX8_drift_0 rfl ?_
  refine z_if_lt (tgt := 15) dX8_drift_1 (by decide) (fun c1 => ?_) (fun c1 => ?_)
  · refine z_iload_n dX8_drift_15 rfl ?_
    refine z_iconst (v := 1) dX8_drift_16 (by decide) ?_
    refine z_isub dX8_drift_17 ?_
    refine z_bipush (v := (-9)) dX8_drift_18 (by decide) ?_
    refine z_mmax dX8_drift_20 lkX8_50 (by decide) (Nat.le_refl _) (Nat.le_refl _) ?_
    exact z_ireturn (mi := mX8_drift) dX8_drift_23 rfl rfl (Nat.le_refl _) (Nat.le_refl _) (by rw [zdrift, if_neg (Int32.not_le.mpr c1)] at hP; exact hP)
  · refine z_iload_n dX8_drift_4 rfl ?_
    refine z_iconst (v := 1) dX8_drift_5 (by decide) ?_
    refine z_iadd dX8_drift_6 ?_
    refine z_bipush (v := 9) dX8_drift_7 (by decide) ?_
    refine z_mmin dX8_drift_9 lkX8_44 (by decide) (Nat.le_refl _) (Nat.le_refl _) ?_
    refine z_goto (tgt := 23) dX8_drift_12 (by decide) ?_
    exact z_ireturn (mi := mX8_drift) dX8_drift_23 rfl rfl (Nat.le_refl _) (Nat.le_refl _) (by rw [zdrift, if_pos (Int32.not_lt.mp c1)] at hP; exact hP)
theorem zcellI (s f : Nat) : nI s * 12 + nI f = nI (12 * s + f) := by
  rw [show (12 : Int32) = nI 12 from rfl, pk_mul, nI_add, Nat.mul_comm]
theorem zmk_t {σ : zSt} {s f : Nat} (h : zmk σ s f = true) : 0 < σ 11 (12 * s + f) := of_decide_eq_true h
theorem zdbt_eq {σ : zSt} {E s f o : Nat} (h : f = o) : ¬ zdbt σ E s f o = true := by subst h; simp [zdbt]
theorem zdbt_m1 {σ : zSt} {E s f o : Nat} (h : ¬ zmk σ s f = true) : ¬ zdbt σ E s f o = true := by simp [zdbt, h]
theorem zdbt_m2 {σ : zSt} {E s f o : Nat} (h : ¬ zmk σ s o = true) : ¬ zdbt σ E s f o = true := by simp [zdbt, h]
theorem zdbt_go {σ : zSt} {E s f o : Nat} (h : f ≠ o) (h1 : zmk σ s f = true) (h2 : zmk σ s o = true) : zdbt σ E s f o = zcmp (σ 5 f - σ 5 o) (ztrue σ E s f - ztrue σ E s o) := by simp [zdbt, h, h1, h2]
theorem znI_ne {a b : Nat} (ha : a < 2147483648) (hb : b < 2147483648) (h : ¬ nI a = nI b) : a ≠ b := fun q => h (by rw [q])
theorem zgeN {N i : Nat} {x : Int32} (hx : x = nI N) (hN : N < 2147483648) (hi : i < 2147483648) (h : x ≤ nI i) : N ≤ i := by rw [hx] at h; exact (nI_leI hN hi).mp h
theorem zltN {N i : Nat} {x : Int32} (hx : x = nI N) (hN : N < 2147483648) (hi : i < 2147483648) (h : ¬ x ≤ nI i) : i < N := Nat.lt_of_not_le fun q => h (by rw [hx]; exact (nI_leI hN hi).mpr q)
theorem zff_f {p : Nat → Bool} {i : Nat} (h : ∀ k, k < i → p k = false) (hi : p i = false) : ∀ k, k < i + 1 → p k = false := fun k hk => by
  by_cases e : k = i
  · subst e; exact hi
  · exact h k (by omega)
theorem zbf {b : Bool} (h : ¬ b = true) : b = false := by cases b; rfl; exact absurd rfl h
set_option maxHeartbeats 4000000 in
set_option maxRecDepth 10000 in
theorem sX2_findYear {Γ : zG} {d : Nat} {G : zH} {Post : zV} {ad : Nat → Nat} {σ : zSt} (hR : zRiv G ad σ) {S F E K : Nat} (hN : zN σ S F E K) {x : Int32} (hP : Post (some (.int (zfi (fun k => decide (σ 4 k = x)) F))) G) : zM Γ (d + 1) mX2_findYear 0 0 [.ref (ad 2), .int x] G Post := by
  refine zM_of pnX2 rfl (Nat.le_of_ble_eq_true rfl) rfl ?_
  obtain ⟨hS, hS6, hF, hF12, hE, hE4, hK, hK3⟩ := id hN
  have key : ∀ (r : Nat) (i : Nat), i ≤ F → F < i + r → (∀ k, k < i → (fun k => decide (σ 4 k = x)) k = false) → zX Γ mX2_findYear (d + 1) 0 0 2 [some (.ref (ad 2)), some (.int x), some (.int (nI i))] [] G 0 0 (zlift Post) := by
    intro r
    induction r with
    | zero =>
      intro i hi1 hi2 hno
      exact absurd hi2 (by omega)
    | succ r ih =>
      intro i hi1 hi2 hno
      refine z_iload_n dX2_findYear_2 rfl ?_
      refine z_aload_n dX2_findYear_3 rfl ?_
      refine z_get dX2_findYear_4 fX2_7.r (hR.1 _ (by decide)) rfl ?_
      refine z_icmp_ge (tgt := 30) dX2_findYear_7 (by decide) (fun c1 => ?_) (fun c1 => ?_)
      · have hi9 := zgeN hF (by omega) (by omega) c1
        refine z_iconst (v := (-1)) dX2_findYear_30 (by decide) ?_
        exact z_ireturn (mi := mX2_findYear) dX2_findYear_31 rfl rfl (Nat.le_refl _) (Nat.le_refl _) (by rw [zfi_no (by rw [show F = i by omega]; exact hno)] at hP; exact hP)
      · have hi9 := zltN hF (by omega) (by omega) c1
        refine z_aload_n dX2_findYear_10 rfl ?_
        refine z_get dX2_findYear_11 fX2_13.r (hR.1 _ (by decide)) rfl ?_
        refine z_iload_n dX2_findYear_14 rfl ?_
        refine z_S2 (mi' := mX7_at) dX2_findYear_15 lX2_33 nX7_at kX7_at (by decide) (Nat.le_of_ble_eq_true rfl) (Nat.le_refl _) (Nat.le_refl _) ?_
        refine sX7_at (hR.1 _ (by decide)) (by decide) (show i < 12 by omega) ?_
        refine z_iload_n dX2_findYear_18 rfl ?_
        refine z_icmp_ne (tgt := 24) dX2_findYear_19 (by decide) (fun c2 => ?_) (fun c2 => ?_)
        · refine z_iinc dX2_findYear_24 rfl rfl (by decide) rfl ?_
          refine z_goto (tgt := 2) dX2_findYear_27 (by decide) ?_
          exact z_sub (lv' := [some (.ref (ad 2)), some (.int x), some (.int (nI (i + 1)))]) ⟨rfl, rfl, zsl (zinc i), trivial⟩ (ih (i + 1) (by omega) (by omega) (zff_f hno (decide_eq_false c2)))
        · refine z_iload_n dX2_findYear_22 rfl ?_
          exact z_ireturn (mi := mX2_findYear) dX2_findYear_23 rfl rfl (Nat.le_refl _) (Nat.le_refl _) (by rw [zfi_yes hno (decide_eq_true c2) hi9] at hP; exact hP)
  refine z_iconst (v := 0) dX2_findYear_0 (by decide) ?_
  refine z_istore_n dX2_findYear_1 (by decide) rfl ?_
  exact z_sub (lv' := [some (.ref (ad 2)), some (.int x), some (.int (nI 0))]) ⟨rfl, rfl, rfl, trivial⟩ (key (F + 1) 0 (by omega) (by omega) (fun k hk => absurd hk (by omega)))
set_option maxHeartbeats 4000000 in
set_option maxRecDepth 10000 in
theorem sX1_find {Γ : zG} {d : Nat} {G : zH} {Post : zV} {ad : Nat → Nat} {σ : zSt} (hR : zRiv G ad σ) {S F E K : Nat} (hN : zN σ S F E K) {x : Int32} (hP : Post (some (.int (zfi (fun k => decide (σ 7 k = x)) E))) G) : zM Γ (d + 1) mX1_find 0 0 [.ref (ad 3), .int x] G Post := by
  refine zM_of pnX1 rfl (Nat.le_of_ble_eq_true rfl) rfl ?_
  obtain ⟨hS, hS6, hF, hF12, hE, hE4, hK, hK3⟩ := id hN
  have key : ∀ (r : Nat) (i : Nat), i ≤ E → E < i + r → (∀ k, k < i → (fun k => decide (σ 7 k = x)) k = false) → zX Γ mX1_find (d + 1) 0 0 2 [some (.ref (ad 3)), some (.int x), some (.int (nI i))] [] G 0 0 (zlift Post) := by
    intro r
    induction r with
    | zero =>
      intro i hi1 hi2 hno
      exact absurd hi2 (by omega)
    | succ r ih =>
      intro i hi1 hi2 hno
      refine z_iload_n dX1_find_2 rfl ?_
      refine z_aload_n dX1_find_3 rfl ?_
      refine z_get dX1_find_4 fX1_7.r (hR.1 _ (by decide)) rfl ?_
      refine z_icmp_ge (tgt := 30) dX1_find_7 (by decide) (fun c1 => ?_) (fun c1 => ?_)
      · have hi9 := zgeN hE (by omega) (by omega) c1
        refine z_iconst (v := (-1)) dX1_find_30 (by decide) ?_
        exact z_ireturn (mi := mX1_find) dX1_find_31 rfl rfl (Nat.le_refl _) (Nat.le_refl _) (by rw [zfi_no (by rw [show E = i by omega]; exact hno)] at hP; exact hP)
      · have hi9 := zltN hE (by omega) (by omega) c1
        refine z_aload_n dX1_find_10 rfl ?_
        refine z_get dX1_find_11 fX1_13.r (hR.1 _ (by decide)) rfl ?_
        refine z_iload_n dX1_find_14 rfl ?_
        refine z_S2 (mi' := mX7_at) dX1_find_15 lX1_26 nX7_at kX7_at (by decide) (Nat.le_of_ble_eq_true rfl) (Nat.le_refl _) (Nat.le_refl _) ?_
        refine sX7_at (hR.1 _ (by decide)) (by decide) (show i < 4 by omega) ?_
        refine z_iload_n dX1_find_18 rfl ?_
        refine z_icmp_ne (tgt := 24) dX1_find_19 (by decide) (fun c2 => ?_) (fun c2 => ?_)
        · refine z_iinc dX1_find_24 rfl rfl (by decide) rfl ?_
          refine z_goto (tgt := 2) dX1_find_27 (by decide) ?_
          exact z_sub (lv' := [some (.ref (ad 3)), some (.int x), some (.int (nI (i + 1)))]) ⟨rfl, rfl, zsl (zinc i), trivial⟩ (ih (i + 1) (by omega) (by omega) (zff_f hno (decide_eq_false c2)))
        · refine z_iload_n dX1_find_22 rfl ?_
          exact z_ireturn (mi := mX1_find) dX1_find_23 rfl rfl (Nat.le_refl _) (Nat.le_refl _) (by rw [zfi_yes hno (decide_eq_true c2) hi9] at hP; exact hP)
  refine z_iconst (v := 0) dX1_find_0 (by decide) ?_
  refine z_istore_n dX1_find_1 (by decide) rfl ?_
  exact z_sub (lv' := [some (.ref (ad 3)), some (.int x), some (.int (nI 0))]) ⟨rfl, rfl, rfl, trivial⟩ (key (E + 1) 0 (by omega) (by omega) (fun k hk => absurd hk (by omega)))
set_option maxHeartbeats 4000000 in
set_option maxRecDepth 10000 in
theorem sX2_findLatestAhead {Γ : zG} {d : Nat} {G : zH} {Post : zV} {ad : Nat → Nat} {σ : zSt} (hR : zRiv G ad σ) {S F E K : Nat} (hN : zN σ S F E K) {x : Int32} (hP : Post (some (.int (zoi (zla (σ 4) x F)))) G) : zM Γ (d + 1) mX2_findLatestAhead 0 0 [.ref (ad 2), .int x] G Post := by
  refine zM_of pnX2 rfl (Nat.le_of_ble_eq_true rfl) rfl ?_
  obtain ⟨hS, hS6, hF, hF12, hE, hE4, hK, hK3⟩ := id hN
  have key : ∀ (r : Nat) (i : Nat), i ≤ F → F < i + r → zX Γ mX2_findLatestAhead (d + 1) 0 0 4 [some (.ref (ad 2)), some (.int x), some (.int (zoi (zla (σ 4) x i))), some (.int (nI i)), none] [] G 0 0 (zlift Post) := by
    intro r
    induction r with
    | zero =>
      intro i hi1 hi2
      exact absurd hi2 (by omega)
    | succ r ih =>
      intro i hi1 hi2
      refine z_iload_n dX2_findLatestAhead_4 rfl ?_
      refine z_aload_n dX2_findLatestAhead_5 rfl ?_
      refine z_get dX2_findLatestAhead_6 fX2_7.r (hR.1 _ (by decide)) rfl ?_
      refine z_icmp_ge (tgt := 53) dX2_findLatestAhead_9 (by decide) (fun c1 => ?_) (fun c1 => ?_)
      · have hi9 := zgeN hF (by omega) (by omega) c1
        refine z_iload_n dX2_findLatestAhead_53 rfl ?_
        exact z_ireturn (mi := mX2_findLatestAhead) dX2_findLatestAhead_54 rfl rfl (Nat.le_refl _) (Nat.le_refl _) (by rw [show F = i by omega] at hP; exact hP)
      · have hi9 := zltN hF (by omega) (by omega) c1
        refine z_aload_n dX2_findLatestAhead_12 rfl ?_
        refine z_get dX2_findLatestAhead_13 fX2_13.r (hR.1 _ (by decide)) rfl ?_
        refine z_iload_n dX2_findLatestAhead_16 rfl ?_
        refine z_S2 (mi' := mX7_at) dX2_findLatestAhead_17 lX2_33 nX7_at kX7_at (by decide) (Nat.le_of_ble_eq_true rfl) (Nat.le_refl _) (Nat.le_refl _) ?_
        refine sX7_at (hR.1 _ (by decide)) (by decide) (show i < 12 by omega) ?_
        refine z_istore dX2_findLatestAhead_20 (by decide) rfl ?_
        refine z_iload dX2_findLatestAhead_22 rfl ?_
        refine z_iload_n dX2_findLatestAhead_24 rfl ?_
        refine z_icmp_ge (tgt := 47) dX2_findLatestAhead_25 (by decide) (fun c2 => ?_) (fun c2 => ?_)
        · have e9 : zla (σ 4) x (i + 1) = zla (σ 4) x i := by
            rw [zla]
            cases zla (σ 4) x i with
            | none => exact if_neg (Int32.not_lt.mpr c2)
            | some k => exact if_neg (fun q => Int32.not_lt.mpr c2 q.1)
          refine z_iinc dX2_findLatestAhead_47 rfl rfl (by decide) rfl ?_
          refine z_goto (tgt := 4) dX2_findLatestAhead_50 (by decide) ?_
          exact z_sub (lv' := [some (.ref (ad 2)), some (.int x), some (.int (zoi (zla (σ 4) x (i + 1)))), some (.int (nI (i + 1))), none]) ⟨rfl, rfl, zsl (by (rw [e9]) <;> rfl), zsl (zinc i), trivial⟩ (ih (i + 1) (by omega) (by omega))
        · refine z_iload_n dX2_findLatestAhead_28 rfl ?_
          refine z_if_lt (tgt := 45) dX2_findLatestAhead_29 (by decide) (fun c3 => ?_) (fun c3 => ?_)
          · have e9 : zla (σ 4) x (i + 1) = some i := by
              rw [zla]
              cases hz : zla (σ 4) x i with
              | none => exact if_pos (Int32.not_le.mp c2)
              | some k =>
                rw [hz] at c3
                exact absurd c3 (nI_pos (by have := zla_lt hz; omega))
            refine z_iload_n dX2_findLatestAhead_45 rfl ?_
            refine z_istore_n dX2_findLatestAhead_46 (by decide) rfl ?_
            refine z_iinc dX2_findLatestAhead_47 rfl rfl (by decide) rfl ?_
            refine z_goto (tgt := 4) dX2_findLatestAhead_50 (by decide) ?_
            exact z_sub (lv' := [some (.ref (ad 2)), some (.int x), some (.int (zoi (zla (σ 4) x (i + 1)))), some (.int (nI (i + 1))), none]) ⟨rfl, rfl, zsl (by (rw [e9]) <;> rfl), zsl (zinc i), trivial⟩ (ih (i + 1) (by omega) (by omega))
          · obtain ⟨j, hz⟩ : ∃ j, zla (σ 4) x i = some j := by
              cases hz : zla (σ 4) x i with
              | none => rw [hz] at c3; exact absurd (by decide) c3
              | some j => exact ⟨j, rfl⟩
            rw [hz]
            refine z_iload dX2_findLatestAhead_32 rfl ?_
            refine z_aload_n dX2_findLatestAhead_34 rfl ?_
            refine z_get dX2_findLatestAhead_35 fX2_13.r (hR.1 _ (by decide)) rfl ?_
            refine z_iload_n dX2_findLatestAhead_38 rfl ?_
            refine z_S2 (mi' := mX7_at) dX2_findLatestAhead_39 lX2_33 nX7_at kX7_at (by decide) (Nat.le_of_ble_eq_true rfl) (Nat.le_refl _) (Nat.le_refl _) ?_
            refine sX7_at (hR.1 _ (by decide)) (by decide) (show j < 12 by have := zla_lt hz; omega) ?_
            refine z_icmp_le (tgt := 47) dX2_findLatestAhead_42 (by decide) (fun c4 => ?_) (fun c4 => ?_)
            · have e9 : zla (σ 4) x (i + 1) = some j := by
                rw [zla, hz]
                exact if_neg (fun q => Int32.not_lt.mpr c4 q.2)
              refine z_iinc dX2_findLatestAhead_47 rfl rfl (by decide) rfl ?_
              refine z_goto (tgt := 4) dX2_findLatestAhead_50 (by decide) ?_
              exact z_sub (lv' := [some (.ref (ad 2)), some (.int x), some (.int (zoi (zla (σ 4) x (i + 1)))), some (.int (nI (i + 1))), none]) ⟨rfl, rfl, zsl (by (rw [e9]) <;> rfl), zsl (zinc i), trivial⟩ (ih (i + 1) (by omega) (by omega))
            · have e9 : zla (σ 4) x (i + 1) = some i := by
                rw [zla, hz]
                exact if_pos ⟨Int32.not_le.mp c2, Int32.not_le.mp c4⟩
              refine z_iload_n dX2_findLatestAhead_45 rfl ?_
              refine z_istore_n dX2_findLatestAhead_46 (by decide) rfl ?_
              refine z_iinc dX2_findLatestAhead_47 rfl rfl (by decide) rfl ?_
              refine z_goto (tgt := 4) dX2_findLatestAhead_50 (by decide) ?_
              exact z_sub (lv' := [some (.ref (ad 2)), some (.int x), some (.int (zoi (zla (σ 4) x (i + 1)))), some (.int (nI (i + 1))), none]) ⟨rfl, rfl, zsl (by (rw [e9]) <;> rfl), zsl (zinc i), trivial⟩ (ih (i + 1) (by omega) (by omega))
  refine z_iconst (v := (-1)) dX2_findLatestAhead_0 (by decide) ?_
  refine z_istore_n dX2_findLatestAhead_1 (by decide) rfl ?_
  refine z_iconst (v := 0) dX2_findLatestAhead_2 (by decide) ?_
  refine z_istore_n dX2_findLatestAhead_3 (by decide) rfl ?_
  exact z_sub (lv' := [some (.ref (ad 2)), some (.int x), some (.int (zoi (zla (σ 4) x 0))), some (.int (nI 0)), none]) ⟨rfl, rfl, rfl, rfl, trivial⟩ (key (F + 1) 0 (by omega) (by omega))
set_option maxHeartbeats 4000000 in
set_option maxRecDepth 10000 in
theorem sX1_shiftIn {Γ : zG} {d : Nat} {G : zH} {Post : zV} {ad : Nat → Nat} {σ : zSt} (hR : zRiv G ad σ) {S F E K : Nat} (hN : zN σ S F E K) {x : Int32} (hP : Post (some (.int (zshift σ E x))) G) : zM Γ (d + 1) mX1_shiftIn 0 0 [.ref (ad 3), .int x] G Post := by
  refine zM_of pnX1 rfl (Nat.le_of_ble_eq_true rfl) rfl ?_
  obtain ⟨hS, hS6, hF, hF12, hE, hE4, hK, hK3⟩ := id hN
  have key : ∀ (r : Nat) (i : Nat), i ≤ E → E < i + r → zX Γ mX1_shiftIn (d + 1) 0 0 7 [some (.ref (ad 3)), some (.int x), some (.int (zsh (σ 7) (σ 8) x i).1), some (.int (zsh (σ 7) (σ 8) x i).2), some (.int (nI i)), none] [] G 0 0 (zlift Post) := by
    intro r
    induction r with
    | zero =>
      intro i hi1 hi2
      exact absurd hi2 (by omega)
    | succ r ih =>
      intro i hi1 hi2
      refine z_iload dX1_shiftIn_7 rfl ?_
      refine z_aload_n dX1_shiftIn_9 rfl ?_
      refine z_get dX1_shiftIn_10 fX1_7.r (hR.1 _ (by decide)) rfl ?_
      refine z_icmp_ge (tgt := 58) dX1_shiftIn_13 (by decide) (fun c1 => ?_) (fun c1 => ?_)
      · have hi9 := zgeN hE (by omega) (by omega) c1
        refine z_iload_n dX1_shiftIn_58 rfl ?_
        exact z_ireturn (mi := mX1_shiftIn) dX1_shiftIn_59 rfl rfl (Nat.le_refl _) (Nat.le_refl _) (by rw [zshift, show E = i by omega] at hP; exact hP)
      · have hi9 := zltN hE (by omega) (by omega) c1
        refine z_aload_n dX1_shiftIn_16 rfl ?_
        refine z_get dX1_shiftIn_17 fX1_13.r (hR.1 _ (by decide)) rfl ?_
        refine z_iload dX1_shiftIn_20 rfl ?_
        refine z_S2 (mi' := mX7_at) dX1_shiftIn_22 lX1_26 nX7_at kX7_at (by decide) (Nat.le_of_ble_eq_true rfl) (Nat.le_refl _) (Nat.le_refl _) ?_
        refine sX7_at (hR.1 _ (by decide)) (by decide) (show i < 4 by omega) ?_
        refine z_istore dX1_shiftIn_25 (by decide) rfl ?_
        refine z_iload dX1_shiftIn_27 rfl ?_
        refine z_iload_n dX1_shiftIn_29 rfl ?_
        refine z_icmp_gt (tgt := 52) dX1_shiftIn_30 (by decide) (fun c2 => ?_) (fun c2 => ?_)
        · have e9 : zsh (σ 7) (σ 8) x (i + 1) = zsh (σ 7) (σ 8) x i := by rw [zsh, if_neg (fun q => Int32.not_lt.mpr q.1 c2)]
          refine z_iinc dX1_shiftIn_52 rfl rfl (by decide) rfl ?_
          refine z_goto (tgt := 7) dX1_shiftIn_55 (by decide) ?_
          exact z_sub (lv' := [some (.ref (ad 3)), some (.int x), some (.int (zsh (σ 7) (σ 8) x (i + 1)).1), some (.int (zsh (σ 7) (σ 8) x (i + 1)).2), some (.int (nI (i + 1))), none]) ⟨rfl, rfl, zsl (by (rw [e9]) <;> rfl), zsl (by (rw [e9]) <;> rfl), zsl (zinc i), trivial⟩ (ih (i + 1) (by omega) (by omega))
        · refine z_iload dX1_shiftIn_33 rfl ?_
          refine z_iload_n dX1_shiftIn_35 rfl ?_
          refine z_icmp_le (tgt := 52) dX1_shiftIn_36 (by decide) (fun c3 => ?_) (fun c3 => ?_)
          · have e9 : zsh (σ 7) (σ 8) x (i + 1) = zsh (σ 7) (σ 8) x i := by rw [zsh, if_neg (fun q => Int32.not_lt.mpr c3 q.2)]
            refine z_iinc dX1_shiftIn_52 rfl rfl (by decide) rfl ?_
            refine z_goto (tgt := 7) dX1_shiftIn_55 (by decide) ?_
            exact z_sub (lv' := [some (.ref (ad 3)), some (.int x), some (.int (zsh (σ 7) (σ 8) x (i + 1)).1), some (.int (zsh (σ 7) (σ 8) x (i + 1)).2), some (.int (nI (i + 1))), none]) ⟨rfl, rfl, zsl (by (rw [e9]) <;> rfl), zsl (by (rw [e9]) <;> rfl), zsl (zinc i), trivial⟩ (ih (i + 1) (by omega) (by omega))
          · have e9 : zsh (σ 7) (σ 8) x (i + 1) = (σ 7 i, σ 8 i) := by rw [zsh, if_pos ⟨Int32.not_lt.mp c2, Int32.not_le.mp c3⟩]
            refine z_iload dX1_shiftIn_39 rfl ?_
            refine z_istore_n dX1_shiftIn_41 (by decide) rfl ?_
            refine z_aload_n dX1_shiftIn_42 rfl ?_
            refine z_get dX1_shiftIn_43 fX1_17.r (hR.1 _ (by decide)) rfl ?_
            refine z_iload dX1_shiftIn_46 rfl ?_
            refine z_S2 (mi' := mX7_at) dX1_shiftIn_48 lX1_26 nX7_at kX7_at (by decide) (Nat.le_of_ble_eq_true rfl) (Nat.le_refl _) (Nat.le_refl _) ?_
            refine sX7_at (hR.1 _ (by decide)) (by decide) (show i < 4 by omega) ?_
            refine z_istore_n dX1_shiftIn_51 (by decide) rfl ?_
            refine z_iinc dX1_shiftIn_52 rfl rfl (by decide) rfl ?_
            refine z_goto (tgt := 7) dX1_shiftIn_55 (by decide) ?_
            exact z_sub (lv' := [some (.ref (ad 3)), some (.int x), some (.int (zsh (σ 7) (σ 8) x (i + 1)).1), some (.int (zsh (σ 7) (σ 8) x (i + 1)).2), some (.int (nI (i + 1))), none]) ⟨rfl, rfl, zsl (by (rw [e9]) <;> rfl), zsl (by (rw [e9]) <;> rfl), zsl (zinc i), trivial⟩ (ih (i + 1) (by omega) (by omega))
  refine z_iconst (v := (-1)) dX1_shiftIn_0 (by decide) ?_
  refine z_istore_n dX1_shiftIn_1 (by decide) rfl ?_
  refine z_iconst (v := 0) dX1_shiftIn_2 (by decide) ?_
  refine z_istore_n dX1_shiftIn_3 (by decide) rfl ?_
  refine z_iconst (v := 0) dX1_shiftIn_4 (by decide) ?_
  refine z_istore dX1_shiftIn_5 (by decide) rfl ?_
  exact z_sub (lv' := [some (.ref (ad 3)), some (.int x), some (.int (zsh (σ 7) (σ 8) x 0).1), some (.int (zsh (σ 7) (σ 8) x 0).2), some (.int (nI 0)), none]) ⟨rfl, rfl, rfl, rfl, rfl, trivial⟩ (key (E + 1) 0 (by omega) (by omega))
set_option maxHeartbeats 4000000 in
set_option maxRecDepth 10000 in
theorem sX0_sum {Γ : zG} {d : Nat} {G : zH} {Post : zV} {ad : Nat → Nat} {σ : zSt} (hR : zRiv G ad σ) {S F E K : Nat} (hN : zN σ S F E K) (hP : Post (some (.int (zsumI (σ 9) K))) G) : zM Γ (d + 1) mX0_sum 0 0 [.ref (ad 4)] G Post := by
  refine zM_of pnX0 rfl (Nat.le_of_ble_eq_true rfl) rfl ?_
  obtain ⟨hS, hS6, hF, hF12, hE, hE4, hK, hK3⟩ := id hN
  have key : ∀ (r : Nat) (i : Nat), i ≤ K → K < i + r → zX Γ mX0_sum (d + 1) 0 0 4 [some (.ref (ad 4)), some (.int (zsumI (σ 9) i)), some (.int (nI i))] [] G 0 0 (zlift Post) := by
    intro r
    induction r with
    | zero =>
      intro i hi1 hi2
      exact absurd hi2 (by omega)
    | succ r ih =>
      intro i hi1 hi2
      refine z_iload_n dX0_sum_4 rfl ?_
      refine z_aload_n dX0_sum_5 rfl ?_
      refine z_get dX0_sum_6 fX0_7.r (hR.1 _ (by decide)) rfl ?_
      refine z_icmp_ge (tgt := 29) dX0_sum_9 (by decide) (fun c1 => ?_) (fun c1 => ?_)
      · have hi9 := zgeN hK (by omega) (by omega) c1
        refine z_iload_n dX0_sum_29 rfl ?_
        exact z_ireturn (mi := mX0_sum) dX0_sum_30 rfl rfl (Nat.le_refl _) (Nat.le_refl _) (by rw [show i = K by omega]; exact hP)
      · have hi9 := zltN hK (by omega) (by omega) c1
        refine z_iload_n dX0_sum_12 rfl ?_
        refine z_aload_n dX0_sum_13 rfl ?_
        refine z_get dX0_sum_14 fX0_13.r (hR.1 _ (by decide)) rfl ?_
        refine z_iload_n dX0_sum_17 rfl ?_
        refine z_S2 (mi' := mX7_at) dX0_sum_18 lX0_27 nX7_at kX7_at (by decide) (Nat.le_of_ble_eq_true rfl) (Nat.le_refl _) (Nat.le_refl _) ?_
        refine sX7_at (hR.1 _ (by decide)) (by decide) (show i < 3 by omega) ?_
        refine z_iadd dX0_sum_21 ?_
        refine z_istore_n dX0_sum_22 (by decide) rfl ?_
        refine z_iinc dX0_sum_23 rfl rfl (by decide) rfl ?_
        refine z_goto (tgt := 4) dX0_sum_26 (by decide) ?_
        exact z_sub (lv' := [some (.ref (ad 4)), some (.int (zsumI (σ 9) (i + 1))), some (.int (nI (i + 1)))]) ⟨rfl, rfl, zsl (zinc i), trivial⟩ (ih (i + 1) (by omega) (by omega))
  refine z_iconst (v := 0) dX0_sum_0 (by decide) ?_
  refine z_istore_n dX0_sum_1 (by decide) rfl ?_
  refine z_iconst (v := 0) dX0_sum_2 (by decide) ?_
  refine z_istore_n dX0_sum_3 (by decide) rfl ?_
  exact z_sub (lv' := [some (.ref (ad 4)), some (.int (zsumI (σ 9) 0)), some (.int (nI 0))]) ⟨rfl, rfl, rfl, trivial⟩ (key (K + 1) 0 (by omega) (by omega))
set_option maxHeartbeats 4000000 in
set_option maxRecDepth 10000 in
theorem sX4_cell {Γ : zG} {d : Nat} {G : zH} {Post : zV} {s f : Nat} (hP : Post (some (.int (nI (12 * s + f)))) G) : zM Γ d mX4_cell 0 0 [.int (nI s), .int (nI f)] G Post := by
  refine zM_of pnX4 rfl (Nat.le_of_ble_eq_true rfl) rfl ?_
  refine z_iload_n dX4_cell_0 rfl ?_
  refine z_bipush (v := 12) dX4_cell_1 (by decide) ?_
  refine z_imul dX4_cell_3 ?_
  refine z_iload_n dX4_cell_4 rfl ?_
  refine z_iadd dX4_cell_5 ?_
  exact z_ireturn (mi := mX4_cell) dX4_cell_6 rfl rfl (Nat.le_refl _) (Nat.le_refl _) (by rw [← zcellI] at hP; exact hP)
set_option maxHeartbeats 4000000 in
set_option maxRecDepth 10000 in
theorem sX4_has {Γ : zG} {d : Nat} {G : zH} {Post : zV} {ad : Nat → Nat} {σ : zSt} (hR : zRiv G ad σ) {s f : Nat} (hs : s < 6) (hf : f < 12) (hP : Post (some (.int (zb (zmk σ s f = true)))) G) : zM Γ (d + 1) mX4_has 0 0 [.ref (ad 5), .int (nI s), .int (nI f)] G Post := by
  refine zM_of pnX4 rfl (Nat.le_of_ble_eq_true rfl) rfl ?_
  refine z_aload_n dX4_has_0 rfl ?_
  refine z_get dX4_has_1 fX4_17.r (hR.1 _ (by decide)) rfl ?_
  refine z_iload_n dX4_has_4 rfl ?_
  refine z_iload_n dX4_has_5 rfl ?_
  refine z_S2 (mi' := mX4_cell) dX4_has_6 lX4_39 nX4_cell kX4_cell (by decide) (Nat.le_of_ble_eq_true rfl) (Nat.le_refl _) (Nat.le_refl _) ?_
  refine sX4_cell ?_
  refine z_S2 (mi' := mX7_at) dX4_has_9 lX4_43 nX7_at kX7_at (by decide) (Nat.le_of_ble_eq_true rfl) (Nat.le_refl _) (Nat.le_refl _) ?_
  refine sX7_at (hR.1 _ (by decide)) (by decide) (show 12 * s + f < 72 by omega) ?_
  refine z_if_le (tgt := 19) dX4_has_12 (by decide) (fun c1 => ?_) (fun c1 => ?_)
  · refine z_iconst (v := 0) dX4_has_19 (by decide) ?_
    exact z_ireturn (mi := mX4_has) dX4_has_20 rfl rfl (Nat.le_refl _) (Nat.le_refl _) (by rw [zb_f (p := zmk σ s f = true) (fun q => Int32.not_lt.mpr c1 (zmk_t q))] at hP; exact hP)
  · refine z_iconst (v := 1) dX4_has_15 (by decide) ?_
    refine z_goto (tgt := 20) dX4_has_16 (by decide) ?_
    exact z_ireturn (mi := mX4_has) dX4_has_20 rfl rfl (Nat.le_refl _) (Nat.le_refl _) (by rw [zb_t (p := zmk σ s f = true) (decide_eq_true (Int32.not_le.mp c1))] at hP; exact hP)
set_option maxHeartbeats 4000000 in
set_option maxRecDepth 10000 in
theorem sX4_heightAt {Γ : zG} {d : Nat} {G : zH} {Post : zV} {ad : Nat → Nat} {σ : zSt} (hR : zRiv G ad σ) {s f : Nat} (hs : s < 6) (hf : f < 12) (hP : Post (some (.int (σ 10 (12 * s + f)))) G) : zM Γ (d + 1) mX4_heightAt 0 0 [.ref (ad 5), .int (nI s), .int (nI f)] G Post := by
  refine zM_of pnX4 rfl (Nat.le_of_ble_eq_true rfl) rfl ?_
  refine z_aload_n dX4_heightAt_0 rfl ?_
  refine z_get dX4_heightAt_1 fX4_13.r (hR.1 _ (by decide)) rfl ?_
  refine z_iload_n dX4_heightAt_4 rfl ?_
  refine z_iload_n dX4_heightAt_5 rfl ?_
  refine z_S2 (mi' := mX4_cell) dX4_heightAt_6 lX4_39 nX4_cell kX4_cell (by decide) (Nat.le_of_ble_eq_true rfl) (Nat.le_refl _) (Nat.le_refl _) ?_
  refine sX4_cell ?_
  refine z_S2 (mi' := mX7_at) dX4_heightAt_9 lX4_43 nX7_at kX7_at (by decide) (Nat.le_of_ble_eq_true rfl) (Nat.le_refl _) (Nat.le_refl _) ?_
  refine sX7_at (hR.1 _ (by decide)) (by decide) (show 12 * s + f < 72 by omega) ?_
  exact z_ireturn (mi := mX4_heightAt) dX4_heightAt_12 rfl rfl (Nat.le_refl _) (Nat.le_refl _) (hP)
set_option maxHeartbeats 4000000 in
set_option maxRecDepth 10000 in
theorem sX4_depthAt {Γ : zG} {d : Nat} {G : zH} {Post : zV} {ad : Nat → Nat} {σ : zSt} (hR : zRiv G ad σ) {s f : Nat} (hs : s < 6) (hf : f < 12) (hP : Post (some (.int (σ 11 (12 * s + f)))) G) : zM Γ (d + 1) mX4_depthAt 0 0 [.ref (ad 5), .int (nI s), .int (nI f)] G Post := by
  refine zM_of pnX4 rfl (Nat.le_of_ble_eq_true rfl) rfl ?_
  refine z_aload_n dX4_depthAt_0 rfl ?_
  refine z_get dX4_depthAt_1 fX4_17.r (hR.1 _ (by decide)) rfl ?_
  refine z_iload_n dX4_depthAt_4 rfl ?_
  refine z_iload_n dX4_depthAt_5 rfl ?_
  refine z_S2 (mi' := mX4_cell) dX4_depthAt_6 lX4_39 nX4_cell kX4_cell (by decide) (Nat.le_of_ble_eq_true rfl) (Nat.le_refl _) (Nat.le_refl _) ?_
  refine sX4_cell ?_
  refine z_S2 (mi' := mX7_at) dX4_depthAt_9 lX4_43 nX7_at kX7_at (by decide) (Nat.le_of_ble_eq_true rfl) (Nat.le_refl _) (Nat.le_refl _) ?_
  refine sX7_at (hR.1 _ (by decide)) (by decide) (show 12 * s + f < 72 by omega) ?_
  exact z_ireturn (mi := mX4_depthAt) dX4_depthAt_12 rfl rfl (Nat.le_refl _) (Nat.le_refl _) (hP)
set_option maxHeartbeats 4000000 in
set_option maxRecDepth 10000 in
theorem sX4_cutYearAt {Γ : zG} {d : Nat} {G : zH} {Post : zV} {ad : Nat → Nat} {σ : zSt} (hR : zRiv G ad σ) {s f : Nat} (hs : s < 6) (hf : f < 12) (hP : Post (some (.int (σ 12 (12 * s + f)))) G) : zM Γ (d + 1) mX4_cutYearAt 0 0 [.ref (ad 5), .int (nI s), .int (nI f)] G Post := by
  refine zM_of pnX4 rfl (Nat.le_of_ble_eq_true rfl) rfl ?_
  refine z_aload_n dX4_cutYearAt_0 rfl ?_
  refine z_get dX4_cutYearAt_1 fX4_20.r (hR.1 _ (by decide)) rfl ?_
  refine z_iload_n dX4_cutYearAt_4 rfl ?_
  refine z_iload_n dX4_cutYearAt_5 rfl ?_
  refine z_S2 (mi' := mX4_cell) dX4_cutYearAt_6 lX4_39 nX4_cell kX4_cell (by decide) (Nat.le_of_ble_eq_true rfl) (Nat.le_refl _) (Nat.le_refl _) ?_
  refine sX4_cell ?_
  refine z_S2 (mi' := mX7_at) dX4_cutYearAt_9 lX4_43 nX7_at kX7_at (by decide) (Nat.le_of_ble_eq_true rfl) (Nat.le_refl _) (Nat.le_refl _) ?_
  refine sX7_at (hR.1 _ (by decide)) (by decide) (show 12 * s + f < 72 by omega) ?_
  exact z_ireturn (mi := mX4_cutYearAt) dX4_cutYearAt_12 rfl rfl (Nat.le_refl _) (Nat.le_refl _) (hP)
set_option maxHeartbeats 4000000 in
set_option maxRecDepth 10000 in
theorem sX4_countOn {Γ : zG} {d : Nat} {G : zH} {Post : zV} {ad : Nat → Nat} {σ : zSt} (hR : zRiv G ad σ) {s : Nat} (hs : s < 6) (hP : Post (some (.int (nI (zct (fun f => zmk σ s f) 12)))) G) : zM Γ (d + 2) mX4_countOn 0 0 [.ref (ad 5), .int (nI s)] G Post := by
  refine zM_of pnX4 rfl (Nat.le_of_ble_eq_true rfl) rfl ?_
  have key : ∀ (r : Nat) (i : Nat), i ≤ 12 → 12 < i + r → zX Γ mX4_countOn (d + 2) 0 0 4 [some (.ref (ad 5)), some (.int (nI s)), some (.int (nI (zct (fun f => zmk σ s f) i))), some (.int (nI i))] [] G 0 0 (zlift Post) := by
    intro r
    induction r with
    | zero =>
      intro i hi1 hi2
      exact absurd hi2 (by omega)
    | succ r ih =>
      intro i hi1 hi2
      refine z_iload_n dX4_countOn_4 rfl ?_
      refine z_bipush (v := 12) dX4_countOn_5 (by decide) ?_
      refine z_icmp_ge (tgt := 33) dX4_countOn_7 (by decide) (fun c1 => ?_) (fun c1 => ?_)
      · have hi9 := zgeN (N := 12) rfl (by omega) (by omega) c1
        refine z_iload_n dX4_countOn_33 rfl ?_
        exact z_ireturn (mi := mX4_countOn) dX4_countOn_34 rfl rfl (Nat.le_refl _) (Nat.le_refl _) (by rw [show i = 12 by omega]; exact hP)
      · have hi9 := zltN (N := 12) rfl (by omega) (by omega) c1
        refine z_iload_n dX4_countOn_10 rfl ?_
        refine z_aload_n dX4_countOn_11 rfl ?_
        refine z_iload_n dX4_countOn_12 rfl ?_
        refine z_iload_n dX4_countOn_13 rfl ?_
        refine z_V2 (mi' := mX4_has) dX4_countOn_14 lX4_54 nX4_has kX4_has (by decide) (Nat.le_of_ble_eq_true rfl) (Nat.le_refl _) (Nat.le_refl _) (hR.1 _ (by decide)) rfl rfl ?_
        refine sX4_has hR hs (by omega) ?_
        refine z_if_eq (tgt := 24) dX4_countOn_17 (by decide) (fun c2 => ?_) (fun c2 => ?_)
        · have e9 := zct_f (p := (fun f => zmk σ s f)) (n := i) (zbf (zb_0.mp c2))
          refine z_iconst (v := 0) dX4_countOn_24 (by decide) ?_
          refine z_iadd dX4_countOn_25 ?_
          refine z_istore_n dX4_countOn_26 (by decide) rfl ?_
          refine z_iinc dX4_countOn_27 rfl rfl (by decide) rfl ?_
          refine z_goto (tgt := 4) dX4_countOn_30 (by decide) ?_
          exact z_sub (lv' := [some (.ref (ad 5)), some (.int (nI s)), some (.int (nI (zct (fun f => zmk σ s f) (i + 1)))), some (.int (nI (i + 1)))]) ⟨rfl, rfl, zsl (by rw [e9]; first | exact nI_1 _ | exact zadd0 _ | rfl), zsl (zinc i), trivial⟩ (ih (i + 1) (by omega) (by omega))
        · have e9 := zct_t (p := (fun f => zmk σ s f)) (n := i) (zb_n.mp c2)
          refine z_iconst (v := 1) dX4_countOn_20 (by decide) ?_
          refine z_goto (tgt := 25) dX4_countOn_21 (by decide) ?_
          refine z_iadd dX4_countOn_25 ?_
          refine z_istore_n dX4_countOn_26 (by decide) rfl ?_
          refine z_iinc dX4_countOn_27 rfl rfl (by decide) rfl ?_
          refine z_goto (tgt := 4) dX4_countOn_30 (by decide) ?_
          exact z_sub (lv' := [some (.ref (ad 5)), some (.int (nI s)), some (.int (nI (zct (fun f => zmk σ s f) (i + 1)))), some (.int (nI (i + 1)))]) ⟨rfl, rfl, zsl (by rw [e9]; first | exact nI_1 _ | exact zadd0 _ | rfl), zsl (zinc i), trivial⟩ (ih (i + 1) (by omega) (by omega))
  refine z_iconst (v := 0) dX4_countOn_0 (by decide) ?_
  refine z_istore_n dX4_countOn_1 (by decide) rfl ?_
  refine z_iconst (v := 0) dX4_countOn_2 (by decide) ?_
  refine z_istore_n dX4_countOn_3 (by decide) rfl ?_
  exact z_sub (lv' := [some (.ref (ad 5)), some (.int (nI s)), some (.int (nI (zct (fun f => zmk σ s f) 0))), some (.int (nI 0))]) ⟨rfl, rfl, rfl, rfl, trivial⟩ (key (12 + 1) 0 (by omega) (by omega))
set_option maxHeartbeats 4000000 in
set_option maxRecDepth 10000 in
theorem sX4_countFor {Γ : zG} {d : Nat} {G : zH} {Post : zV} {ad : Nat → Nat} {σ : zSt} (hR : zRiv G ad σ) {f : Nat} (hf : f < 12) (hP : Post (some (.int (nI (zct (fun s => zmk σ s f) 6)))) G) : zM Γ (d + 2) mX4_countFor 0 0 [.ref (ad 5), .int (nI f)] G Post := by
  refine zM_of pnX4 rfl (Nat.le_of_ble_eq_true rfl) rfl ?_
  have key : ∀ (r : Nat) (i : Nat), i ≤ 6 → 6 < i + r → zX Γ mX4_countFor (d + 2) 0 0 4 [some (.ref (ad 5)), some (.int (nI f)), some (.int (nI (zct (fun s => zmk σ s f) i))), some (.int (nI i))] [] G 0 0 (zlift Post) := by
    intro r
    induction r with
    | zero =>
      intro i hi1 hi2
      exact absurd hi2 (by omega)
    | succ r ih =>
      intro i hi1 hi2
      refine z_iload_n dX4_countFor_4 rfl ?_
      refine z_bipush (v := 6) dX4_countFor_5 (by decide) ?_
      refine z_icmp_ge (tgt := 33) dX4_countFor_7 (by decide) (fun c1 => ?_) (fun c1 => ?_)
      · have hi9 := zgeN (N := 6) rfl (by omega) (by omega) c1
        refine z_iload_n dX4_countFor_33 rfl ?_
        exact z_ireturn (mi := mX4_countFor) dX4_countFor_34 rfl rfl (Nat.le_refl _) (Nat.le_refl _) (by rw [show i = 6 by omega]; exact hP)
      · have hi9 := zltN (N := 6) rfl (by omega) (by omega) c1
        refine z_iload_n dX4_countFor_10 rfl ?_
        refine z_aload_n dX4_countFor_11 rfl ?_
        refine z_iload_n dX4_countFor_12 rfl ?_
        refine z_iload_n dX4_countFor_13 rfl ?_
        refine z_V2 (mi' := mX4_has) dX4_countFor_14 lX4_54 nX4_has kX4_has (by decide) (Nat.le_of_ble_eq_true rfl) (Nat.le_refl _) (Nat.le_refl _) (hR.1 _ (by decide)) rfl rfl ?_
        refine sX4_has hR (by omega) hf ?_
        refine z_if_eq (tgt := 24) dX4_countFor_17 (by decide) (fun c2 => ?_) (fun c2 => ?_)
        · have e9 := zct_f (p := (fun s => zmk σ s f)) (n := i) (zbf (zb_0.mp c2))
          refine z_iconst (v := 0) dX4_countFor_24 (by decide) ?_
          refine z_iadd dX4_countFor_25 ?_
          refine z_istore_n dX4_countFor_26 (by decide) rfl ?_
          refine z_iinc dX4_countFor_27 rfl rfl (by decide) rfl ?_
          refine z_goto (tgt := 4) dX4_countFor_30 (by decide) ?_
          exact z_sub (lv' := [some (.ref (ad 5)), some (.int (nI f)), some (.int (nI (zct (fun s => zmk σ s f) (i + 1)))), some (.int (nI (i + 1)))]) ⟨rfl, rfl, zsl (by rw [e9]; first | exact nI_1 _ | exact zadd0 _ | rfl), zsl (zinc i), trivial⟩ (ih (i + 1) (by omega) (by omega))
        · have e9 := zct_t (p := (fun s => zmk σ s f)) (n := i) (zb_n.mp c2)
          refine z_iconst (v := 1) dX4_countFor_20 (by decide) ?_
          refine z_goto (tgt := 25) dX4_countFor_21 (by decide) ?_
          refine z_iadd dX4_countFor_25 ?_
          refine z_istore_n dX4_countFor_26 (by decide) rfl ?_
          refine z_iinc dX4_countFor_27 rfl rfl (by decide) rfl ?_
          refine z_goto (tgt := 4) dX4_countFor_30 (by decide) ?_
          exact z_sub (lv' := [some (.ref (ad 5)), some (.int (nI f)), some (.int (nI (zct (fun s => zmk σ s f) (i + 1)))), some (.int (nI (i + 1)))]) ⟨rfl, rfl, zsl (by rw [e9]; first | exact nI_1 _ | exact zadd0 _ | rfl), zsl (zinc i), trivial⟩ (ih (i + 1) (by omega) (by omega))
  refine z_iconst (v := 0) dX4_countFor_0 (by decide) ?_
  refine z_istore_n dX4_countFor_1 (by decide) rfl ?_
  refine z_iconst (v := 0) dX4_countFor_2 (by decide) ?_
  refine z_istore_n dX4_countFor_3 (by decide) rfl ?_
  exact z_sub (lv' := [some (.ref (ad 5)), some (.int (nI f)), some (.int (nI (zct (fun s => zmk σ s f) 0))), some (.int (nI 0))]) ⟨rfl, rfl, rfl, rfl, trivial⟩ (key (6 + 1) 0 (by omega) (by omega))
set_option maxHeartbeats 4000000 in
set_option maxRecDepth 10000 in
theorem sX4_countAll {Γ : zG} {d : Nat} {G : zH} {Post : zV} {ad : Nat → Nat} {σ : zSt} (hR : zRiv G ad σ) (hP : Post (some (.int (nI (zsm (fun s => zct (fun f => zmk σ s f) 12) 6)))) G) : zM Γ (d + 3) mX4_countAll 0 0 [.ref (ad 5)] G Post := by
  refine zM_of pnX4 rfl (Nat.le_of_ble_eq_true rfl) rfl ?_
  have key : ∀ (r : Nat) (i : Nat), i ≤ 6 → 6 < i + r → zX Γ mX4_countAll (d + 3) 0 0 4 [some (.ref (ad 5)), some (.int (nI (zsm (fun s => zct (fun f => zmk σ s f) 12) i))), some (.int (nI i))] [] G 0 0 (zlift Post) := by
    intro r
    induction r with
    | zero =>
      intro i hi1 hi2
      exact absurd hi2 (by omega)
    | succ r ih =>
      intro i hi1 hi2
      refine z_iload_n dX4_countAll_4 rfl ?_
      refine z_bipush (v := 6) dX4_countAll_5 (by decide) ?_
      refine z_icmp_ge (tgt := 24) dX4_countAll_7 (by decide) (fun c1 => ?_) (fun c1 => ?_)
      · have hi9 := zgeN (N := 6) rfl (by omega) (by omega) c1
        refine z_iload_n dX4_countAll_24 rfl ?_
        exact z_ireturn (mi := mX4_countAll) dX4_countAll_25 rfl rfl (Nat.le_refl _) (Nat.le_refl _) (by rw [show i = 6 by omega]; exact hP)
      · have hi9 := zltN (N := 6) rfl (by omega) (by omega) c1
        refine z_iload_n dX4_countAll_10 rfl ?_
        refine z_aload_n dX4_countAll_11 rfl ?_
        refine z_iload_n dX4_countAll_12 rfl ?_
        refine z_V1 (mi' := mX4_countOn) dX4_countAll_13 lX4_58 nX4_countOn kX4_countOn (by decide) (Nat.le_of_ble_eq_true rfl) (Nat.le_refl _) (Nat.le_refl _) (hR.1 _ (by decide)) rfl rfl ?_
        refine sX4_countOn hR (show i < 6 by omega) ?_
        refine z_iadd dX4_countAll_16 ?_
        refine z_istore_n dX4_countAll_17 (by decide) rfl ?_
        refine z_iinc dX4_countAll_18 rfl rfl (by decide) rfl ?_
        refine z_goto (tgt := 4) dX4_countAll_21 (by decide) ?_
        exact z_sub (lv' := [some (.ref (ad 5)), some (.int (nI (zsm (fun s => zct (fun f => zmk σ s f) 12) (i + 1)))), some (.int (nI (i + 1)))]) ⟨rfl, zsl (nI_add _ _), zsl (zinc i), trivial⟩ (ih (i + 1) (by omega) (by omega))
  refine z_iconst (v := 0) dX4_countAll_0 (by decide) ?_
  refine z_istore_n dX4_countAll_1 (by decide) rfl ?_
  refine z_iconst (v := 0) dX4_countAll_2 (by decide) ?_
  refine z_istore_n dX4_countAll_3 (by decide) rfl ?_
  exact z_sub (lv' := [some (.ref (ad 5)), some (.int (nI (zsm (fun s => zct (fun f => zmk σ s f) 12) 0))), some (.int (nI 0))]) ⟨rfl, rfl, rfl, trivial⟩ (key (6 + 1) 0 (by omega) (by omega))
set_option maxHeartbeats 4000000 in
set_option maxRecDepth 10000 in
theorem sX4_countLower {Γ : zG} {d : Nat} {G : zH} {Post : zV} {ad : Nat → Nat} {σ : zSt} (hR : zRiv G ad σ) {s : Nat} {x : Int32} (hs : s < 6) (hP : Post (some (.int (nI (zlow σ s x)))) G) : zM Γ (d + 2) mX4_countLower 0 0 [.ref (ad 5), .int (nI s), .int x] G Post := by
  refine zM_of pnX4 rfl (Nat.le_of_ble_eq_true rfl) rfl ?_
  have key : ∀ (r : Nat) (i : Nat), i ≤ 12 → 12 < i + r → zX Γ mX4_countLower (d + 2) 0 0 5 [some (.ref (ad 5)), some (.int (nI s)), some (.int x), some (.int (nI (zct (fun f => zmk σ s f && decide (σ 10 (12 * s + f) < x)) i))), some (.int (nI i))] [] G 0 0 (zlift Post) := by
    intro r
    induction r with
    | zero =>
      intro i hi1 hi2
      exact absurd hi2 (by omega)
    | succ r ih =>
      intro i hi1 hi2
      refine z_iload dX4_countLower_5 rfl ?_
      refine z_bipush (v := 12) dX4_countLower_7 (by decide) ?_
      refine z_icmp_ge (tgt := 47) dX4_countLower_9 (by decide) (fun c1 => ?_) (fun c1 => ?_)
      · have hi9 := zgeN (N := 12) rfl (by omega) (by omega) c1
        refine z_iload_n dX4_countLower_47 rfl ?_
        exact z_ireturn (mi := mX4_countLower) dX4_countLower_48 rfl rfl (Nat.le_refl _) (Nat.le_refl _) (by obtain rfl : i = 12 := (by omega); exact hP)
      · have hi9 := zltN (N := 12) rfl (by omega) (by omega) c1
        refine z_iload_n dX4_countLower_12 rfl ?_
        refine z_aload_n dX4_countLower_13 rfl ?_
        refine z_iload_n dX4_countLower_14 rfl ?_
        refine z_iload dX4_countLower_15 rfl ?_
        refine z_V2 (mi' := mX4_has) dX4_countLower_17 lX4_54 nX4_has kX4_has (by decide) (Nat.le_of_ble_eq_true rfl) (Nat.le_refl _) (Nat.le_refl _) (hR.1 _ (by decide)) rfl rfl ?_
        refine sX4_has hR hs (by omega) ?_
        refine z_if_eq (tgt := 38) dX4_countLower_20 (by decide) (fun c2 => ?_) (fun c2 => ?_)
        · have e9 := zct_f (p := (fun f => zmk σ s f && decide (σ 10 (12 * s + f) < x))) (n := i) (by have := zbf (zb_0.mp c2); simp [this])
          refine z_iconst (v := 0) dX4_countLower_38 (by decide) ?_
          refine z_iadd dX4_countLower_39 ?_
          refine z_istore_n dX4_countLower_40 (by decide) rfl ?_
          refine z_iinc dX4_countLower_41 rfl rfl (by decide) rfl ?_
          refine z_goto (tgt := 5) dX4_countLower_44 (by decide) ?_
          exact z_sub (lv' := [some (.ref (ad 5)), some (.int (nI s)), some (.int x), some (.int (nI (zct (fun f => zmk σ s f && decide (σ 10 (12 * s + f) < x)) (i + 1)))), some (.int (nI (i + 1)))]) ⟨rfl, rfl, rfl, zsl (by rw [e9]; first | exact nI_1 _ | exact zadd0 _ | rfl), zsl (zinc i), trivial⟩ (ih (i + 1) (by omega) (by omega))
        · refine z_aload_n dX4_countLower_23 rfl ?_
          refine z_iload_n dX4_countLower_24 rfl ?_
          refine z_iload dX4_countLower_25 rfl ?_
          refine z_V2 (mi' := mX4_heightAt) dX4_countLower_27 lX4_51 nX4_heightAt kX4_heightAt (by decide) (Nat.le_of_ble_eq_true rfl) (Nat.le_refl _) (Nat.le_refl _) (hR.1 _ (by decide)) rfl rfl ?_
          refine sX4_heightAt hR hs (show i < 12 by omega) ?_
          refine z_iload_n dX4_countLower_30 rfl ?_
          refine z_icmp_ge (tgt := 38) dX4_countLower_31 (by decide) (fun c3 => ?_) (fun c3 => ?_)
          · have e9 := zct_f (p := (fun f => zmk σ s f && decide (σ 10 (12 * s + f) < x))) (n := i) (by have := Int32.not_lt.mpr c3; simp [this])
            refine z_iconst (v := 0) dX4_countLower_38 (by decide) ?_
            refine z_iadd dX4_countLower_39 ?_
            refine z_istore_n dX4_countLower_40 (by decide) rfl ?_
            refine z_iinc dX4_countLower_41 rfl rfl (by decide) rfl ?_
            refine z_goto (tgt := 5) dX4_countLower_44 (by decide) ?_
            exact z_sub (lv' := [some (.ref (ad 5)), some (.int (nI s)), some (.int x), some (.int (nI (zct (fun f => zmk σ s f && decide (σ 10 (12 * s + f) < x)) (i + 1)))), some (.int (nI (i + 1)))]) ⟨rfl, rfl, rfl, zsl (by rw [e9]; first | exact nI_1 _ | exact zadd0 _ | rfl), zsl (zinc i), trivial⟩ (ih (i + 1) (by omega) (by omega))
          · have e9 := zct_t (p := (fun f => zmk σ s f && decide (σ 10 (12 * s + f) < x))) (n := i) (by have h1 := zb_n.mp c2; have h2 := Int32.not_le.mp c3; simp [h1, h2])
            refine z_iconst (v := 1) dX4_countLower_34 (by decide) ?_
            refine z_goto (tgt := 39) dX4_countLower_35 (by decide) ?_
            refine z_iadd dX4_countLower_39 ?_
            refine z_istore_n dX4_countLower_40 (by decide) rfl ?_
            refine z_iinc dX4_countLower_41 rfl rfl (by decide) rfl ?_
            refine z_goto (tgt := 5) dX4_countLower_44 (by decide) ?_
            exact z_sub (lv' := [some (.ref (ad 5)), some (.int (nI s)), some (.int x), some (.int (nI (zct (fun f => zmk σ s f && decide (σ 10 (12 * s + f) < x)) (i + 1)))), some (.int (nI (i + 1)))]) ⟨rfl, rfl, rfl, zsl (by rw [e9]; first | exact nI_1 _ | exact zadd0 _ | rfl), zsl (zinc i), trivial⟩ (ih (i + 1) (by omega) (by omega))
  refine z_iconst (v := 0) dX4_countLower_0 (by decide) ?_
  refine z_istore_n dX4_countLower_1 (by decide) rfl ?_
  refine z_iconst (v := 0) dX4_countLower_2 (by decide) ?_
  refine z_istore dX4_countLower_3 (by decide) rfl ?_
  exact z_sub (lv' := [some (.ref (ad 5)), some (.int (nI s)), some (.int x), some (.int (nI (zct (fun f => zmk σ s f && decide (σ 10 (12 * s + f) < x)) 0))), some (.int (nI 0))]) ⟨rfl, rfl, rfl, rfl, rfl, trivial⟩ (key (12 + 1) 0 (by omega) (by omega))
set_option maxHeartbeats 4000000 in
set_option maxRecDepth 10000 in
theorem sX4_floodAtHeight {Γ : zG} {d : Nat} {G : zH} {Post : zV} {ad : Nat → Nat} {σ : zSt} (hR : zRiv G ad σ) {s : Nat} {x : Int32} (hs : s < 6) (hP : Post (some (.int (zfi (zatH σ s x) 12))) G) : zM Γ (d + 2) mX4_floodAtHeight 0 0 [.ref (ad 5), .int (nI s), .int x] G Post := by
  refine zM_of pnX4 rfl (Nat.le_of_ble_eq_true rfl) rfl ?_
  have key : ∀ (r : Nat) (i : Nat), i ≤ 12 → 12 < i + r → (∀ k, k < i → (zatH σ s x) k = false) → zX Γ mX4_floodAtHeight (d + 2) 0 0 2 [some (.ref (ad 5)), some (.int (nI s)), some (.int x), some (.int (nI i))] [] G 0 0 (zlift Post) := by
    intro r
    induction r with
    | zero =>
      intro i hi1 hi2 hno
      exact absurd hi2 (by omega)
    | succ r ih =>
      intro i hi1 hi2 hno
      refine z_iload_n dX4_floodAtHeight_2 rfl ?_
      refine z_bipush (v := 12) dX4_floodAtHeight_3 (by decide) ?_
      refine z_icmp_ge (tgt := 35) dX4_floodAtHeight_5 (by decide) (fun c1 => ?_) (fun c1 => ?_)
      · have hi9 := zgeN (N := 12) rfl (by omega) (by omega) c1
        refine z_iconst (v := (-1)) dX4_floodAtHeight_35 (by decide) ?_
        exact z_ireturn (mi := mX4_floodAtHeight) dX4_floodAtHeight_36 rfl rfl (Nat.le_refl _) (Nat.le_refl _) (by rw [zfi_no (by rw [show 12 = i by omega]; exact hno)] at hP; exact hP)
      · have hi9 := zltN (N := 12) rfl (by omega) (by omega) c1
        refine z_aload_n dX4_floodAtHeight_8 rfl ?_
        refine z_iload_n dX4_floodAtHeight_9 rfl ?_
        refine z_iload_n dX4_floodAtHeight_10 rfl ?_
        refine z_V2 (mi' := mX4_has) dX4_floodAtHeight_11 lX4_54 nX4_has kX4_has (by decide) (Nat.le_of_ble_eq_true rfl) (Nat.le_refl _) (Nat.le_refl _) (hR.1 _ (by decide)) rfl rfl ?_
        refine sX4_has hR hs (show i < 12 by omega) ?_
        refine z_if_eq (tgt := 29) dX4_floodAtHeight_14 (by decide) (fun c2 => ?_) (fun c2 => ?_)
        · have e9 : zatH σ s x i = false := by have := zbf (zb_0.mp c2); simp [zatH, this]
          refine z_iinc dX4_floodAtHeight_29 rfl rfl (by decide) rfl ?_
          refine z_goto (tgt := 2) dX4_floodAtHeight_32 (by decide) ?_
          exact z_sub (lv' := [some (.ref (ad 5)), some (.int (nI s)), some (.int x), some (.int (nI (i + 1)))]) ⟨rfl, rfl, rfl, zsl (zinc i), trivial⟩ (ih (i + 1) (by omega) (by omega) (zff_f hno e9))
        · refine z_aload_n dX4_floodAtHeight_17 rfl ?_
          refine z_iload_n dX4_floodAtHeight_18 rfl ?_
          refine z_iload_n dX4_floodAtHeight_19 rfl ?_
          refine z_V2 (mi' := mX4_heightAt) dX4_floodAtHeight_20 lX4_51 nX4_heightAt kX4_heightAt (by decide) (Nat.le_of_ble_eq_true rfl) (Nat.le_refl _) (Nat.le_refl _) (hR.1 _ (by decide)) rfl rfl ?_
          refine sX4_heightAt hR hs (show i < 12 by omega) ?_
          refine z_iload_n dX4_floodAtHeight_23 rfl ?_
          refine z_icmp_ne (tgt := 29) dX4_floodAtHeight_24 (by decide) (fun c3 => ?_) (fun c3 => ?_)
          · have e9 : zatH σ s x i = false := by simp [zatH, c3]
            refine z_iinc dX4_floodAtHeight_29 rfl rfl (by decide) rfl ?_
            refine z_goto (tgt := 2) dX4_floodAtHeight_32 (by decide) ?_
            exact z_sub (lv' := [some (.ref (ad 5)), some (.int (nI s)), some (.int x), some (.int (nI (i + 1)))]) ⟨rfl, rfl, rfl, zsl (zinc i), trivial⟩ (ih (i + 1) (by omega) (by omega) (zff_f hno e9))
          · refine z_iload_n dX4_floodAtHeight_27 rfl ?_
            exact z_ireturn (mi := mX4_floodAtHeight) dX4_floodAtHeight_28 rfl rfl (Nat.le_refl _) (Nat.le_refl _) (by rw [zfi_yes hno (by have h1 := zb_n.mp c2; simp [zatH, h1, c3]) hi9] at hP; exact hP)
  refine z_iconst (v := 0) dX4_floodAtHeight_0 (by decide) ?_
  refine z_istore_n dX4_floodAtHeight_1 (by decide) rfl ?_
  exact z_sub (lv' := [some (.ref (ad 5)), some (.int (nI s)), some (.int x), some (.int (nI 0))]) ⟨rfl, rfl, rfl, rfl, trivial⟩ (key (12 + 1) 0 (by omega) (by omega) (fun k hk => absurd hk (by omega)))
set_option maxHeartbeats 4000000 in
set_option maxRecDepth 10000 in
theorem sX4_floodAtPlace {Γ : zG} {d : Nat} {G : zH} {Post : zV} {ad : Nat → Nat} {σ : zSt} (hR : zRiv G ad σ) {s : Nat} {x : Int32} (hs : s < 6) (hP : Post (some (.int (zfi (zatP σ s x) 12))) G) : zM Γ (d + 3) mX4_floodAtPlace 0 0 [.ref (ad 5), .int (nI s), .int x] G Post := by
  refine zM_of pnX4 rfl (Nat.le_of_ble_eq_true rfl) rfl ?_
  have key : ∀ (r : Nat) (i : Nat), i ≤ 12 → 12 < i + r → (∀ k, k < i → (zatP σ s x) k = false) → zX Γ mX4_floodAtPlace (d + 3) 0 0 2 [some (.ref (ad 5)), some (.int (nI s)), some (.int x), some (.int (nI i))] [] G 0 0 (zlift Post) := by
    intro r
    induction r with
    | zero =>
      intro i hi1 hi2 hno
      exact absurd hi2 (by omega)
    | succ r ih =>
      intro i hi1 hi2 hno
      refine z_iload_n dX4_floodAtPlace_2 rfl ?_
      refine z_bipush (v := 12) dX4_floodAtPlace_3 (by decide) ?_
      refine z_icmp_ge (tgt := 40) dX4_floodAtPlace_5 (by decide) (fun c1 => ?_) (fun c1 => ?_)
      · have hi9 := zgeN (N := 12) rfl (by omega) (by omega) c1
        refine z_iconst (v := (-1)) dX4_floodAtPlace_40 (by decide) ?_
        exact z_ireturn (mi := mX4_floodAtPlace) dX4_floodAtPlace_41 rfl rfl (Nat.le_refl _) (Nat.le_refl _) (by rw [zfi_no (by rw [show 12 = i by omega]; exact hno)] at hP; exact hP)
      · have hi9 := zltN (N := 12) rfl (by omega) (by omega) c1
        refine z_aload_n dX4_floodAtPlace_8 rfl ?_
        refine z_iload_n dX4_floodAtPlace_9 rfl ?_
        refine z_iload_n dX4_floodAtPlace_10 rfl ?_
        refine z_V2 (mi' := mX4_has) dX4_floodAtPlace_11 lX4_54 nX4_has kX4_has (by decide) (Nat.le_of_ble_eq_true rfl) (Nat.le_refl _) (Nat.le_refl _) (hR.1 _ (by decide)) rfl rfl ?_
        refine sX4_has hR hs (show i < 12 by omega) ?_
        refine z_if_eq (tgt := 34) dX4_floodAtPlace_14 (by decide) (fun c2 => ?_) (fun c2 => ?_)
        · have e9 : zatP σ s x i = false := by have := zbf (zb_0.mp c2); simp [zatP, this]
          refine z_iinc dX4_floodAtPlace_34 rfl rfl (by decide) rfl ?_
          refine z_goto (tgt := 2) dX4_floodAtPlace_37 (by decide) ?_
          exact z_sub (lv' := [some (.ref (ad 5)), some (.int (nI s)), some (.int x), some (.int (nI (i + 1)))]) ⟨rfl, rfl, rfl, zsl (zinc i), trivial⟩ (ih (i + 1) (by omega) (by omega) (zff_f hno e9))
        · refine z_aload_n dX4_floodAtPlace_17 rfl ?_
          refine z_iload_n dX4_floodAtPlace_18 rfl ?_
          refine z_aload_n dX4_floodAtPlace_19 rfl ?_
          refine z_iload_n dX4_floodAtPlace_20 rfl ?_
          refine z_iload_n dX4_floodAtPlace_21 rfl ?_
          refine z_V2 (mi' := mX4_heightAt) dX4_floodAtPlace_22 lX4_51 nX4_heightAt kX4_heightAt (by decide) (Nat.le_of_ble_eq_true rfl) (Nat.le_refl _) (Nat.le_refl _) (hR.1 _ (by decide)) rfl rfl ?_
          refine sX4_heightAt hR hs (show i < 12 by omega) ?_
          refine z_V2 (mi' := mX4_countLower) dX4_floodAtPlace_25 lX4_62 nX4_countLower kX4_countLower (by decide) (Nat.le_of_ble_eq_true rfl) (Nat.le_refl _) (Nat.le_refl _) (hR.1 _ (by decide)) rfl rfl ?_
          refine sX4_countLower hR hs ?_
          refine z_iload_n dX4_floodAtPlace_28 rfl ?_
          refine z_icmp_ne (tgt := 34) dX4_floodAtPlace_29 (by decide) (fun c3 => ?_) (fun c3 => ?_)
          · have e9 : zatP σ s x i = false := by simp [zatP, c3]
            refine z_iinc dX4_floodAtPlace_34 rfl rfl (by decide) rfl ?_
            refine z_goto (tgt := 2) dX4_floodAtPlace_37 (by decide) ?_
            exact z_sub (lv' := [some (.ref (ad 5)), some (.int (nI s)), some (.int x), some (.int (nI (i + 1)))]) ⟨rfl, rfl, rfl, zsl (zinc i), trivial⟩ (ih (i + 1) (by omega) (by omega) (zff_f hno e9))
          · refine z_iload_n dX4_floodAtPlace_32 rfl ?_
            exact z_ireturn (mi := mX4_floodAtPlace) dX4_floodAtPlace_33 rfl rfl (Nat.le_refl _) (Nat.le_refl _) (by rw [zfi_yes hno (by have h1 := zb_n.mp c2; simp [zatP, h1, c3]) hi9] at hP; exact hP)
  refine z_iconst (v := 0) dX4_floodAtPlace_0 (by decide) ?_
  refine z_istore_n dX4_floodAtPlace_1 (by decide) rfl ?_
  exact z_sub (lv' := [some (.ref (ad 5)), some (.int (nI s)), some (.int x), some (.int (nI 0))]) ⟨rfl, rfl, rfl, rfl, trivial⟩ (key (12 + 1) 0 (by omega) (by omega) (fun k hk => absurd hk (by omega)))
set_option maxHeartbeats 4000000 in
set_option maxRecDepth 10000 in
theorem sX6_isOutside {Γ : zG} {d : Nat} {G : zH} {Post : zV} {x a b : Int32} (hP : Post (some (.int (zb (x < a ∨ b < x)))) G) : zM Γ d mX6_isOutside 0 0 [.int x, .int a, .int b] G Post := by
  refine zM_of pnX6 rfl (Nat.le_of_ble_eq_true rfl) rfl ?_
  refine z_iload_n dX6_isOutside_0 rfl ?_
  refine z_iload_n dX6_isOutside_1 rfl ?_
  refine z_icmp_lt (tgt := 10) dX6_isOutside_2 (by decide) (fun c1 => ?_) (fun c1 => ?_)
  · refine z_iconst (v := 1) dX6_isOutside_10 (by decide) ?_
    refine z_goto (tgt := 15) dX6_isOutside_11 (by decide) ?_
    exact z_ireturn (mi := mX6_isOutside) dX6_isOutside_15 rfl rfl (Nat.le_refl _) (Nat.le_refl _) (by rw [zb_t (Or.inl c1)] at hP; exact hP)
  · refine z_iload_n dX6_isOutside_5 rfl ?_
    refine z_iload_n dX6_isOutside_6 rfl ?_
    refine z_icmp_le (tgt := 14) dX6_isOutside_7 (by decide) (fun c2 => ?_) (fun c2 => ?_)
    · refine z_iconst (v := 0) dX6_isOutside_14 (by decide) ?_
      exact z_ireturn (mi := mX6_isOutside) dX6_isOutside_15 rfl rfl (Nat.le_refl _) (Nat.le_refl _) (by rw [zb_f (fun q => q.elim c1 (Int32.not_lt.mpr c2))] at hP; exact hP)
    · refine z_iconst (v := 1) dX6_isOutside_10 (by decide) ?_
      refine z_goto (tgt := 15) dX6_isOutside_11 (by decide) ?_
      exact z_ireturn (mi := mX6_isOutside) dX6_isOutside_15 rfl rfl (Nat.le_refl _) (Nat.le_refl _) (by rw [zb_t (Or.inr (Int32.not_le.mp c2))] at hP; exact hP)
set_option maxHeartbeats 4000000 in
set_option maxRecDepth 10000 in
theorem sX6_levelAt {Γ : zG} {d : Nat} {G : zH} {Post : zV} {ad : Nat → Nat} {σ : zSt} (hR : zRiv G ad σ) {s f : Nat} (hs : s < 6) (hf : f < 12) (hP : Post (some (.int (zlevel σ s f))) G) : zM Γ (d + 2) mX6_levelAt 0 0 [.ref (ad 0), .int (nI s), .int (nI f)] G Post := by
  refine zM_of pnX6 rfl (Nat.le_of_ble_eq_true rfl) rfl ?_
  refine z_aload_n dX6_levelAt_0 rfl ?_
  refine z_get dX6_levelAt_1 fX6_23.r (hR.1 _ (by decide)) rfl ?_
  refine z_get dX6_levelAt_4 fX6_154 (hR.1 _ (by decide)) rfl ?_
  refine z_iload_n dX6_levelAt_7 rfl ?_
  refine z_S2 (mi' := mX7_at) dX6_levelAt_8 lX6_109 nX7_at kX7_at (by decide) (Nat.le_of_ble_eq_true rfl) (Nat.le_refl _) (Nat.le_refl _) ?_
  refine sX7_at (hR.1 _ (by decide)) (by decide) hf ?_
  refine z_aload_n dX6_levelAt_11 rfl ?_
  refine z_get dX6_levelAt_12 fX6_16.r (hR.1 _ (by decide)) rfl ?_
  refine z_iload_n dX6_levelAt_15 rfl ?_
  refine z_V1 (mi' := mX8_loss) dX6_levelAt_16 lX6_157 nX8_loss kX8_loss (by decide) (Nat.le_of_ble_eq_true rfl) (Nat.le_refl _) (Nat.le_refl _) (hR.1 _ (by decide)) rfl rfl ?_
  refine sX8_loss hR hs ?_
  refine z_isub dX6_levelAt_19 ?_
  exact z_ireturn (mi := mX6_levelAt) dX6_levelAt_20 rfl rfl (Nat.le_refl _) (Nat.le_refl _) (hP)
set_option maxHeartbeats 4000000 in
set_option maxRecDepth 10000 in
theorem sX6_readingAt {Γ : zG} {d : Nat} {G : zH} {Post : zV} {ad : Nat → Nat} {σ : zSt} (hR : zRiv G ad σ) {S F E K : Nat} (hN : zN σ S F E K) {s f : Nat} (hs : s < 6) (hf : f < 12) (hP : Post (some (.int (zread σ E s f))) G) : zM Γ (d + 3) mX6_readingAt 0 0 [.ref (ad 0), .int (nI s), .int (nI f)] G Post := by
  refine zM_of pnX6 rfl (Nat.le_of_ble_eq_true rfl) rfl ?_
  refine z_aload_n dX6_readingAt_0 rfl ?_
  refine z_iload_n dX6_readingAt_1 rfl ?_
  refine z_iload_n dX6_readingAt_2 rfl ?_
  refine z_V2 (mi' := mX6_levelAt) dX6_readingAt_3 lX6_99 nX6_levelAt kX6_levelAt (by decide) (Nat.le_of_ble_eq_true rfl) (Nat.le_refl _) (Nat.le_refl _) (hR.1 _ (by decide)) rfl rfl ?_
  refine sX6_levelAt hR hs hf ?_
  refine z_aload_n dX6_readingAt_6 rfl ?_
  refine z_get dX6_readingAt_7 fX6_16.r (hR.1 _ (by decide)) rfl ?_
  refine z_get dX6_readingAt_10 fX6_145 (hR.1 _ (by decide)) rfl ?_
  refine z_iload_n dX6_readingAt_13 rfl ?_
  refine z_S2 (mi' := mX7_at) dX6_readingAt_14 lX6_109 nX7_at kX7_at (by decide) (Nat.le_of_ble_eq_true rfl) (Nat.le_refl _) (Nat.le_refl _) ?_
  refine sX7_at (hR.1 _ (by decide)) (by decide) hs ?_
  refine z_iadd dX6_readingAt_17 ?_
  refine z_aload_n dX6_readingAt_18 rfl ?_
  refine z_get dX6_readingAt_19 fX6_30.r (hR.1 _ (by decide)) rfl ?_
  refine z_aload_n dX6_readingAt_22 rfl ?_
  refine z_get dX6_readingAt_23 fX6_9.r (hR.1 _ (by decide)) rfl ?_
  refine z_V1 (mi' := mX1_shiftIn) dX6_readingAt_26 lX6_160 nX1_shiftIn kX1_shiftIn (by decide) (Nat.le_of_ble_eq_true rfl) (Nat.le_refl _) (Nat.le_refl _) (hR.1 _ (by decide)) rfl rfl ?_
  refine sX1_shiftIn hR hN ?_
  refine z_iadd dX6_readingAt_29 ?_
  exact z_ireturn (mi := mX6_readingAt) dX6_readingAt_30 rfl rfl (Nat.le_refl _) (Nat.le_refl _) (hP)
set_option maxHeartbeats 4000000 in
set_option maxRecDepth 10000 in
theorem sX6_trueHeight {Γ : zG} {d : Nat} {G : zH} {Post : zV} {ad : Nat → Nat} {σ : zSt} (hR : zRiv G ad σ) {S F E K : Nat} (hN : zN σ S F E K) {s f : Nat} (hs : s < 6) (hf : f < 12) (hP : Post (some (.int (ztrue σ E s f))) G) : zM Γ (d + 2) mX6_trueHeight 0 0 [.ref (ad 0), .int (nI s), .int (nI f)] G Post := by
  refine zM_of pnX6 rfl (Nat.le_of_ble_eq_true rfl) rfl ?_
  refine z_aload_n dX6_trueHeight_0 rfl ?_
  refine z_get dX6_trueHeight_1 fX6_44.r (hR.1 _ (by decide)) rfl ?_
  refine z_iload_n dX6_trueHeight_4 rfl ?_
  refine z_iload_n dX6_trueHeight_5 rfl ?_
  refine z_V2 (mi' := mX4_heightAt) dX6_trueHeight_6 lX6_95 nX4_heightAt kX4_heightAt (by decide) (Nat.le_of_ble_eq_true rfl) (Nat.le_refl _) (Nat.le_refl _) (hR.1 _ (by decide)) rfl rfl ?_
  refine sX4_heightAt hR hs hf ?_
  refine z_aload_n dX6_trueHeight_9 rfl ?_
  refine z_get dX6_trueHeight_10 fX6_30.r (hR.1 _ (by decide)) rfl ?_
  refine z_aload_n dX6_trueHeight_13 rfl ?_
  refine z_get dX6_trueHeight_14 fX6_44.r (hR.1 _ (by decide)) rfl ?_
  refine z_iload_n dX6_trueHeight_17 rfl ?_
  refine z_iload_n dX6_trueHeight_18 rfl ?_
  refine z_V2 (mi' := mX4_cutYearAt) dX6_trueHeight_19 lX6_163 nX4_cutYearAt kX4_cutYearAt (by decide) (Nat.le_of_ble_eq_true rfl) (Nat.le_refl _) (Nat.le_refl _) (hR.1 _ (by decide)) rfl rfl ?_
  refine sX4_cutYearAt hR hs hf ?_
  refine z_V1 (mi' := mX1_shiftIn) dX6_trueHeight_22 lX6_160 nX1_shiftIn kX1_shiftIn (by decide) (Nat.le_of_ble_eq_true rfl) (Nat.le_refl _) (Nat.le_refl _) (hR.1 _ (by decide)) rfl rfl ?_
  refine sX1_shiftIn hR hN ?_
  refine z_isub dX6_trueHeight_25 ?_
  exact z_ireturn (mi := mX6_trueHeight) dX6_trueHeight_26 rfl rfl (Nat.le_refl _) (Nat.le_refl _) (hP)
set_option maxHeartbeats 4000000 in
set_option maxRecDepth 10000 in
theorem sX6_areInDoubt {Γ : zG} {d : Nat} {G : zH} {Post : zV} {ad : Nat → Nat} {σ : zSt} (hR : zRiv G ad σ) {S F E K : Nat} (hN : zN σ S F E K) {s f o : Nat} (hs : s < 6) (hf : f < 12) (ho : o < 12) (hP : Post (some (.int (zb (zdbt σ E s f o = true)))) G) : zM Γ (d + 3) mX6_areInDoubt 0 0 [.ref (ad 0), .int (nI s), .int (nI f), .int (nI o)] G Post := by
  refine zM_of pnX6 rfl (Nat.le_of_ble_eq_true rfl) rfl ?_
  refine z_iload_n dX6_areInDoubt_0 rfl ?_
  refine z_iload_n dX6_areInDoubt_1 rfl ?_
  refine z_icmp_eq (tgt := 29) dX6_areInDoubt_2 (by decide) (fun c1 => ?_) (fun c1 => ?_)
  · refine z_iconst (v := 0) dX6_areInDoubt_29 (by decide) ?_
    exact z_ireturn (mi := mX6_areInDoubt) dX6_areInDoubt_30 rfl rfl (Nat.le_refl _) (Nat.le_refl _) (by rw [zb_f (zdbt_eq ((nI_eq (by omega) (by omega)).mp c1))] at hP; exact hP)
  · refine z_aload_n dX6_areInDoubt_5 rfl ?_
    refine z_get dX6_areInDoubt_6 fX6_44.r (hR.1 _ (by decide)) rfl ?_
    refine z_iload_n dX6_areInDoubt_9 rfl ?_
    refine z_iload_n dX6_areInDoubt_10 rfl ?_
    refine z_V2 (mi' := mX4_has) dX6_areInDoubt_11 lX6_93 nX4_has kX4_has (by decide) (Nat.le_of_ble_eq_true rfl) (Nat.le_refl _) (Nat.le_refl _) (hR.1 _ (by decide)) rfl rfl ?_
    refine sX4_has hR hs hf ?_
    refine z_if_eq (tgt := 29) dX6_areInDoubt_14 (by decide) (fun c2 => ?_) (fun c2 => ?_)
    · refine z_iconst (v := 0) dX6_areInDoubt_29 (by decide) ?_
      exact z_ireturn (mi := mX6_areInDoubt) dX6_areInDoubt_30 rfl rfl (Nat.le_refl _) (Nat.le_refl _) (by rw [zb_f (zdbt_m1 (zb_0.mp c2))] at hP; exact hP)
    · refine z_aload_n dX6_areInDoubt_17 rfl ?_
      refine z_get dX6_areInDoubt_18 fX6_44.r (hR.1 _ (by decide)) rfl ?_
      refine z_iload_n dX6_areInDoubt_21 rfl ?_
      refine z_iload_n dX6_areInDoubt_22 rfl ?_
      refine z_V2 (mi' := mX4_has) dX6_areInDoubt_23 lX6_93 nX4_has kX4_has (by decide) (Nat.le_of_ble_eq_true rfl) (Nat.le_refl _) (Nat.le_refl _) (hR.1 _ (by decide)) rfl rfl ?_
      refine sX4_has hR hs ho ?_
      refine z_if_ne (tgt := 31) dX6_areInDoubt_26 (by decide) (fun c3 => ?_) (fun c3 => ?_)
      · refine z_aload_n dX6_areInDoubt_31 rfl ?_
        refine z_get dX6_areInDoubt_32 fX6_23.r (hR.1 _ (by decide)) rfl ?_
        refine z_get dX6_areInDoubt_35 fX6_154 (hR.1 _ (by decide)) rfl ?_
        refine z_iload_n dX6_areInDoubt_38 rfl ?_
        refine z_S2 (mi' := mX7_at) dX6_areInDoubt_39 lX6_109 nX7_at kX7_at (by decide) (Nat.le_of_ble_eq_true rfl) (Nat.le_refl _) (Nat.le_refl _) ?_
        refine sX7_at (hR.1 _ (by decide)) (by decide) hf ?_
        refine z_aload_n dX6_areInDoubt_42 rfl ?_
        refine z_get dX6_areInDoubt_43 fX6_23.r (hR.1 _ (by decide)) rfl ?_
        refine z_get dX6_areInDoubt_46 fX6_154 (hR.1 _ (by decide)) rfl ?_
        refine z_iload_n dX6_areInDoubt_49 rfl ?_
        refine z_S2 (mi' := mX7_at) dX6_areInDoubt_50 lX6_109 nX7_at kX7_at (by decide) (Nat.le_of_ble_eq_true rfl) (Nat.le_refl _) (Nat.le_refl _) ?_
        refine sX7_at (hR.1 _ (by decide)) (by decide) ho ?_
        refine z_isub dX6_areInDoubt_53 ?_
        refine z_istore dX6_areInDoubt_54 (by decide) rfl ?_
        refine z_aload_n dX6_areInDoubt_56 rfl ?_
        refine z_iload_n dX6_areInDoubt_57 rfl ?_
        refine z_iload_n dX6_areInDoubt_58 rfl ?_
        refine z_V2 (mi' := mX6_trueHeight) dX6_areInDoubt_59 lX6_166 nX6_trueHeight kX6_trueHeight (by decide) (Nat.le_of_ble_eq_true rfl) (Nat.le_refl _) (Nat.le_refl _) (hR.1 _ (by decide)) rfl rfl ?_
        refine sX6_trueHeight hR hN hs hf ?_
        refine z_aload_n dX6_areInDoubt_62 rfl ?_
        refine z_iload_n dX6_areInDoubt_63 rfl ?_
        refine z_iload_n dX6_areInDoubt_64 rfl ?_
        refine z_V2 (mi' := mX6_trueHeight) dX6_areInDoubt_65 lX6_166 nX6_trueHeight kX6_trueHeight (by decide) (Nat.le_of_ble_eq_true rfl) (Nat.le_refl _) (Nat.le_refl _) (hR.1 _ (by decide)) rfl rfl ?_
        refine sX6_trueHeight hR hN hs ho ?_
        refine z_isub dX6_areInDoubt_68 ?_
        refine z_istore dX6_areInDoubt_69 (by decide) rfl ?_
        refine z_iload dX6_areInDoubt_71 rfl ?_
        refine z_if_ne (tgt := 87) dX6_areInDoubt_73 (by decide) (fun c4 => ?_) (fun c4 => ?_)
        · refine z_iload dX6_areInDoubt_87 rfl ?_
          refine z_if_le (tgt := 105) dX6_areInDoubt_89 (by decide) (fun c5 => ?_) (fun c5 => ?_)
          · refine z_iload dX6_areInDoubt_105 rfl ?_
            refine z_if_lt (tgt := 114) dX6_areInDoubt_107 (by decide) (fun c6 => ?_) (fun c6 => ?_)
            · refine z_iconst (v := 0) dX6_areInDoubt_114 (by decide) ?_
              exact z_ireturn (mi := mX6_areInDoubt) dX6_areInDoubt_115 rfl rfl (Nat.le_refl _) (Nat.le_refl _) (by rw [zb_f (by rw [zdbt_go (znI_ne (by omega) (by omega) c1) (zb_n.mp c2) (zb_n.mp c3), zcmp, if_neg c4, if_neg (Int32.not_lt.mpr c5), decide_eq_true_eq]; exact Int32.not_le.mpr c6)] at hP; exact hP)
            · refine z_iconst (v := 1) dX6_areInDoubt_110 (by decide) ?_
              refine z_goto (tgt := 115) dX6_areInDoubt_111 (by decide) ?_
              exact z_ireturn (mi := mX6_areInDoubt) dX6_areInDoubt_115 rfl rfl (Nat.le_refl _) (Nat.le_refl _) (by rw [zb_t (by rw [zdbt_go (znI_ne (by omega) (by omega) c1) (zb_n.mp c2) (zb_n.mp c3), zcmp, if_neg c4, if_neg (Int32.not_lt.mpr c5), decide_eq_true_eq]; exact Int32.not_lt.mp c6)] at hP; exact hP)
          · refine z_iload dX6_areInDoubt_92 rfl ?_
            refine z_if_gt (tgt := 101) dX6_areInDoubt_94 (by decide) (fun c7 => ?_) (fun c7 => ?_)
            · refine z_iconst (v := 0) dX6_areInDoubt_101 (by decide) ?_
              refine z_goto (tgt := 115) dX6_areInDoubt_102 (by decide) ?_
              exact z_ireturn (mi := mX6_areInDoubt) dX6_areInDoubt_115 rfl rfl (Nat.le_refl _) (Nat.le_refl _) (by rw [zb_f (by rw [zdbt_go (znI_ne (by omega) (by omega) c1) (zb_n.mp c2) (zb_n.mp c3), zcmp, if_neg c4, if_pos (Int32.not_le.mp c5), decide_eq_true_eq]; exact Int32.not_le.mpr c7)] at hP; exact hP)
            · refine z_iconst (v := 1) dX6_areInDoubt_97 (by decide) ?_
              refine z_goto (tgt := 115) dX6_areInDoubt_98 (by decide) ?_
              exact z_ireturn (mi := mX6_areInDoubt) dX6_areInDoubt_115 rfl rfl (Nat.le_refl _) (Nat.le_refl _) (by rw [zb_t (by rw [zdbt_go (znI_ne (by omega) (by omega) c1) (zb_n.mp c2) (zb_n.mp c3), zcmp, if_neg c4, if_pos (Int32.not_le.mp c5), decide_eq_true_eq]; exact Int32.not_lt.mp c7)] at hP; exact hP)
        · refine z_iload dX6_areInDoubt_76 rfl ?_
          refine z_if_eq (tgt := 85) dX6_areInDoubt_78 (by decide) (fun c8 => ?_) (fun c8 => ?_)
          · refine z_iconst (v := 0) dX6_areInDoubt_85 (by decide) ?_
            exact z_ireturn (mi := mX6_areInDoubt) dX6_areInDoubt_86 rfl rfl (Nat.le_refl _) (Nat.le_refl _) (by rw [zb_f (by rw [zdbt_go (znI_ne (by omega) (by omega) c1) (zb_n.mp c2) (zb_n.mp c3), zcmp, if_pos c4, decide_eq_true_eq]; exact fun q => q c8)] at hP; exact hP)
          · refine z_iconst (v := 1) dX6_areInDoubt_81 (by decide) ?_
            refine z_goto (tgt := 86) dX6_areInDoubt_82 (by decide) ?_
            exact z_ireturn (mi := mX6_areInDoubt) dX6_areInDoubt_86 rfl rfl (Nat.le_refl _) (Nat.le_refl _) (by rw [zb_t (by rw [zdbt_go (znI_ne (by omega) (by omega) c1) (zb_n.mp c2) (zb_n.mp c3), zcmp, if_pos c4, decide_eq_true_eq]; exact c8)] at hP; exact hP)
      · refine z_iconst (v := 0) dX6_areInDoubt_29 (by decide) ?_
        exact z_ireturn (mi := mX6_areInDoubt) dX6_areInDoubt_30 rfl rfl (Nat.le_refl _) (Nat.le_refl _) (by rw [zb_f (zdbt_m2 (zb_0.mp c3))] at hP; exact hP)
set_option maxHeartbeats 4000000 in
set_option maxRecDepth 10000 in
theorem sX6_doubtsOnStone {Γ : zG} {d : Nat} {G : zH} {Post : zV} {ad : Nat → Nat} {σ : zSt} (hR : zRiv G ad σ) {S F E K : Nat} (hN : zN σ S F E K) {s : Nat} (hs : s < 6) (hP : Post (some (.int (nI (zdOn σ E F s)))) G) : zM Γ (d + 4) mX6_doubtsOnStone 0 0 [.ref (ad 0), .int (nI s)] G Post := by
  refine zM_of pnX6 rfl (Nat.le_of_ble_eq_true rfl) rfl ?_
  obtain ⟨hS, hS6, hF, hF12, hE, hE4, hK, hK3⟩ := id hN
  have key : ∀ (r : Nat) (i : Nat), i ≤ F → F < i + r → zX Γ mX6_doubtsOnStone (d + 4) 0 0 4 [some (.ref (ad 0)), some (.int (nI s)), some (.int (nI (zsm (fun f => zct (fun o => zdbt σ E s f o) f) i))), some (.int (nI i)), none] [] G 0 0 (zlift Post) := by
    intro r
    induction r with
    | zero =>
      intro i hi1 hi2
      exact absurd hi2 (by omega)
    | succ r ih =>
      intro i hi1 hi2
      refine z_iload_n dX6_doubtsOnStone_4 rfl ?_
      refine z_aload_n dX6_doubtsOnStone_5 rfl ?_
      refine z_get dX6_doubtsOnStone_6 fX6_23.r (hR.1 _ (by decide)) rfl ?_
      refine z_get dX6_doubtsOnStone_9 fX6_81.r (hR.1 _ (by decide)) rfl ?_
      refine z_icmp_ge (tgt := 55) dX6_doubtsOnStone_12 (by decide) (fun c1 => ?_) (fun c1 => ?_)
      · have hi9 := zgeN hF (by omega) (by omega) c1
        refine z_iload_n dX6_doubtsOnStone_55 rfl ?_
        exact z_ireturn (mi := mX6_doubtsOnStone) dX6_doubtsOnStone_56 rfl rfl (Nat.le_refl _) (Nat.le_refl _) (by rw [zdOn, show F = i by omega] at hP; exact hP)
      · have hi9 := zltN hF (by omega) (by omega) c1
        refine z_iconst (v := 0) dX6_doubtsOnStone_15 (by decide) ?_
        refine z_istore dX6_doubtsOnStone_16 (by decide) rfl ?_
        have key2 : ∀ (r2 : Nat) (j : Nat), j ≤ i → i < j + r2 → zX Γ mX6_doubtsOnStone (d + 4) 0 0 18 [some (.ref (ad 0)), some (.int (nI s)), some (.int (nI (zsm (fun f => zct (fun o => zdbt σ E s f o) f) i + zct (fun o => zdbt σ E s i o) j))), some (.int (nI i)), some (.int (nI j))] [] G 0 0 (zlift Post) := by
          intro r2
          induction r2 with
          | zero =>
            intro j hj1 hj2
            exact absurd hj2 (by omega)
          | succ r2 ih2 =>
            intro j hj1 hj2
            refine z_iload dX6_doubtsOnStone_18 rfl ?_
            refine z_iload_n dX6_doubtsOnStone_20 rfl ?_
            refine z_icmp_ge (tgt := 49) dX6_doubtsOnStone_21 (by decide) (fun c1 => ?_) (fun c1 => ?_)
            · have hj9 := (nI_leI (by omega) (by omega)).mp c1
              refine z_iinc dX6_doubtsOnStone_49 rfl rfl (by decide) rfl ?_
              refine z_goto (tgt := 4) dX6_doubtsOnStone_52 (by decide) ?_
              exact z_sub (lv' := [some (.ref (ad 0)), some (.int (nI s)), some (.int (nI (zsm (fun f => zct (fun o => zdbt σ E s f o) f) (i + 1)))), some (.int (nI (i + 1))), none]) ⟨rfl, rfl, zsl (by obtain rfl : j = i := (by omega); rfl), zsl (zinc i), trivial⟩ (ih (i + 1) (by omega) (by omega))
            · have hj9 := Nat.lt_of_not_le (fun q => c1 ((nI_leI (by omega) (by omega)).mpr q))
              refine z_iload_n dX6_doubtsOnStone_24 rfl ?_
              refine z_aload_n dX6_doubtsOnStone_25 rfl ?_
              refine z_iload_n dX6_doubtsOnStone_26 rfl ?_
              refine z_iload_n dX6_doubtsOnStone_27 rfl ?_
              refine z_iload dX6_doubtsOnStone_28 rfl ?_
              refine z_V3 (mi' := mX6_areInDoubt) dX6_doubtsOnStone_30 lX6_169 nX6_areInDoubt kX6_areInDoubt (by decide) (Nat.le_of_ble_eq_true rfl) (Nat.le_refl _) (Nat.le_refl _) (hR.1 _ (by decide)) rfl rfl ?_
              refine sX6_areInDoubt hR hN hs (show i < 12 by omega) (show j < 12 by omega) ?_
              refine z_if_eq (tgt := 40) dX6_doubtsOnStone_33 (by decide) (fun c2 => ?_) (fun c2 => ?_)
              · have e9 := zct_f (p := (fun o => zdbt σ E s i o)) (n := j) (zbf (zb_0.mp c2))
                refine z_iconst (v := 0) dX6_doubtsOnStone_40 (by decide) ?_
                refine z_iadd dX6_doubtsOnStone_41 ?_
                refine z_istore_n dX6_doubtsOnStone_42 (by decide) rfl ?_
                refine z_iinc dX6_doubtsOnStone_43 rfl rfl (by decide) rfl ?_
                refine z_goto (tgt := 18) dX6_doubtsOnStone_46 (by decide) ?_
                exact z_sub (lv' := [some (.ref (ad 0)), some (.int (nI s)), some (.int (nI (zsm (fun f => zct (fun o => zdbt σ E s f o) f) i + zct (fun o => zdbt σ E s i o) (j + 1)))), some (.int (nI i)), some (.int (nI (j + 1)))]) ⟨rfl, rfl, zsl (by rw [e9]; first | exact (nI_1 _) | exact (zadd0 _) | rfl), rfl, zsl (zinc j), trivial⟩ (ih2 (j + 1) (by omega) (by omega))
              · have e9 := zct_t (p := (fun o => zdbt σ E s i o)) (n := j) (zb_n.mp c2)
                refine z_iconst (v := 1) dX6_doubtsOnStone_36 (by decide) ?_
                refine z_goto (tgt := 41) dX6_doubtsOnStone_37 (by decide) ?_
                refine z_iadd dX6_doubtsOnStone_41 ?_
                refine z_istore_n dX6_doubtsOnStone_42 (by decide) rfl ?_
                refine z_iinc dX6_doubtsOnStone_43 rfl rfl (by decide) rfl ?_
                refine z_goto (tgt := 18) dX6_doubtsOnStone_46 (by decide) ?_
                exact z_sub (lv' := [some (.ref (ad 0)), some (.int (nI s)), some (.int (nI (zsm (fun f => zct (fun o => zdbt σ E s f o) f) i + zct (fun o => zdbt σ E s i o) (j + 1)))), some (.int (nI i)), some (.int (nI (j + 1)))]) ⟨rfl, rfl, zsl (by rw [e9]; first | exact (nI_1 _) | exact (zadd0 _) | rfl), rfl, zsl (zinc j), trivial⟩ (ih2 (j + 1) (by omega) (by omega))
        exact z_sub (lv' := [some (.ref (ad 0)), some (.int (nI s)), some (.int (nI (zsm (fun f => zct (fun o => zdbt σ E s f o) f) i + zct (fun o => zdbt σ E s i o) 0))), some (.int (nI i)), some (.int (nI 0))]) ⟨rfl, rfl, rfl, rfl, rfl, trivial⟩ (key2 (i + 1) 0 (by omega) (by omega))
  refine z_iconst (v := 0) dX6_doubtsOnStone_0 (by decide) ?_
  refine z_istore_n dX6_doubtsOnStone_1 (by decide) rfl ?_
  refine z_iconst (v := 0) dX6_doubtsOnStone_2 (by decide) ?_
  refine z_istore_n dX6_doubtsOnStone_3 (by decide) rfl ?_
  exact z_sub (lv' := [some (.ref (ad 0)), some (.int (nI s)), some (.int (nI (zsm (fun f => zct (fun o => zdbt σ E s f o) f) 0))), some (.int (nI 0)), none]) ⟨rfl, rfl, rfl, rfl, trivial⟩ (key (F + 1) 0 (by omega) (by omega))
set_option maxHeartbeats 4000000 in
set_option maxRecDepth 10000 in
theorem sX6_doubtsOfFlood {Γ : zG} {d : Nat} {G : zH} {Post : zV} {ad : Nat → Nat} {σ : zSt} (hR : zRiv G ad σ) {S F E K : Nat} (hN : zN σ S F E K) {f : Nat} (hf : f < 12) (hP : Post (some (.int (nI (zdOf σ E F S f)))) G) : zM Γ (d + 4) mX6_doubtsOfFlood 0 0 [.ref (ad 0), .int (nI f)] G Post := by
  refine zM_of pnX6 rfl (Nat.le_of_ble_eq_true rfl) rfl ?_
  obtain ⟨hS, hS6, hF, hF12, hE, hE4, hK, hK3⟩ := id hN
  have key : ∀ (r : Nat) (i : Nat), i ≤ S → S < i + r → zX Γ mX6_doubtsOfFlood (d + 4) 0 0 4 [some (.ref (ad 0)), some (.int (nI f)), some (.int (nI (zsm (fun s => zct (fun o => zdbt σ E s f o) F) i))), some (.int (nI i)), none] [] G 0 0 (zlift Post) := by
    intro r
    induction r with
    | zero =>
      intro i hi1 hi2
      exact absurd hi2 (by omega)
    | succ r ih =>
      intro i hi1 hi2
      refine z_iload_n dX6_doubtsOfFlood_4 rfl ?_
      refine z_aload_n dX6_doubtsOfFlood_5 rfl ?_
      refine z_get dX6_doubtsOfFlood_6 fX6_16.r (hR.1 _ (by decide)) rfl ?_
      refine z_get dX6_doubtsOfFlood_9 fX6_74.r (hR.1 _ (by decide)) rfl ?_
      refine z_icmp_ge (tgt := 61) dX6_doubtsOfFlood_12 (by decide) (fun c1 => ?_) (fun c1 => ?_)
      · have hi9 := zgeN hS (by omega) (by omega) c1
        refine z_iload_n dX6_doubtsOfFlood_61 rfl ?_
        exact z_ireturn (mi := mX6_doubtsOfFlood) dX6_doubtsOfFlood_62 rfl rfl (Nat.le_refl _) (Nat.le_refl _) (by rw [zdOf, show S = i by omega] at hP; exact hP)
      · have hi9 := zltN hS (by omega) (by omega) c1
        refine z_iconst (v := 0) dX6_doubtsOfFlood_15 (by decide) ?_
        refine z_istore dX6_doubtsOfFlood_16 (by decide) rfl ?_
        have key2 : ∀ (r2 : Nat) (j : Nat), j ≤ F → F < j + r2 → zX Γ mX6_doubtsOfFlood (d + 4) 0 0 18 [some (.ref (ad 0)), some (.int (nI f)), some (.int (nI (zsm (fun s => zct (fun o => zdbt σ E s f o) F) i + zct (fun o => zdbt σ E i f o) j))), some (.int (nI i)), some (.int (nI j))] [] G 0 0 (zlift Post) := by
          intro r2
          induction r2 with
          | zero =>
            intro j hj1 hj2
            exact absurd hj2 (by omega)
          | succ r2 ih2 =>
            intro j hj1 hj2
            refine z_iload dX6_doubtsOfFlood_18 rfl ?_
            refine z_aload_n dX6_doubtsOfFlood_20 rfl ?_
            refine z_get dX6_doubtsOfFlood_21 fX6_23.r (hR.1 _ (by decide)) rfl ?_
            refine z_get dX6_doubtsOfFlood_24 fX6_81.r (hR.1 _ (by decide)) rfl ?_
            refine z_icmp_ge (tgt := 55) dX6_doubtsOfFlood_27 (by decide) (fun c1 => ?_) (fun c1 => ?_)
            · have hj9 := zgeN hF (by omega) (by omega) c1
              refine z_iinc dX6_doubtsOfFlood_55 rfl rfl (by decide) rfl ?_
              refine z_goto (tgt := 4) dX6_doubtsOfFlood_58 (by decide) ?_
              exact z_sub (lv' := [some (.ref (ad 0)), some (.int (nI f)), some (.int (nI (zsm (fun s => zct (fun o => zdbt σ E s f o) F) (i + 1)))), some (.int (nI (i + 1))), none]) ⟨rfl, rfl, zsl (by obtain rfl : j = F := (by omega); rfl), zsl (zinc i), trivial⟩ (ih (i + 1) (by omega) (by omega))
            · have hj9 := zltN hF (by omega) (by omega) c1
              refine z_iload_n dX6_doubtsOfFlood_30 rfl ?_
              refine z_aload_n dX6_doubtsOfFlood_31 rfl ?_
              refine z_iload_n dX6_doubtsOfFlood_32 rfl ?_
              refine z_iload_n dX6_doubtsOfFlood_33 rfl ?_
              refine z_iload dX6_doubtsOfFlood_34 rfl ?_
              refine z_V3 (mi' := mX6_areInDoubt) dX6_doubtsOfFlood_36 lX6_169 nX6_areInDoubt kX6_areInDoubt (by decide) (Nat.le_of_ble_eq_true rfl) (Nat.le_refl _) (Nat.le_refl _) (hR.1 _ (by decide)) rfl rfl ?_
              refine sX6_areInDoubt hR hN (show i < 6 by omega) hf (show j < 12 by omega) ?_
              refine z_if_eq (tgt := 46) dX6_doubtsOfFlood_39 (by decide) (fun c2 => ?_) (fun c2 => ?_)
              · have e9 := zct_f (p := (fun o => zdbt σ E i f o)) (n := j) (zbf (zb_0.mp c2))
                refine z_iconst (v := 0) dX6_doubtsOfFlood_46 (by decide) ?_
                refine z_iadd dX6_doubtsOfFlood_47 ?_
                refine z_istore_n dX6_doubtsOfFlood_48 (by decide) rfl ?_
                refine z_iinc dX6_doubtsOfFlood_49 rfl rfl (by decide) rfl ?_
                refine z_goto (tgt := 18) dX6_doubtsOfFlood_52 (by decide) ?_
                exact z_sub (lv' := [some (.ref (ad 0)), some (.int (nI f)), some (.int (nI (zsm (fun s => zct (fun o => zdbt σ E s f o) F) i + zct (fun o => zdbt σ E i f o) (j + 1)))), some (.int (nI i)), some (.int (nI (j + 1)))]) ⟨rfl, rfl, zsl (by rw [e9]; first | exact (nI_1 _) | exact (zadd0 _) | rfl), rfl, zsl (zinc j), trivial⟩ (ih2 (j + 1) (by omega) (by omega))
              · have e9 := zct_t (p := (fun o => zdbt σ E i f o)) (n := j) (zb_n.mp c2)
                refine z_iconst (v := 1) dX6_doubtsOfFlood_42 (by decide) ?_
                refine z_goto (tgt := 47) dX6_doubtsOfFlood_43 (by decide) ?_
                refine z_iadd dX6_doubtsOfFlood_47 ?_
                refine z_istore_n dX6_doubtsOfFlood_48 (by decide) rfl ?_
                refine z_iinc dX6_doubtsOfFlood_49 rfl rfl (by decide) rfl ?_
                refine z_goto (tgt := 18) dX6_doubtsOfFlood_52 (by decide) ?_
                exact z_sub (lv' := [some (.ref (ad 0)), some (.int (nI f)), some (.int (nI (zsm (fun s => zct (fun o => zdbt σ E s f o) F) i + zct (fun o => zdbt σ E i f o) (j + 1)))), some (.int (nI i)), some (.int (nI (j + 1)))]) ⟨rfl, rfl, zsl (by rw [e9]; first | exact (nI_1 _) | exact (zadd0 _) | rfl), rfl, zsl (zinc j), trivial⟩ (ih2 (j + 1) (by omega) (by omega))
        exact z_sub (lv' := [some (.ref (ad 0)), some (.int (nI f)), some (.int (nI (zsm (fun s => zct (fun o => zdbt σ E s f o) F) i + zct (fun o => zdbt σ E i f o) 0))), some (.int (nI i)), some (.int (nI 0))]) ⟨rfl, rfl, rfl, rfl, rfl, trivial⟩ (key2 (F + 1) 0 (by omega) (by omega))
  refine z_iconst (v := 0) dX6_doubtsOfFlood_0 (by decide) ?_
  refine z_istore_n dX6_doubtsOfFlood_1 (by decide) rfl ?_
  refine z_iconst (v := 0) dX6_doubtsOfFlood_2 (by decide) ?_
  refine z_istore_n dX6_doubtsOfFlood_3 (by decide) rfl ?_
  exact z_sub (lv' := [some (.ref (ad 0)), some (.int (nI f)), some (.int (nI (zsm (fun s => zct (fun o => zdbt σ E s f o) F) 0))), some (.int (nI 0)), none]) ⟨rfl, rfl, rfl, rfl, trivial⟩ (key (S + 1) 0 (by omega) (by omega))
set_option maxHeartbeats 4000000 in
set_option maxRecDepth 10000 in
theorem sX6_doubtsByStones {Γ : zG} {d : Nat} {G : zH} {Post : zV} {ad : Nat → Nat} {σ : zSt} (hR : zRiv G ad σ) {S F E K : Nat} (hN : zN σ S F E K) (hP : Post (some (.int (nI (zsm (zdOn σ E F) S)))) G) : zM Γ (d + 5) mX6_doubtsByStones 0 0 [.ref (ad 0)] G Post := by
  refine zM_of pnX6 rfl (Nat.le_of_ble_eq_true rfl) rfl ?_
  obtain ⟨hS, hS6, hF, hF12, hE, hE4, hK, hK3⟩ := id hN
  have key : ∀ (r : Nat) (i : Nat), i ≤ S → S < i + r → zX Γ mX6_doubtsByStones (d + 5) 0 0 4 [some (.ref (ad 0)), some (.int (nI (zsm (zdOn σ E F) i))), some (.int (nI i))] [] G 0 0 (zlift Post) := by
    intro r
    induction r with
    | zero =>
      intro i hi1 hi2
      exact absurd hi2 (by omega)
    | succ r ih =>
      intro i hi1 hi2
      refine z_iload_n dX6_doubtsByStones_4 rfl ?_
      refine z_aload_n dX6_doubtsByStones_5 rfl ?_
      refine z_get dX6_doubtsByStones_6 fX6_16.r (hR.1 _ (by decide)) rfl ?_
      refine z_get dX6_doubtsByStones_9 fX6_74.r (hR.1 _ (by decide)) rfl ?_
      refine z_icmp_ge (tgt := 29) dX6_doubtsByStones_12 (by decide) (fun c1 => ?_) (fun c1 => ?_)
      · have hi9 := zgeN hS (by omega) (by omega) c1
        refine z_iload_n dX6_doubtsByStones_29 rfl ?_
        exact z_ireturn (mi := mX6_doubtsByStones) dX6_doubtsByStones_30 rfl rfl (Nat.le_refl _) (Nat.le_refl _) (by rw [show i = S by omega]; exact hP)
      · have hi9 := zltN hS (by omega) (by omega) c1
        refine z_iload_n dX6_doubtsByStones_15 rfl ?_
        refine z_aload_n dX6_doubtsByStones_16 rfl ?_
        refine z_iload_n dX6_doubtsByStones_17 rfl ?_
        refine z_V1 (mi' := mX6_doubtsOnStone) dX6_doubtsByStones_18 lX6_172 nX6_doubtsOnStone kX6_doubtsOnStone (by decide) (Nat.le_of_ble_eq_true rfl) (Nat.le_refl _) (Nat.le_refl _) (hR.1 _ (by decide)) rfl rfl ?_
        refine sX6_doubtsOnStone hR hN (show i < 6 by omega) ?_
        refine z_iadd dX6_doubtsByStones_21 ?_
        refine z_istore_n dX6_doubtsByStones_22 (by decide) rfl ?_
        refine z_iinc dX6_doubtsByStones_23 rfl rfl (by decide) rfl ?_
        refine z_goto (tgt := 4) dX6_doubtsByStones_26 (by decide) ?_
        exact z_sub (lv' := [some (.ref (ad 0)), some (.int (nI (zsm (zdOn σ E F) (i + 1)))), some (.int (nI (i + 1)))]) ⟨rfl, zsl (nI_add _ _), zsl (zinc i), trivial⟩ (ih (i + 1) (by omega) (by omega))
  refine z_iconst (v := 0) dX6_doubtsByStones_0 (by decide) ?_
  refine z_istore_n dX6_doubtsByStones_1 (by decide) rfl ?_
  refine z_iconst (v := 0) dX6_doubtsByStones_2 (by decide) ?_
  refine z_istore_n dX6_doubtsByStones_3 (by decide) rfl ?_
  exact z_sub (lv' := [some (.ref (ad 0)), some (.int (nI (zsm (zdOn σ E F) 0))), some (.int (nI 0))]) ⟨rfl, rfl, rfl, trivial⟩ (key (S + 1) 0 (by omega) (by omega))
set_option maxHeartbeats 4000000 in
set_option maxRecDepth 10000 in
theorem sX6_doubtsByFloods {Γ : zG} {d : Nat} {G : zH} {Post : zV} {ad : Nat → Nat} {σ : zSt} (hR : zRiv G ad σ) {S F E K : Nat} (hN : zN σ S F E K) (hP : Post (some (.int (nI (zsm (zdOf σ E F S) F) / 2))) G) : zM Γ (d + 5) mX6_doubtsByFloods 0 0 [.ref (ad 0)] G Post := by
  refine zM_of pnX6 rfl (Nat.le_of_ble_eq_true rfl) rfl ?_
  obtain ⟨hS, hS6, hF, hF12, hE, hE4, hK, hK3⟩ := id hN
  have key : ∀ (r : Nat) (i : Nat), i ≤ F → F < i + r → zX Γ mX6_doubtsByFloods (d + 5) 0 0 4 [some (.ref (ad 0)), some (.int (nI (zsm (zdOf σ E F S) i))), some (.int (nI i))] [] G 0 0 (zlift Post) := by
    intro r
    induction r with
    | zero =>
      intro i hi1 hi2
      exact absurd hi2 (by omega)
    | succ r ih =>
      intro i hi1 hi2
      refine z_iload_n dX6_doubtsByFloods_4 rfl ?_
      refine z_aload_n dX6_doubtsByFloods_5 rfl ?_
      refine z_get dX6_doubtsByFloods_6 fX6_23.r (hR.1 _ (by decide)) rfl ?_
      refine z_get dX6_doubtsByFloods_9 fX6_81.r (hR.1 _ (by decide)) rfl ?_
      refine z_icmp_ge (tgt := 29) dX6_doubtsByFloods_12 (by decide) (fun c1 => ?_) (fun c1 => ?_)
      · have hi9 := zgeN hF (by omega) (by omega) c1
        refine z_iload_n dX6_doubtsByFloods_29 rfl ?_
        refine z_iconst (v := 2) dX6_doubtsByFloods_30 (by decide) ?_
        refine z_idiv dX6_doubtsByFloods_31 (by decide) ?_
        exact z_ireturn (mi := mX6_doubtsByFloods) dX6_doubtsByFloods_32 rfl rfl (Nat.le_refl _) (Nat.le_refl _) (by rw [show i = F by omega]; exact hP)
      · have hi9 := zltN hF (by omega) (by omega) c1
        refine z_iload_n dX6_doubtsByFloods_15 rfl ?_
        refine z_aload_n dX6_doubtsByFloods_16 rfl ?_
        refine z_iload_n dX6_doubtsByFloods_17 rfl ?_
        refine z_V1 (mi' := mX6_doubtsOfFlood) dX6_doubtsByFloods_18 lX6_175 nX6_doubtsOfFlood kX6_doubtsOfFlood (by decide) (Nat.le_of_ble_eq_true rfl) (Nat.le_refl _) (Nat.le_refl _) (hR.1 _ (by decide)) rfl rfl ?_
        refine sX6_doubtsOfFlood hR hN (show i < 12 by omega) ?_
        refine z_iadd dX6_doubtsByFloods_21 ?_
        refine z_istore_n dX6_doubtsByFloods_22 (by decide) rfl ?_
        refine z_iinc dX6_doubtsByFloods_23 rfl rfl (by decide) rfl ?_
        refine z_goto (tgt := 4) dX6_doubtsByFloods_26 (by decide) ?_
        exact z_sub (lv' := [some (.ref (ad 0)), some (.int (nI (zsm (zdOf σ E F S) (i + 1)))), some (.int (nI (i + 1)))]) ⟨rfl, zsl (nI_add _ _), zsl (zinc i), trivial⟩ (ih (i + 1) (by omega) (by omega))
  refine z_iconst (v := 0) dX6_doubtsByFloods_0 (by decide) ?_
  refine z_istore_n dX6_doubtsByFloods_1 (by decide) rfl ?_
  refine z_iconst (v := 0) dX6_doubtsByFloods_2 (by decide) ?_
  refine z_istore_n dX6_doubtsByFloods_3 (by decide) rfl ?_
  exact z_sub (lv' := [some (.ref (ad 0)), some (.int (nI (zsm (zdOf σ E F S) 0))), some (.int (nI 0))]) ⟨rfl, rfl, rfl, trivial⟩ (key (F + 1) 0 (by omega) (by omega))
theorem zdOn_le (σ : zSt) (E F s : Nat) (hF : F ≤ 12) : zdOn σ E F s ≤ 144 := by
  have h := zsm_le (f := fun f => zct (fun o => zdbt σ E s f o) f) (b := 12) (n := F) (fun k hk => Nat.le_trans (zct_le _ _) (by omega))
  unfold zdOn
  have : F * 12 ≤ 144 := by omega
  omega
set_option maxHeartbeats 4000000 in
set_option maxRecDepth 10000 in
theorem sX6_stonesInDoubt {Γ : zG} {d : Nat} {G : zH} {Post : zV} {ad : Nat → Nat} {σ : zSt} (hR : zRiv G ad σ) {S F E K : Nat} (hN : zN σ S F E K) (hP : Post (some (.int (nI (zct (fun s => decide (0 < zdOn σ E F s)) S)))) G) : zM Γ (d + 5) mX6_stonesInDoubt 0 0 [.ref (ad 0)] G Post := by
  refine zM_of pnX6 rfl (Nat.le_of_ble_eq_true rfl) rfl ?_
  obtain ⟨hS, hS6, hF, hF12, hE, hE4, hK, hK3⟩ := id hN
  have key : ∀ (r : Nat) (i : Nat), i ≤ S → S < i + r → zX Γ mX6_stonesInDoubt (d + 5) 0 0 4 [some (.ref (ad 0)), some (.int (nI (zct (fun s => decide (0 < zdOn σ E F s)) i))), some (.int (nI i))] [] G 0 0 (zlift Post) := by
    intro r
    induction r with
    | zero =>
      intro i hi1 hi2
      exact absurd hi2 (by omega)
    | succ r ih =>
      intro i hi1 hi2
      refine z_iload_n dX6_stonesInDoubt_4 rfl ?_
      refine z_aload_n dX6_stonesInDoubt_5 rfl ?_
      refine z_get dX6_stonesInDoubt_6 fX6_16.r (hR.1 _ (by decide)) rfl ?_
      refine z_get dX6_stonesInDoubt_9 fX6_74.r (hR.1 _ (by decide)) rfl ?_
      refine z_icmp_ge (tgt := 37) dX6_stonesInDoubt_12 (by decide) (fun c1 => ?_) (fun c1 => ?_)
      · have hi9 := zgeN hS (by omega) (by omega) c1
        refine z_iload_n dX6_stonesInDoubt_37 rfl ?_
        exact z_ireturn (mi := mX6_stonesInDoubt) dX6_stonesInDoubt_38 rfl rfl (Nat.le_refl _) (Nat.le_refl _) (by rw [show i = S by omega]; exact hP)
      · have hi9 := zltN hS (by omega) (by omega) c1
        refine z_iload_n dX6_stonesInDoubt_15 rfl ?_
        refine z_aload_n dX6_stonesInDoubt_16 rfl ?_
        refine z_iload_n dX6_stonesInDoubt_17 rfl ?_
        refine z_V1 (mi' := mX6_doubtsOnStone) dX6_stonesInDoubt_18 lX6_172 nX6_doubtsOnStone kX6_doubtsOnStone (by decide) (Nat.le_of_ble_eq_true rfl) (Nat.le_refl _) (Nat.le_refl _) (hR.1 _ (by decide)) rfl rfl ?_
        refine sX6_doubtsOnStone hR hN (show i < 6 by omega) ?_
        refine z_if_le (tgt := 28) dX6_stonesInDoubt_21 (by decide) (fun c2 => ?_) (fun c2 => ?_)
        · have h8 := zdOn_le σ E F i hF12
          have h7 := zgeN (N := zdOn σ E F i) (i := 0) rfl (by omega) (by omega) c2
          have e9 := zct_f (p := (fun s => decide (0 < zdOn σ E F s))) (n := i) (by simp; omega)
          refine z_iconst (v := 0) dX6_stonesInDoubt_28 (by decide) ?_
          refine z_iadd dX6_stonesInDoubt_29 ?_
          refine z_istore_n dX6_stonesInDoubt_30 (by decide) rfl ?_
          refine z_iinc dX6_stonesInDoubt_31 rfl rfl (by decide) rfl ?_
          refine z_goto (tgt := 4) dX6_stonesInDoubt_34 (by decide) ?_
          exact z_sub (lv' := [some (.ref (ad 0)), some (.int (nI (zct (fun s => decide (0 < zdOn σ E F s)) (i + 1)))), some (.int (nI (i + 1)))]) ⟨rfl, zsl (by rw [e9]; first | exact nI_1 _ | exact zadd0 _ | rfl), zsl (zinc i), trivial⟩ (ih (i + 1) (by omega) (by omega))
        · have h8 := zdOn_le σ E F i hF12
          have h7 := zltN (N := zdOn σ E F i) (i := 0) rfl (by omega) (by omega) c2
          have e9 := zct_t (p := (fun s => decide (0 < zdOn σ E F s))) (n := i) (by simp; omega)
          refine z_iconst (v := 1) dX6_stonesInDoubt_24 (by decide) ?_
          refine z_goto (tgt := 29) dX6_stonesInDoubt_25 (by decide) ?_
          refine z_iadd dX6_stonesInDoubt_29 ?_
          refine z_istore_n dX6_stonesInDoubt_30 (by decide) rfl ?_
          refine z_iinc dX6_stonesInDoubt_31 rfl rfl (by decide) rfl ?_
          refine z_goto (tgt := 4) dX6_stonesInDoubt_34 (by decide) ?_
          exact z_sub (lv' := [some (.ref (ad 0)), some (.int (nI (zct (fun s => decide (0 < zdOn σ E F s)) (i + 1)))), some (.int (nI (i + 1)))]) ⟨rfl, zsl (by rw [e9]; first | exact nI_1 _ | exact zadd0 _ | rfl), zsl (zinc i), trivial⟩ (ih (i + 1) (by omega) (by omega))
  refine z_iconst (v := 0) dX6_stonesInDoubt_0 (by decide) ?_
  refine z_istore_n dX6_stonesInDoubt_1 (by decide) rfl ?_
  refine z_iconst (v := 0) dX6_stonesInDoubt_2 (by decide) ?_
  refine z_istore_n dX6_stonesInDoubt_3 (by decide) rfl ?_
  exact z_sub (lv' := [some (.ref (ad 0)), some (.int (nI (zct (fun s => decide (0 < zdOn σ E F s)) 0))), some (.int (nI 0))]) ⟨rfl, rfl, rfl, trivial⟩ (key (S + 1) 0 (by omega) (by omega))
set_option maxHeartbeats 4000000 in
set_option maxRecDepth 10000 in
theorem sX6_creditOf {Γ : zG} {d : Nat} {G : zH} {Post : zV} {ad : Nat → Nat} {σ : zSt} (hR : zRiv G ad σ) {S F E K : Nat} (hN : zN σ S F E K) {f : Nat} (hf : f < 12) (hP : Post (some (.int (zcred σ E F S f))) G) : zM Γ (d + 5) mX6_creditOf 0 0 [.ref (ad 0), .int (nI f)] G Post := by
  refine zM_of pnX6 rfl (Nat.le_of_ble_eq_true rfl) rfl ?_
  refine z_iconst (v := 0) dX6_creditOf_0 (by decide) ?_
  refine z_bipush (v := 10) dX6_creditOf_1 (by decide) ?_
  refine z_aload_n dX6_creditOf_3 rfl ?_
  refine z_get dX6_creditOf_4 fX6_23.r (hR.1 _ (by decide)) rfl ?_
  refine z_get dX6_creditOf_7 fX6_124 (hR.1 _ (by decide)) rfl ?_
  refine z_iload_n dX6_creditOf_10 rfl ?_
  refine z_S2 (mi' := mX7_at) dX6_creditOf_11 lX6_109 nX7_at kX7_at (by decide) (Nat.le_of_ble_eq_true rfl) (Nat.le_refl _) (Nat.le_refl _) ?_
  refine sX7_at (hR.1 _ (by decide)) (by decide) hf ?_
  refine z_imul dX6_creditOf_14 ?_
  refine z_iconst (v := 5) dX6_creditOf_15 (by decide) ?_
  refine z_aload_n dX6_creditOf_16 rfl ?_
  refine z_iload_n dX6_creditOf_17 rfl ?_
  refine z_V1 (mi' := mX6_doubtsOfFlood) dX6_creditOf_18 lX6_175 nX6_doubtsOfFlood kX6_doubtsOfFlood (by decide) (Nat.le_of_ble_eq_true rfl) (Nat.le_refl _) (Nat.le_refl _) (hR.1 _ (by decide)) rfl rfl ?_
  refine sX6_doubtsOfFlood hR hN hf ?_
  refine z_imul dX6_creditOf_21 ?_
  refine z_isub dX6_creditOf_22 ?_
  refine z_mmax dX6_creditOf_23 lkX6_178 (by decide) (Nat.le_refl _) (Nat.le_refl _) ?_
  exact z_ireturn (mi := mX6_creditOf) dX6_creditOf_26 rfl rfl (Nat.le_refl _) (Nat.le_refl _) (hP)
set_option maxHeartbeats 4000000 in
set_option maxRecDepth 10000 in
theorem sX6_isAhead {Γ : zG} {d : Nat} {G : zH} {Post : zV} {ad : Nat → Nat} {σ : zSt} (hR : zRiv G ad σ) {S F E K : Nat} (hN : zN σ S F E K) {ca nc : Nat} {cr : Nat → Int32} (hC : G ca = some (.inl (.int, (nc, .inl cr)))) (hnc : F ≤ nc) (hnc2 : nc < 2147483648) {f o : Nat} (hf : f < F) (ho : o < F) (hP : Post (some (.int (zb (zahd σ cr f o = true)))) G) : zM Γ (d + 1) mX6_isAhead 0 0 [.ref (ad 0), .int (nI f), .int (nI o), .ref ca] G Post := by
  refine zM_of pnX6 rfl (Nat.le_of_ble_eq_true rfl) rfl ?_
  obtain ⟨hS, hS6, hF, hF12, hE, hE4, hK, hK3⟩ := id hN
  refine z_aload_n dX6_isAhead_0 rfl ?_
  refine z_iload_n dX6_isAhead_1 rfl ?_
  refine z_S2 (mi' := mX7_at) dX6_isAhead_2 lX6_109 nX7_at kX7_at (by decide) (Nat.le_of_ble_eq_true rfl) (Nat.le_refl _) (Nat.le_refl _) ?_
  refine sX7_at hC hnc2 (Nat.lt_of_lt_of_le hf hnc) ?_
  refine z_aload_n dX6_isAhead_5 rfl ?_
  refine z_iload_n dX6_isAhead_6 rfl ?_
  refine z_S2 (mi' := mX7_at) dX6_isAhead_7 lX6_109 nX7_at kX7_at (by decide) (Nat.le_of_ble_eq_true rfl) (Nat.le_refl _) (Nat.le_refl _) ?_
  refine sX7_at hC hnc2 (Nat.lt_of_lt_of_le ho hnc) ?_
  refine z_isub dX6_isAhead_10 ?_
  refine z_istore dX6_isAhead_11 (by decide) rfl ?_
  refine z_iload dX6_isAhead_13 rfl ?_
  refine z_if_eq (tgt := 29) dX6_isAhead_15 (by decide) (fun c1 => ?_) (fun c1 => ?_)
  · refine z_aload_n dX6_isAhead_29 rfl ?_
    refine z_get dX6_isAhead_30 fX6_23.r (hR.1 _ (by decide)) rfl ?_
    refine z_get dX6_isAhead_33 fX6_154 (hR.1 _ (by decide)) rfl ?_
    refine z_iload_n dX6_isAhead_36 rfl ?_
    refine z_S2 (mi' := mX7_at) dX6_isAhead_37 lX6_109 nX7_at kX7_at (by decide) (Nat.le_of_ble_eq_true rfl) (Nat.le_refl _) (Nat.le_refl _) ?_
    refine sX7_at (hR.1 _ (by decide)) (by decide) (show f < 12 by omega) ?_
    refine z_aload_n dX6_isAhead_40 rfl ?_
    refine z_get dX6_isAhead_41 fX6_23.r (hR.1 _ (by decide)) rfl ?_
    refine z_get dX6_isAhead_44 fX6_154 (hR.1 _ (by decide)) rfl ?_
    refine z_iload_n dX6_isAhead_47 rfl ?_
    refine z_S2 (mi' := mX7_at) dX6_isAhead_48 lX6_109 nX7_at kX7_at (by decide) (Nat.le_of_ble_eq_true rfl) (Nat.le_refl _) (Nat.le_refl _) ?_
    refine sX7_at (hR.1 _ (by decide)) (by decide) (show o < 12 by omega) ?_
    refine z_isub dX6_isAhead_51 ?_
    refine z_istore dX6_isAhead_52 (by decide) rfl ?_
    refine z_iload dX6_isAhead_54 rfl ?_
    refine z_if_eq (tgt := 70) dX6_isAhead_56 (by decide) (fun c2 => ?_) (fun c2 => ?_)
    · refine z_aload_n dX6_isAhead_70 rfl ?_
      refine z_get dX6_isAhead_71 fX6_23.r (hR.1 _ (by decide)) rfl ?_
      refine z_get dX6_isAhead_74 fX6_187 (hR.1 _ (by decide)) rfl ?_
      refine z_iload_n dX6_isAhead_77 rfl ?_
      refine z_S2 (mi' := mX7_at) dX6_isAhead_78 lX6_109 nX7_at kX7_at (by decide) (Nat.le_of_ble_eq_true rfl) (Nat.le_refl _) (Nat.le_refl _) ?_
      refine sX7_at (hR.1 _ (by decide)) (by decide) (show f < 12 by omega) ?_
      refine z_aload_n dX6_isAhead_81 rfl ?_
      refine z_get dX6_isAhead_82 fX6_23.r (hR.1 _ (by decide)) rfl ?_
      refine z_get dX6_isAhead_85 fX6_187 (hR.1 _ (by decide)) rfl ?_
      refine z_iload_n dX6_isAhead_88 rfl ?_
      refine z_S2 (mi' := mX7_at) dX6_isAhead_89 lX6_109 nX7_at kX7_at (by decide) (Nat.le_of_ble_eq_true rfl) (Nat.le_refl _) (Nat.le_refl _) ?_
      refine sX7_at (hR.1 _ (by decide)) (by decide) (show o < 12 by omega) ?_
      refine z_icmp_ge (tgt := 99) dX6_isAhead_92 (by decide) (fun c3 => ?_) (fun c3 => ?_)
      · refine z_iconst (v := 0) dX6_isAhead_99 (by decide) ?_
        exact z_ireturn (mi := mX6_isAhead) dX6_isAhead_100 rfl rfl (Nat.le_refl _) (Nat.le_refl _) (by rw [zb_f (by rw [zahd, if_neg (fun q => q c1), if_neg (fun q => q c2), decide_eq_true_eq]; exact Int32.not_lt.mpr c3)] at hP; exact hP)
      · refine z_iconst (v := 1) dX6_isAhead_95 (by decide) ?_
        refine z_goto (tgt := 100) dX6_isAhead_96 (by decide) ?_
        exact z_ireturn (mi := mX6_isAhead) dX6_isAhead_100 rfl rfl (Nat.le_refl _) (Nat.le_refl _) (by rw [zb_t (by rw [zahd, if_neg (fun q => q c1), if_neg (fun q => q c2), decide_eq_true_eq]; exact Int32.not_le.mp c3)] at hP; exact hP)
    · refine z_iload dX6_isAhead_59 rfl ?_
      refine z_if_le (tgt := 68) dX6_isAhead_61 (by decide) (fun c4 => ?_) (fun c4 => ?_)
      · refine z_iconst (v := 0) dX6_isAhead_68 (by decide) ?_
        exact z_ireturn (mi := mX6_isAhead) dX6_isAhead_69 rfl rfl (Nat.le_refl _) (Nat.le_refl _) (by rw [zb_f (by rw [zahd, if_neg (fun q => q c1), if_pos c2, decide_eq_true_eq]; exact Int32.not_lt.mpr c4)] at hP; exact hP)
      · refine z_iconst (v := 1) dX6_isAhead_64 (by decide) ?_
        refine z_goto (tgt := 69) dX6_isAhead_65 (by decide) ?_
        exact z_ireturn (mi := mX6_isAhead) dX6_isAhead_69 rfl rfl (Nat.le_refl _) (Nat.le_refl _) (by rw [zb_t (by rw [zahd, if_neg (fun q => q c1), if_pos c2, decide_eq_true_eq]; exact Int32.not_le.mp c4)] at hP; exact hP)
  · refine z_iload dX6_isAhead_18 rfl ?_
    refine z_if_le (tgt := 27) dX6_isAhead_20 (by decide) (fun c5 => ?_) (fun c5 => ?_)
    · refine z_iconst (v := 0) dX6_isAhead_27 (by decide) ?_
      exact z_ireturn (mi := mX6_isAhead) dX6_isAhead_28 rfl rfl (Nat.le_refl _) (Nat.le_refl _) (by rw [zb_f (by rw [zahd, if_pos c1, decide_eq_true_eq]; exact Int32.not_lt.mpr c5)] at hP; exact hP)
    · refine z_iconst (v := 1) dX6_isAhead_23 (by decide) ?_
      refine z_goto (tgt := 28) dX6_isAhead_24 (by decide) ?_
      exact z_ireturn (mi := mX6_isAhead) dX6_isAhead_28 rfl rfl (Nat.le_refl _) (Nat.le_refl _) (by rw [zb_t (by rw [zahd, if_pos c1, decide_eq_true_eq]; exact Int32.not_le.mp c5)] at hP; exact hP)
set_option maxHeartbeats 4000000 in
set_option maxRecDepth 10000 in
theorem sX6_floodAtRank {Γ : zG} {d : Nat} {G : zH} {Post : zV} {ad : Nat → Nat} {σ : zSt} (hR : zRiv G ad σ) {S F E K : Nat} (hN : zN σ S F E K) {ca nc : Nat} {cr : Nat → Int32} (hC : G ca = some (.inl (.int, (nc, .inl cr)))) (hnc : F ≤ nc) (hnc2 : nc < 2147483648) {x : Int32} (hP : Post (some (.int (zfi (fun f => decide (nI (zct (fun o => zahd σ cr o f) F) = x)) F))) G) : zM Γ (d + 2) mX6_floodAtRank 0 0 [.ref (ad 0), .int x, .ref ca] G Post := by
  refine zM_of pnX6 rfl (Nat.le_of_ble_eq_true rfl) rfl ?_
  obtain ⟨hS, hS6, hF, hF12, hE, hE4, hK, hK3⟩ := id hN
  have key : ∀ (r : Nat) (i : Nat), i ≤ F → F < i + r → (∀ k, k < i → (fun f => decide (nI (zct (fun o => zahd σ cr o f) F) = x)) k = false) → zX Γ mX6_floodAtRank (d + 2) 0 0 2 [some (.ref (ad 0)), some (.int x), some (.ref ca), some (.int (nI i)), none, none] [] G 0 0 (zlift Post) := by
    intro r
    induction r with
    | zero =>
      intro i hi1 hi2 hno
      exact absurd hi2 (by omega)
    | succ r ih =>
      intro i hi1 hi2 hno
      refine z_iload_n dX6_floodAtRank_2 rfl ?_
      refine z_aload_n dX6_floodAtRank_3 rfl ?_
      refine z_get dX6_floodAtRank_4 fX6_23.r (hR.1 _ (by decide)) rfl ?_
      refine z_get dX6_floodAtRank_7 fX6_81.r (hR.1 _ (by decide)) rfl ?_
      refine z_icmp_ge (tgt := 72) dX6_floodAtRank_10 (by decide) (fun c1 => ?_) (fun c1 => ?_)
      · have hi9 := zgeN hF (by omega) (by omega) c1
        refine z_iconst (v := (-1)) dX6_floodAtRank_72 (by decide) ?_
        exact z_ireturn (mi := mX6_floodAtRank) dX6_floodAtRank_73 rfl rfl (Nat.le_refl _) (Nat.le_refl _) (by rw [zfi_no (fun k hk => hno k (by omega))] at hP; exact hP)
      · have hi9 := zltN hF (by omega) (by omega) c1
        refine z_iconst (v := 0) dX6_floodAtRank_13 (by decide) ?_
        refine z_istore dX6_floodAtRank_14 (by decide) rfl ?_
        refine z_iconst (v := 0) dX6_floodAtRank_16 (by decide) ?_
        refine z_istore dX6_floodAtRank_17 (by decide) rfl ?_
        have key2 : ∀ (r2 : Nat) (j : Nat), j ≤ F → F < j + r2 → zX Γ mX6_floodAtRank (d + 2) 0 0 19 [some (.ref (ad 0)), some (.int x), some (.ref ca), some (.int (nI i)), some (.int (nI (zct (fun o => zahd σ cr o i) j))), some (.int (nI j))] [] G 0 0 (zlift Post) := by
          intro r2
          induction r2 with
          | zero =>
            intro j hj1 hj2
            exact absurd hj2 (by omega)
          | succ r2 ih2 =>
            intro j hj1 hj2
            refine z_iload dX6_floodAtRank_19 rfl ?_
            refine z_aload_n dX6_floodAtRank_21 rfl ?_
            refine z_get dX6_floodAtRank_22 fX6_23.r (hR.1 _ (by decide)) rfl ?_
            refine z_get dX6_floodAtRank_25 fX6_81.r (hR.1 _ (by decide)) rfl ?_
            refine z_icmp_ge (tgt := 58) dX6_floodAtRank_28 (by decide) (fun c1 => ?_) (fun c1 => ?_)
            · have hj9 := zgeN hF (by omega) (by omega) c1
              refine z_iload dX6_floodAtRank_58 rfl ?_
              refine z_iload_n dX6_floodAtRank_60 rfl ?_
              refine z_icmp_ne (tgt := 66) dX6_floodAtRank_61 (by decide) (fun c2 => ?_) (fun c2 => ?_)
              · have c5 := c2
                refine z_iinc dX6_floodAtRank_66 rfl rfl (by decide) rfl ?_
                refine z_goto (tgt := 2) dX6_floodAtRank_69 (by decide) ?_
                exact z_sub (lv' := [some (.ref (ad 0)), some (.int x), some (.ref ca), some (.int (nI (i + 1))), none, none]) ⟨rfl, rfl, rfl, zsl (zinc i), trivial⟩ (ih (i + 1) (by omega) (by omega) (zff_f hno (by obtain rfl : j = F := (by omega); exact decide_eq_false c5)))
              · refine z_iload_n dX6_floodAtRank_64 rfl ?_
                exact z_ireturn (mi := mX6_floodAtRank) dX6_floodAtRank_65 rfl rfl (Nat.le_refl _) (Nat.le_refl _) (by rw [zfi_yes hno (by obtain rfl : j = F := (by omega); exact decide_eq_true c2) hi9] at hP; exact hP)
            · have hj9 := zltN hF (by omega) (by omega) c1
              refine z_iload dX6_floodAtRank_31 rfl ?_
              refine z_aload_n dX6_floodAtRank_33 rfl ?_
              refine z_iload dX6_floodAtRank_34 rfl ?_
              refine z_iload_n dX6_floodAtRank_36 rfl ?_
              refine z_aload_n dX6_floodAtRank_37 rfl ?_
              refine z_V3 (mi' := mX6_isAhead) dX6_floodAtRank_38 lX6_183 nX6_isAhead kX6_isAhead (by decide) (Nat.le_of_ble_eq_true rfl) (Nat.le_refl _) (Nat.le_refl _) (hR.1 _ (by decide)) rfl rfl ?_
              refine sX6_isAhead hR hN hC hnc hnc2 hj9 hi9 ?_
              refine z_if_eq (tgt := 48) dX6_floodAtRank_41 (by decide) (fun c3 => ?_) (fun c3 => ?_)
              · have e9 := zct_f (p := (fun o => zahd σ cr o i)) (n := j) (zbf (zb_0.mp c3))
                refine z_iconst (v := 0) dX6_floodAtRank_48 (by decide) ?_
                refine z_iadd dX6_floodAtRank_49 ?_
                refine z_istore dX6_floodAtRank_50 (by decide) rfl ?_
                refine z_iinc dX6_floodAtRank_52 rfl rfl (by decide) rfl ?_
                refine z_goto (tgt := 19) dX6_floodAtRank_55 (by decide) ?_
                exact z_sub (lv' := [some (.ref (ad 0)), some (.int x), some (.ref ca), some (.int (nI i)), some (.int (nI (zct (fun o => zahd σ cr o i) (j + 1)))), some (.int (nI (j + 1)))]) ⟨rfl, rfl, rfl, rfl, zsl (by rw [e9]; first | exact (nI_1 _) | exact (zadd0 _) | rfl), zsl (zinc j), trivial⟩ (ih2 (j + 1) (by omega) (by omega))
              · have e9 := zct_t (p := (fun o => zahd σ cr o i)) (n := j) (zb_n.mp c3)
                refine z_iconst (v := 1) dX6_floodAtRank_44 (by decide) ?_
                refine z_goto (tgt := 49) dX6_floodAtRank_45 (by decide) ?_
                refine z_iadd dX6_floodAtRank_49 ?_
                refine z_istore dX6_floodAtRank_50 (by decide) rfl ?_
                refine z_iinc dX6_floodAtRank_52 rfl rfl (by decide) rfl ?_
                refine z_goto (tgt := 19) dX6_floodAtRank_55 (by decide) ?_
                exact z_sub (lv' := [some (.ref (ad 0)), some (.int x), some (.ref ca), some (.int (nI i)), some (.int (nI (zct (fun o => zahd σ cr o i) (j + 1)))), some (.int (nI (j + 1)))]) ⟨rfl, rfl, rfl, rfl, zsl (by rw [e9]; first | exact (nI_1 _) | exact (zadd0 _) | rfl), zsl (zinc j), trivial⟩ (ih2 (j + 1) (by omega) (by omega))
        exact z_sub (lv' := [some (.ref (ad 0)), some (.int x), some (.ref ca), some (.int (nI i)), some (.int (nI (zct (fun o => zahd σ cr o i) 0))), some (.int (nI 0))]) ⟨rfl, rfl, rfl, rfl, rfl, rfl, trivial⟩ (key2 (F + 1) 0 (by omega) (by omega))
  refine z_iconst (v := 0) dX6_floodAtRank_0 (by decide) ?_
  refine z_istore_n dX6_floodAtRank_1 (by decide) rfl ?_
  exact z_sub (lv' := [some (.ref (ad 0)), some (.int x), some (.ref ca), some (.int (nI 0)), none, none]) ⟨rfl, rfl, rfl, rfl, trivial⟩ (key (F + 1) 0 (by omega) (by omega) (fun k hk => absurd hk (by omega)))
set_option maxHeartbeats 4000000 in
set_option maxRecDepth 10000 in
theorem sX6_crestsTold {Γ : zG} {d : Nat} {G : zH} {Post : zV} {ad : Nat → Nat} {σ : zSt} (hR : zRiv G ad σ) {S F E K : Nat} (hN : zN σ S F E K) {f : Nat} (hf : f < 12) (hP : Post (some (.int (ztold σ E f S))) G) : zM Γ (d + 3) mX6_crestsTold 0 0 [.ref (ad 0), .int (nI f)] G Post := by
  refine zM_of pnX6 rfl (Nat.le_of_ble_eq_true rfl) rfl ?_
  obtain ⟨hS, hS6, hF, hF12, hE, hE4, hK, hK3⟩ := id hN
  have key : ∀ (r : Nat) (i : Nat), i ≤ S → S < i + r → zX Γ mX6_crestsTold (d + 3) 0 0 4 [some (.ref (ad 0)), some (.int (nI f)), some (.int (ztold σ E f i)), some (.int (nI i))] [] G 0 0 (zlift Post) := by
    intro r
    induction r with
    | zero =>
      intro i hi1 hi2
      exact absurd hi2 (by omega)
    | succ r ih =>
      intro i hi1 hi2
      refine z_iload_n dX6_crestsTold_4 rfl ?_
      refine z_aload_n dX6_crestsTold_5 rfl ?_
      refine z_get dX6_crestsTold_6 fX6_16.r (hR.1 _ (by decide)) rfl ?_
      refine z_get dX6_crestsTold_9 fX6_74.r (hR.1 _ (by decide)) rfl ?_
      refine z_icmp_ge (tgt := 51) dX6_crestsTold_12 (by decide) (fun c1 => ?_) (fun c1 => ?_)
      · have hi9 := zgeN hS (by omega) (by omega) c1
        refine z_iload_n dX6_crestsTold_51 rfl ?_
        exact z_ireturn (mi := mX6_crestsTold) dX6_crestsTold_52 rfl rfl (Nat.le_refl _) (Nat.le_refl _) (by rw [show i = S by omega]; exact hP)
      · have hi9 := zltN hS (by omega) (by omega) c1
        refine z_aload_n dX6_crestsTold_15 rfl ?_
        refine z_get dX6_crestsTold_16 fX6_44.r (hR.1 _ (by decide)) rfl ?_
        refine z_iload_n dX6_crestsTold_19 rfl ?_
        refine z_iload_n dX6_crestsTold_20 rfl ?_
        refine z_V2 (mi' := mX4_has) dX6_crestsTold_21 lX6_93 nX4_has kX4_has (by decide) (Nat.le_of_ble_eq_true rfl) (Nat.le_refl _) (Nat.le_refl _) (hR.1 _ (by decide)) rfl rfl ?_
        refine sX4_has hR (show i < 6 by omega) hf ?_
        refine z_if_eq (tgt := 45) dX6_crestsTold_24 (by decide) (fun c2 => ?_) (fun c2 => ?_)
        · have e9 : ztold σ E f (i + 1) = ztold σ E f i := by rw [ztold, if_neg (zb_0.mp c2)]
          refine z_iinc dX6_crestsTold_45 rfl rfl (by decide) rfl ?_
          refine z_goto (tgt := 4) dX6_crestsTold_48 (by decide) ?_
          exact z_sub (lv' := [some (.ref (ad 0)), some (.int (nI f)), some (.int (ztold σ E f (i + 1))), some (.int (nI (i + 1)))]) ⟨rfl, rfl, zsl (by (rw [e9]) <;> rfl), zsl (zinc i), trivial⟩ (ih (i + 1) (by omega) (by omega))
        · have e9 : ztold σ E f (i + 1) = ztold σ E f i + (ztrue σ E i f + (σ 0 i / 5 + σ 1 i)) := by rw [ztold, if_pos (zb_n.mp c2)]
          refine z_iload_n dX6_crestsTold_27 rfl ?_
          refine z_aload_n dX6_crestsTold_28 rfl ?_
          refine z_iload_n dX6_crestsTold_29 rfl ?_
          refine z_iload_n dX6_crestsTold_30 rfl ?_
          refine z_V2 (mi' := mX6_trueHeight) dX6_crestsTold_31 lX6_166 nX6_trueHeight kX6_trueHeight (by decide) (Nat.le_of_ble_eq_true rfl) (Nat.le_refl _) (Nat.le_refl _) (hR.1 _ (by decide)) rfl rfl ?_
          refine sX6_trueHeight hR hN (show i < 6 by omega) hf ?_
          refine z_aload_n dX6_crestsTold_34 rfl ?_
          refine z_get dX6_crestsTold_35 fX6_16.r (hR.1 _ (by decide)) rfl ?_
          refine z_iload_n dX6_crestsTold_38 rfl ?_
          refine z_V1 (mi' := mX8_loss) dX6_crestsTold_39 lX6_157 nX8_loss kX8_loss (by decide) (Nat.le_of_ble_eq_true rfl) (Nat.le_refl _) (Nat.le_refl _) (hR.1 _ (by decide)) rfl rfl ?_
          refine sX8_loss hR (show i < 6 by omega) ?_
          refine z_iadd dX6_crestsTold_42 ?_
          refine z_iadd dX6_crestsTold_43 ?_
          refine z_istore_n dX6_crestsTold_44 (by decide) rfl ?_
          refine z_iinc dX6_crestsTold_45 rfl rfl (by decide) rfl ?_
          refine z_goto (tgt := 4) dX6_crestsTold_48 (by decide) ?_
          exact z_sub (lv' := [some (.ref (ad 0)), some (.int (nI f)), some (.int (ztold σ E f (i + 1))), some (.int (nI (i + 1)))]) ⟨rfl, rfl, zsl (by (rw [e9]) <;> rfl), zsl (zinc i), trivial⟩ (ih (i + 1) (by omega) (by omega))
  refine z_iconst (v := 0) dX6_crestsTold_0 (by decide) ?_
  refine z_istore_n dX6_crestsTold_1 (by decide) rfl ?_
  refine z_iconst (v := 0) dX6_crestsTold_2 (by decide) ?_
  refine z_istore_n dX6_crestsTold_3 (by decide) rfl ?_
  exact z_sub (lv' := [some (.ref (ad 0)), some (.int (nI f)), some (.int (ztold σ E f 0)), some (.int (nI 0))]) ⟨rfl, rfl, rfl, rfl, trivial⟩ (key (S + 1) 0 (by omega) (by omega))
/-- the error after some years -/
def zerrA (y e : Int32) : Nat → Int32
  | 0 => e
  | n + 1 => if (y + nI (n + 1)) - (y + nI (n + 1)) / 3 * 3 = 0 then zdrift (zerrA y e n) else zerrA y e n
set_option maxHeartbeats 4000000 in
set_option maxRecDepth 10000 in
theorem sX6_errorAfter {Γ : zG} {d : Nat} {G : zH} {Post : zV} {ad : Nat → Nat} {σ : zSt} (hR : zRiv G ad σ) {s m : Nat} (hs : s < 6) (hm : m < 2147483000) (hP : Post (some (.int (zerrA (σ 13 0) (σ 3 s) m))) G) : zM Γ (d + 1) mX6_errorAfter 0 0 [.ref (ad 0), .int (nI s), .int (nI m)] G Post := by
  refine zM_of pnX6 rfl (Nat.le_of_ble_eq_true rfl) rfl ?_
  have key : ∀ (r : Nat) (i : Nat), i ≤ m → m < i + r → zX Γ mX6_errorAfter (d + 1) 0 0 15 [some (.ref (ad 0)), some (.int (nI s)), some (.int (nI m)), some (.int (zerrA (σ 13 0) (σ 3 s) i)), some (.int (nI (i + 1)))] [] G 0 0 (zlift Post) := by
    intro r
    induction r with
    | zero =>
      intro i hi1 hi2
      exact absurd hi2 (by omega)
    | succ r ih =>
      intro i hi1 hi2
      refine z_iload dX6_errorAfter_15 rfl ?_
      refine z_iload_n dX6_errorAfter_17 rfl ?_
      refine z_icmp_gt (tgt := 44) dX6_errorAfter_18 (by decide) (fun c1 => ?_) (fun c1 => ?_)
      · have hi9 := (nI_ltI (by omega) (by omega)).mp c1
        refine z_iload_n dX6_errorAfter_44 rfl ?_
        exact z_ireturn (mi := mX6_errorAfter) dX6_errorAfter_45 rfl rfl (Nat.le_refl _) (Nat.le_refl _) (by rw [show i = m by omega]; exact hP)
      · have hi9 := Nat.le_of_not_lt (fun q => c1 ((nI_ltI (by omega) (by omega)).mpr q))
        refine z_aload_n dX6_errorAfter_21 rfl ?_
        refine z_get dX6_errorAfter_22 fX6_9.r (hR.1 _ (by decide)) rfl ?_
        refine z_iload dX6_errorAfter_25 rfl ?_
        refine z_iadd dX6_errorAfter_27 ?_
        refine z_iconst (v := 3) dX6_errorAfter_28 (by decide) ?_
        refine z_irem dX6_errorAfter_29 (by decide) ?_
        refine z_if_ne (tgt := 38) dX6_errorAfter_30 (by decide) (fun c2 => ?_) (fun c2 => ?_)
        · have e9 : zerrA (σ 13 0) (σ 3 s) (i + 1) = zerrA (σ 13 0) (σ 3 s) i := by rw [zerrA, if_neg c2]
          refine z_iinc dX6_errorAfter_38 rfl rfl (by decide) rfl ?_
          refine z_goto (tgt := 15) dX6_errorAfter_41 (by decide) ?_
          exact z_sub (lv' := [some (.ref (ad 0)), some (.int (nI s)), some (.int (nI m)), some (.int (zerrA (σ 13 0) (σ 3 s) (i + 1))), some (.int (nI ((i + 1) + 1)))]) ⟨rfl, rfl, rfl, zsl (by (rw [e9]) <;> rfl), zsl (zinc (i + 1)), trivial⟩ (ih (i + 1) (by omega) (by omega))
        · have e9 : zerrA (σ 13 0) (σ 3 s) (i + 1) = zdrift (zerrA (σ 13 0) (σ 3 s) i) := by rw [zerrA, if_pos c2]
          refine z_iload_n dX6_errorAfter_33 rfl ?_
          refine z_S1 (mi' := mX8_drift) dX6_errorAfter_34 lX6_148 nX8_drift kX8_drift (by decide) (Nat.le_of_ble_eq_true rfl) (Nat.le_refl _) (Nat.le_refl _) ?_
          refine sX8_drift ?_
          refine z_istore_n dX6_errorAfter_37 (by decide) rfl ?_
          refine z_iinc dX6_errorAfter_38 rfl rfl (by decide) rfl ?_
          refine z_goto (tgt := 15) dX6_errorAfter_41 (by decide) ?_
          exact z_sub (lv' := [some (.ref (ad 0)), some (.int (nI s)), some (.int (nI m)), some (.int (zerrA (σ 13 0) (σ 3 s) (i + 1))), some (.int (nI ((i + 1) + 1)))]) ⟨rfl, rfl, rfl, zsl (by (rw [e9]) <;> rfl), zsl (zinc (i + 1)), trivial⟩ (ih (i + 1) (by omega) (by omega))
  refine z_aload_n dX6_errorAfter_0 rfl ?_
  refine z_get dX6_errorAfter_1 fX6_16.r (hR.1 _ (by decide)) rfl ?_
  refine z_get dX6_errorAfter_4 fX6_145 (hR.1 _ (by decide)) rfl ?_
  refine z_iload_n dX6_errorAfter_7 rfl ?_
  refine z_S2 (mi' := mX7_at) dX6_errorAfter_8 lX6_109 nX7_at kX7_at (by decide) (Nat.le_of_ble_eq_true rfl) (Nat.le_refl _) (Nat.le_refl _) ?_
  refine sX7_at (hR.1 _ (by decide)) (by decide) hs ?_
  refine z_istore_n dX6_errorAfter_11 (by decide) rfl ?_
  refine z_iconst (v := 1) dX6_errorAfter_12 (by decide) ?_
  refine z_istore dX6_errorAfter_13 (by decide) rfl ?_
  exact z_sub (lv' := [some (.ref (ad 0)), some (.int (nI s)), some (.int (nI m)), some (.int (zerrA (σ 13 0) (σ 3 s) 0)), some (.int (nI (0 + 1)))]) ⟨rfl, rfl, rfl, rfl, rfl, trivial⟩ (key (m + 1) 0 (by omega) (by omega))
set_option maxHeartbeats 4000000 in
set_option maxRecDepth 10000 in
theorem sX6_yearsLeft {Γ : zG} {d : Nat} {G : zH} {Post : zV} {ad : Nat → Nat} {σ : zSt} (hR : zRiv G ad σ) {s f : Nat} (hs : s < 6) (hf : f < 12) (hP : Post (some (.int ((σ 13 0 / 5 + σ 11 (12 * s + f)) * 5 - σ 13 0))) G) : zM Γ (d + 2) mX6_yearsLeft 0 0 [.ref (ad 0), .int (nI s), .int (nI f)] G Post := by
  refine zM_of pnX6 rfl (Nat.le_of_ble_eq_true rfl) rfl ?_
  refine z_aload_n dX6_yearsLeft_0 rfl ?_
  refine z_get dX6_yearsLeft_1 fX6_9.r (hR.1 _ (by decide)) rfl ?_
  refine z_iconst (v := 5) dX6_yearsLeft_4 (by decide) ?_
  refine z_idiv dX6_yearsLeft_5 (by decide) ?_
  refine z_aload_n dX6_yearsLeft_6 rfl ?_
  refine z_get dX6_yearsLeft_7 fX6_44.r (hR.1 _ (by decide)) rfl ?_
  refine z_iload_n dX6_yearsLeft_10 rfl ?_
  refine z_iload_n dX6_yearsLeft_11 rfl ?_
  refine z_V2 (mi' := mX4_depthAt) dX6_yearsLeft_12 lX6_151 nX4_depthAt kX4_depthAt (by decide) (Nat.le_of_ble_eq_true rfl) (Nat.le_refl _) (Nat.le_refl _) (hR.1 _ (by decide)) rfl rfl ?_
  refine sX4_depthAt hR hs hf ?_
  refine z_iadd dX6_yearsLeft_15 ?_
  refine z_iconst (v := 5) dX6_yearsLeft_16 (by decide) ?_
  refine z_imul dX6_yearsLeft_17 ?_
  refine z_istore_n dX6_yearsLeft_18 (by decide) rfl ?_
  refine z_iload_n dX6_yearsLeft_19 rfl ?_
  refine z_aload_n dX6_yearsLeft_20 rfl ?_
  refine z_get dX6_yearsLeft_21 fX6_9.r (hR.1 _ (by decide)) rfl ?_
  refine z_isub dX6_yearsLeft_24 ?_
  exact z_ireturn (mi := mX6_yearsLeft) dX6_yearsLeft_25 rfl rfl (Nat.le_refl _) (Nat.le_refl _) (hP)
