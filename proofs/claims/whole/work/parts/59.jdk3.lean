/-! ===== the builder ===== -/
def zBu (G : zH) (b q m : Nat) (f : Nat → Int32) (ml : Int32) (ct : Nat) : Prop := G b = some (.inr (7, [.ref q, .int 0, .int ml, .int (nI ct)])) ∧ G q = some (.inl (.byte, (m, .inl f))) ∧ b ≠ q ∧ m ≤ 200 ∧ (∀ i, i < m → fits .byte (.int (f i)) = true) ∧ ct ≤ m
def zFB (G G1 : zH) (b q : Nat) : Prop := ∀ a, a ≠ b → a ≠ q → G a ≠ none → G1 a = G a
def zQn (G : zH) (q q1 : Nat) : Prop := q1 = q ∨ G q1 = none
theorem zFB.rf {G : zH} {b q : Nat} : zFB G G b q := fun _ _ _ _ => rfl
theorem zQn.rf {G : zH} {q : Nat} : zQn G q q := Or.inl rfl
theorem zFB.tr {G G1 G2 : zH} {b q q1 : Nat} (h1 : zFB G G1 b q) (hq : zQn G q q1) (h2 : zFB G1 G2 b q1) : zFB G G2 b q := fun a h3 h4 h5 => by
  have e := h1 a h3 h4 h5
  have hne : a ≠ q1 := fun z => by
    rcases hq with h | h
    · exact h4 (z.trans h)
    · rw [z] at h5; exact h5 h
  exact (h2 a h3 hne (by rw [e]; exact h5)).trans e
theorem zQn.tr {G G1 : zH} {b q q1 q2 : Nat} (hb : G1 b ≠ none) (h1 : zFB G G1 b q) (hq : zQn G q q1) (h2 : zQn G1 q1 q2) : zQn G q q2 := by
  rcases h2 with h2 | h2
  · rw [h2]; exact hq
  · by_cases e1 : q2 = q
    · exact Or.inl e1
    · refine Or.inr ?_
      cases hz : G q2 with
      | none => rfl
      | some e =>
        have hb2 : q2 ≠ b := fun z => hb (by rw [← z]; exact h2)
        have := h1 q2 hb2 e1 (by rw [hz]; exact Option.some_ne_none e)
        rw [h2, hz] at this
        cases this
theorem zBu.b {G : zH} {b q m ct : Nat} {f : Nat → Int32} {ml : Int32} (h : zBu G b q m f ml ct) : G b ≠ none := by rw [h.1]; exact Option.some_ne_none _
theorem zBu.set {G : zH} {b q m ct : Nat} {f : Nat → Int32} {ml ml' : Int32} {ct' : Nat} (h : zBu G b q m f ml ct) (hc : ct' ≤ m) : zBu (zset G b (.inr (7, [.ref q, .int 0, .int ml', .int (nI ct')]))) b q m f ml' ct' := ⟨zset_s _ _ _, by rw [zset_n (Ne.symm h.2.2.1)]; exact h.2.1, h.2.2.1, h.2.2.2.1, h.2.2.2.2.1, hc⟩
theorem zBu.st {G : zH} {b q m ct j : Nat} {f : Nat → Int32} {ml x : Int32} (h : zBu G b q m f ml ct) (hx : fits .byte (.int x) = true) : zBu (zset G q (.inl (.byte, (m, .inl (upd f j x))))) b q m (upd f j x) ml ct := ⟨by rw [zset_n h.2.2.1]; exact h.1, (zset_s _ _ _), h.2.2.1, h.2.2.2.1, fun i hi => by
  unfold upd
  split
  · exact hx
  · exact h.2.2.2.2.1 i hi, h.2.2.2.2.2⟩
section ZJ3
variable {Γ : zG} {mi : zMI} {d mc ms pc k n : Nat} {lv : List (Option Value)} {st : List Value} {G : zH} {Post : zP} {b q m ct : Nat} {f : Nat → Int32} {ml : Int32}
theorem z_bset (hB : zBu G b q m f ml ct) {ml' : Int32} {ct' : Nat} (hc : ct' ≤ m) {e : zE} (he : e = .inr (7, [.ref q, .int 0, .int ml', .int (nI ct')])) (kk : ∀ G1, zBu G1 b q m f ml' ct' → zFB G G1 b q → zX Γ mi d mc ms pc lv st G1 k n Post) : zX Γ mi d mc ms pc lv st (zset G b e) k n Post := by
  rw [he]
  exact kk _ (hB.set hc) (fun a h1 _ _ => zset_n h1)
theorem z_bst (hB : zBu G b q m f ml ct) {j : Nat} {x : Int32} (hx : fits .byte (.int x) = true) {e : zE} (he : e = .inl (.byte, (m, .inl (upd f j x)))) (kk : ∀ G1, zBu G1 b q m (upd f j x) ml ct → zFB G G1 b q → zX Γ mi d mc ms pc lv st G1 k n Post) : zX Γ mi d mc ms pc lv st (zset G q e) k n Post := by
  rw [he]
  exact kk _ (hB.st hx) (fun a _ h2 _ => zset_n h2)
end ZJ3
theorem zshr0 : ∀ x, x < 256 → nI x >>> ((0 : Int32) &&& 31) = nI x := fun x _ => by rw [show ((0 : Int32) &&& 31) = 0 from by decide]; simp
theorem zshl0 : ∀ x, x < 256 → nI x <<< ((0 : Int32) &&& 31) = nI x := fun x _ => by rw [show ((0 : Int32) &&& 31) = 0 from by decide]; simp
theorem zi2bc : ∀ c, c < 128 → (nI c).toInt8.toInt32 = nI c := by decide
theorem znarB : ∀ c, c < 128 → vp_nar .byte (nI c) = nI c ∧ fits .byte (.int (nI c)) = true := by decide
theorem z255 : ∀ c, c < 128 → ((nI c &&& 255).toUInt32 % 65536).toInt32 = nI c := by decide
theorem znImax {a b : Nat} (ha : a < 2147483648) (hb : b < 2147483648) : (if nI a < nI b then nI b else nI a) = nI (max a b) := by
  by_cases h : a < b
  · rw [if_pos ((nI_ltI ha hb).mpr h), Nat.max_eq_right (by omega)]
  · rw [if_neg (fun z => h ((nI_ltI ha hb).mp z)), Nat.max_eq_left (by omega)]
theorem znImin {a b : Nat} (ha : a < 2147483648) (hb : b < 2147483648) : (if nI b < nI a then nI b else nI a) = nI (min a b) := by
  by_cases h : b < a
  · rw [if_pos ((nI_ltI hb ha).mpr h), Nat.min_eq_right (by omega)]
  · rw [if_neg (fun z => h ((nI_ltI hb ha).mp z)), Nat.min_eq_left (by omega)]
def zcap (m mn : Nat) : Nat := m + max (mn - m) (m + 2)
set_option maxHeartbeats 4000000 in
set_option maxRecDepth 10000 in
theorem sJ8_newLength_cabcc {Γ : zG} {d : Nat} {G : zH} {Post : zV} {x y z : Nat} (hx0 : 1 ≤ y) (hx : x < 1000) (hy : y < 1000) (hz : z < 1000) (hP : Post (some (.int (nI (x + max y z)))) G) : zM Γ d mJ8_newLength_cabcc 0 0 [.int (nI x), .int (nI y), .int (nI z)] G Post := by
  refine zM_of pnJ8 rfl (Nat.le_of_ble_eq_true rfl) rfl ?_
  refine z_iload_n dJ8_newLength_cabcc_0 rfl ?_
  refine z_iload_n dJ8_newLength_cabcc_1 rfl ?_
  refine z_iload_n dJ8_newLength_cabcc_2 rfl ?_
  refine z_mmax dJ8_newLength_cabcc_3 lkJ8_194 (Nat.le_of_ble_eq_true rfl) (Nat.le_refl _) (Nat.le_refl _) ?_
  rw [znImax (by omega) (by omega)]
  refine z_iadd dJ8_newLength_cabcc_6 ?_
  rw [nI_add]
  refine z_istore_n dJ8_newLength_cabcc_7 (by decide) rfl ?_
  refine z_iconst (v := 0) dJ8_newLength_cabcc_8 (by decide) ?_
  refine z_iload_n dJ8_newLength_cabcc_9 rfl ?_
  refine z_icmp_ge (tgt := 21) dJ8_newLength_cabcc_10 (by decide) (fun c1 => ?_) (fun c1 => ?_)
  · exact absurd ((nI_leI (show x + max y z < 2147483648 by omega) (by decide)).mp (show nI (x + max y z) ≤ nI 0 from c1)) (by omega)
  · refine z_iload_n dJ8_newLength_cabcc_13 rfl ?_
    refine z_ldc dJ8_newLength_cabcc_14 qJ8_200 ?_
    refine z_icmp_gt (tgt := 21) dJ8_newLength_cabcc_16 (by decide) (fun c2 => ?_) (fun c2 => ?_)
    · exact absurd ((nI_ltI (by decide) (by omega)).mp (show nI 2147483639 < nI (x + max y z) from c2)) (by omega)
    · refine z_iload_n dJ8_newLength_cabcc_19 rfl ?_
      exact z_ireturn (mi := mJ8_newLength_cabcc) dJ8_newLength_cabcc_20 rfl rfl (Nat.le_refl _) (Nat.le_refl _) (hP)
set_option maxHeartbeats 4000000 in
set_option maxRecDepth 10000 in
theorem sJ5_newCapacity_0f7a4 {Γ : zG} {d : Nat} {G : zH} {Post : zV} {b q m ct : Nat} {f : Nat → Int32} {ml : Int32} (hB : zBu G b q m f ml ct) {mn : Nat} (h1 : m < mn) (h9 : mn ≤ 90) (hP : Post (some (.int (nI (zcap m mn)))) G) : zM Γ (d + 1) mJ5_newCapacity_0f7a4 0 0 [.ref b, .int (nI mn)] G Post := by
  refine zM_of pnJ5 rfl (Nat.le_of_ble_eq_true rfl) rfl ?_
  have hcap : zcap m mn < 256 := by unfold zcap; omega
  refine z_aload_n dJ5_newCapacity_0f7a4_0 rfl ?_
  refine z_get dJ5_newCapacity_0f7a4_1 fJ5_15.r (hB.1) rfl ?_
  refine z_alen (v := nI m) dJ5_newCapacity_0f7a4_4 hB.2.1 rfl ?_
  refine z_istore_n dJ5_newCapacity_0f7a4_5 (by decide) rfl ?_
  refine z_iload_n dJ5_newCapacity_0f7a4_6 rfl ?_
  refine z_aload_n dJ5_newCapacity_0f7a4_7 rfl ?_
  refine z_get dJ5_newCapacity_0f7a4_8 fJ5_22.r (hB.1) rfl ?_
  refine z_ishl dJ5_newCapacity_0f7a4_11 ?_
  rw [zshl0 mn (by omega)]
  refine z_istore_n dJ5_newCapacity_0f7a4_12 (by decide) rfl ?_
  refine z_iload_n dJ5_newCapacity_0f7a4_13 rfl ?_
  refine z_iload_n dJ5_newCapacity_0f7a4_14 rfl ?_
  refine z_isub dJ5_newCapacity_0f7a4_15 ?_
  rw [pk_sub (show m ≤ mn by omega)]
  refine z_istore dJ5_newCapacity_0f7a4_16 (by decide) rfl ?_
  refine z_iload_n dJ5_newCapacity_0f7a4_18 rfl ?_
  refine z_iload dJ5_newCapacity_0f7a4_19 rfl ?_
  refine z_iload_n dJ5_newCapacity_0f7a4_21 rfl ?_
  refine z_iconst (v := 2) dJ5_newCapacity_0f7a4_22 (by decide) ?_
  refine z_aload_n dJ5_newCapacity_0f7a4_23 rfl ?_
  refine z_get dJ5_newCapacity_0f7a4_24 fJ5_22.r (hB.1) rfl ?_
  refine z_ishl dJ5_newCapacity_0f7a4_27 ?_
  rw [show (2 : Int32) <<< ((0 : Int32) &&& 31) = nI 2 from rfl]
  refine z_iadd dJ5_newCapacity_0f7a4_28 ?_
  refine z_S3 (mi' := mJ8_newLength_cabcc) dJ5_newCapacity_0f7a4_29 lJ5_114 nJ8_newLength_cabcc kJ8_newLength_cabcc (by decide) (Nat.le_of_ble_eq_true rfl) (Nat.le_refl _) (Nat.le_refl _) ?_
  rw [nI_add]
  refine sJ8_newLength_cabcc (show 1 ≤ mn - m by omega) (by omega) (by omega) (by omega) ?_
  rw [show m + max (mn - m) (m + 2) = zcap m mn from rfl]
  refine z_istore dJ5_newCapacity_0f7a4_32 (by decide) rfl ?_
  refine z_iload dJ5_newCapacity_0f7a4_34 rfl ?_
  refine z_ldc dJ5_newCapacity_0f7a4_36 qJ5_39 ?_
  refine z_icmp_ne (tgt := 51) dJ5_newCapacity_0f7a4_38 (by decide) (fun c1 => ?_) (fun c1 => ?_)
  · refine z_iload dJ5_newCapacity_0f7a4_51 rfl ?_
    refine z_aload_n dJ5_newCapacity_0f7a4_53 rfl ?_
    refine z_get dJ5_newCapacity_0f7a4_54 fJ5_22.r (hB.1) rfl ?_
    refine z_ishr dJ5_newCapacity_0f7a4_57 ?_
    rw [zshr0 _ hcap]
    exact z_ireturn (mi := mJ5_newCapacity_0f7a4) dJ5_newCapacity_0f7a4_58 rfl rfl (Nat.le_refl _) (Nat.le_refl _) (hP)
  · exact absurd (znI_inj (by omega) (by decide) (show nI (zcap m mn) = nI 2147483647 from c1)) (by omega)
set_option maxHeartbeats 4000000 in
set_option maxRecDepth 10000 in
theorem sJ7_copyOf_9075b {Γ : zG} {d : Nat} {G : zH} {Post : zV} {q m N : Nat} {f : Nat → Int32} (hA : G q = some (.inl (.byte, (m, .inl f)))) (hf : ∀ i, i < m → fits .byte (.int (f i)) = true) (h1 : m < N) (h2 : N ≤ 1000) (hP : ∀ G1 q1 f1, G q1 = none → G1 q1 = some (.inl (.byte, (N, .inl f1))) → (∀ i, i < m → f1 i = f i) → (∀ i, i < N → fits .byte (.int (f1 i)) = true) → (∀ a, a ≠ q1 → G1 a = G a) → Post (some (.ref q1)) G1) : zM Γ d mJ7_copyOf_9075b 1 N [.ref q, .int (nI N)] G Post := by
  refine zM_of pnJ7 rfl (Nat.le_of_ble_eq_true rfl) rfl ?_
  refine z_iload_n dJ7_copyOf_9075b_0 rfl ?_
  refine z_aload_n dJ7_copyOf_9075b_1 rfl ?_
  refine z_alen (v := nI m) dJ7_copyOf_9075b_2 hA rfl ?_
  refine z_icmp_ne (tgt := 14) dJ7_copyOf_9075b_3 (by decide) (fun c1 => ?_) (fun c1 => ?_)
  · refine z_iload_n dJ7_copyOf_9075b_14 rfl ?_
    refine z_newa_b (N := N) dJ7_copyOf_9075b_15 (nI_pos (by omega)) (nI_clamp (by omega)) (by omega) (by omega) (by omega) (fun q1 hq1 => ?_)
    have hne : q ≠ q1 := fun z => by rw [z, hq1] at hA; cases hA
    refine z_astore_n dJ7_copyOf_9075b_17 (by decide) rfl ?_
    refine z_aload_n dJ7_copyOf_9075b_18 rfl ?_
    refine z_iconst (v := 0) dJ7_copyOf_9075b_19 (by decide) ?_
    refine z_aload_n dJ7_copyOf_9075b_20 rfl ?_
    refine z_iconst (v := 0) dJ7_copyOf_9075b_21 (by decide) ?_
    refine z_aload_n dJ7_copyOf_9075b_22 rfl ?_
    refine z_alen (v := nI m) dJ7_copyOf_9075b_23 ((zset_n hne).trans hA) rfl ?_
    refine z_iload_n dJ7_copyOf_9075b_24 rfl ?_
    refine z_mmin dJ7_copyOf_9075b_25 lkJ7_304 (Nat.le_of_ble_eq_true rfl) (by omega) (by omega) ?_
    rw [znImin (by omega) (by omega), Nat.min_eq_left (by omega)]
    refine z_copyB dJ7_copyOf_9075b_28 laJ7_150 ((zset_n hne).trans hA) (zset_s _ _ _) (nI_pos (by omega)) (by rw [nI_clamp (by omega)]; omega) (by rw [nI_clamp (by omega)]; omega) hf (Nat.le_of_ble_eq_true rfl) ?_
    rw [nI_clamp (show m < 2147483648 by omega)]
    refine z_aload_n dJ7_copyOf_9075b_31 rfl ?_
    exact z_areturn (mi := mJ7_copyOf_9075b) dJ7_copyOf_9075b_32 rfl (Or.inr ⟨_, rfl⟩) (Or.inr ⟨_, rfl⟩) (by omega) (by omega) (hP _ q1 _ hq1 (zset_s _ _ _) (fun i hi => by rw [va_cpy, if_pos (by omega), show 0 + (i - 0) = i by omega]) (fun i hi => by unfold va_cpy; split; exact hf _ (by omega); rfl) (fun a ha => (zset_n ha).trans (zset_n ha)))
  · exact absurd (znI_inj (by omega) (by omega) c1) (by omega)
set_option maxHeartbeats 4000000 in
set_option maxRecDepth 10000 in
theorem sJ5_ensureCapacityInternal_d00df {Γ : zG} {d : Nat} {G : zH} {Post : zV} {b q m ct : Nat} {f : Nat → Int32} {ml : Int32} (hB : zBu G b q m f ml ct) {mn : Nat} (h9 : mn ≤ 90) (hP : ∀ G1 q1 m1 f1, zBu G1 b q1 m1 f1 ml (ct) → mn ≤ m1 → (∀ i, i < m → f1 i = f i) → m ≤ m1 → zQn G q q1 → zFB G G1 b q → Post (none) G1) : zM Γ (d + 2) mJ5_ensureCapacityInternal_d00df 1 200 [.ref b, .int (nI mn)] G Post := by
  refine zM_of pnJ5 rfl (Nat.le_of_ble_eq_true rfl) rfl ?_
  have hm := hB.2.2.2.1
  have hct := hB.2.2.2.2.2
  refine z_aload_n dJ5_ensureCapacityInternal_d00df_0 rfl ?_
  refine z_get dJ5_ensureCapacityInternal_d00df_1 fJ5_15.r (hB.1) rfl ?_
  refine z_alen (v := nI m) dJ5_ensureCapacityInternal_d00df_4 hB.2.1 rfl ?_
  refine z_aload_n dJ5_ensureCapacityInternal_d00df_5 rfl ?_
  refine z_get dJ5_ensureCapacityInternal_d00df_6 fJ5_22.r (hB.1) rfl ?_
  refine z_ishr dJ5_ensureCapacityInternal_d00df_9 ?_
  rw [zshr0 m (by omega)]
  refine z_istore_n dJ5_ensureCapacityInternal_d00df_10 (by decide) rfl ?_
  refine z_iload_n dJ5_ensureCapacityInternal_d00df_11 rfl ?_
  refine z_iload_n dJ5_ensureCapacityInternal_d00df_12 rfl ?_
  refine z_isub dJ5_ensureCapacityInternal_d00df_13 ?_
  refine z_if_le (tgt := 38) dJ5_ensureCapacityInternal_d00df_14 (by decide) (fun c1 => ?_) (fun c1 => ?_)
  · have hge : mn ≤ m := Nat.le_of_not_lt fun z => by
      rw [pk_sub (show m ≤ mn by omega)] at c1
      have := (nI_leI (by omega) (by decide)).mp (show nI (mn - m) ≤ nI 0 from c1)
      omega
    exact z_vreturn (mi := mJ5_ensureCapacityInternal_d00df) dJ5_ensureCapacityInternal_d00df_38 rfl (by omega) (by omega) (hP G q m f hB hge (fun _ _ => rfl) (Nat.le_refl m) zQn.rf zFB.rf)
  · have hlt : m < mn := Nat.lt_of_not_le fun z => c1 (by
      have e1 := nI_toInt (show m < 2147483648 by omega)
      have e2 := nI_toInt (show mn < 2147483648 by omega)
      refine Int32.le_iff_toInt_le.mpr ?_
      rw [zsubI (by omega), z0I]
      omega)
    have hcap : zcap m mn < 256 := by unfold zcap; omega
    have hcap2 : zcap m mn ≤ 200 := by unfold zcap; omega
    have hcap3 : mn ≤ zcap m mn ∧ m ≤ zcap m mn := by unfold zcap; omega
    refine z_aload_n dJ5_ensureCapacityInternal_d00df_17 rfl ?_
    refine z_aload_n dJ5_ensureCapacityInternal_d00df_18 rfl ?_
    refine z_get dJ5_ensureCapacityInternal_d00df_19 fJ5_15.r (hB.1) rfl ?_
    refine z_aload_n dJ5_ensureCapacityInternal_d00df_22 rfl ?_
    refine z_iload_n dJ5_ensureCapacityInternal_d00df_23 rfl ?_
    refine z_VU1 (mi' := mJ5_newCapacity_0f7a4) (mc' := 0) (ms' := 0) dJ5_ensureCapacityInternal_d00df_24 uJ5_104 nJ5_newCapacity_0f7a4 kJ5_newCapacity_0f7a4 (by decide) (Nat.le_of_ble_eq_true rfl) (by omega) (by omega) (hB.1) ?_
    refine sJ5_newCapacity_0f7a4 hB hlt (by omega) ?_
    refine z_aload_n dJ5_ensureCapacityInternal_d00df_27 rfl ?_
    refine z_get dJ5_ensureCapacityInternal_d00df_28 fJ5_22.r (hB.1) rfl ?_
    refine z_ishl dJ5_ensureCapacityInternal_d00df_31 ?_
    rw [zshl0 _ hcap]
    refine z_callS (mi' := mJ7_copyOf_9075b) (As := [.ref q, .int (nI (zcap m mn))]) (mc' := 1) (ms' := zcap m mn) dJ5_ensureCapacityInternal_d00df_32 lJ5_108 nJ7_copyOf_9075b kJ7_copyOf_9075b (by decide) rfl (Nat.le_of_ble_eq_true rfl) (by omega) (by omega) ?_
    refine sJ7_copyOf_9075b hB.2.1 hB.2.2.2.2.1 (by unfold zcap; omega) (by omega) (fun G1 q1 f1 g1 g2 g3 g4 g5 => ?_)
    have hbq : b ≠ q1 := fun z => by rw [← z, hB.1] at g1; cases g1
    refine z_put dJ5_ensureCapacityInternal_d00df_35 fJ5_15 ((g5 b hbq).trans hB.1) rfl rfl (Nat.le_of_ble_eq_true rfl) ?_
    exact z_vreturn (mi := mJ5_ensureCapacityInternal_d00df) dJ5_ensureCapacityInternal_d00df_38 rfl (by omega) (by omega) (hP _ q1 (zcap m mn) f1 ⟨zset_s _ _ _, by rw [zset_n (Ne.symm hbq)]; exact g2, hbq, hcap2, g4, by omega⟩ hcap3.1 g3 hcap3.2 (Or.inr g1) (fun a h1 h2 h3 => by
      have h4 : a ≠ q1 := fun z => h3 (by rw [z]; exact g1)
      exact (zset_n h1).trans (g5 a h4)))
set_option maxHeartbeats 4000000 in
set_option maxRecDepth 10000 in
theorem sJ5_isLatin1_aae02 {Γ : zG} {d : Nat} {G : zH} {Post : zV} {b q m ct : Nat} {f : Nat → Int32} {ml : Int32} (hB : zBu G b q m f ml ct) (hP : Post (some (.int 1)) G) : zM Γ d mJ5_isLatin1_aae02 0 0 [.ref b] G Post := by
  refine zM_of pnJ5 rfl (Nat.le_of_ble_eq_true rfl) rfl ?_
  refine z_gets dJ5_isLatin1_aae02_0 wJ5_18 zkCS ?_
  refine z_if_eq (tgt := 17) dJ5_isLatin1_aae02_3 (by decide) (fun c1 => ?_) (fun c1 => ?_)
  · exact absurd c1 zi10
  · refine z_aload_n dJ5_isLatin1_aae02_6 rfl ?_
    refine z_get dJ5_isLatin1_aae02_7 fJ5_22.r (hB.1) rfl ?_
    refine z_if_ne (tgt := 17) dJ5_isLatin1_aae02_10 (by decide) (fun c2 => ?_) (fun c2 => ?_)
    · exact absurd rfl c2
    · refine z_iconst (v := 1) dJ5_isLatin1_aae02_13 (by decide) ?_
      refine z_goto (tgt := 18) dJ5_isLatin1_aae02_14 (by decide) ?_
      exact z_ireturn (mi := mJ5_isLatin1_aae02) dJ5_isLatin1_aae02_18 rfl rfl (Nat.le_refl _) (Nat.le_refl _) (hP)
set_option maxHeartbeats 4000000 in
set_option maxRecDepth 10000 in
theorem sJ1_canEncode_fc78d {Γ : zG} {d : Nat} {G : zH} {Post : zV} {c : Nat} (hc : c < 128) (hP : Post (some (.int 1)) G) : zM Γ d mJ1_canEncode_fc78d 0 0 [.int (nI c)] G Post := by
  refine zM_of pnJ1 rfl (Nat.le_of_ble_eq_true rfl) rfl ?_
  refine z_iload_n dJ1_canEncode_fc78d_0 rfl ?_
  refine z_sipush (v := 255) dJ1_canEncode_fc78d_1 (by decide) ?_
  refine z_icmp_gt (tgt := 11) dJ1_canEncode_fc78d_4 (by decide) (fun c1 => ?_) (fun c1 => ?_)
  · exact absurd ((nI_ltI (by decide) (by omega)).mp (show nI 255 < nI c from c1)) (by omega)
  · refine z_iconst (v := 1) dJ1_canEncode_fc78d_7 (by decide) ?_
    refine z_goto (tgt := 12) dJ1_canEncode_fc78d_8 (by decide) ?_
    exact z_ireturn (mi := mJ1_canEncode_fc78d) dJ1_canEncode_fc78d_12 rfl rfl (Nat.le_refl _) (Nat.le_refl _) (hP)
set_option maxHeartbeats 4000000 in
set_option maxRecDepth 10000 in
theorem sJ5_append_3fe6f {Γ : zG} {d : Nat} {G : zH} {Post : zV} {b q m ct : Nat} {f : Nat → Int32} {ml : Int32} (hB : zBu G b q m f ml ct) {c : Nat} (hc : c < 128) (h9 : ct + 1 ≤ 90) (hP : ∀ G1 q1 m1 f1, zBu G1 b q1 m1 f1 ml (ct + 1) → (∀ i, i < ct → f1 i = f i) → f1 ct = nI c → zQn G q q1 → zFB G G1 b q → Post (some (.ref b)) G1) : zM Γ (d + 3) mJ5_append_3fe6f 1 200 [.ref b, .int (nI c)] G Post := by
  refine zM_of pnJ5 rfl (Nat.le_of_ble_eq_true rfl) rfl ?_
  have hct := hB.2.2.2.2.2
  refine z_aload_n dJ5_append_3fe6f_0 rfl ?_
  refine z_aload_n dJ5_append_3fe6f_1 rfl ?_
  refine z_get dJ5_append_3fe6f_2 fJ5_79.r (hB.1) rfl ?_
  refine z_iconst (v := 1) dJ5_append_3fe6f_5 (by decide) ?_
  refine z_iadd dJ5_append_3fe6f_6 ?_
  rw [nI_1]
  refine z_VU1 (mi' := mJ5_ensureCapacityInternal_d00df) (mc' := 1) (ms' := 200) dJ5_append_3fe6f_7 uJ5_100 nJ5_ensureCapacityInternal_d00df kJ5_ensureCapacityInternal_d00df (by decide) (Nat.le_of_ble_eq_true rfl) (by omega) (by omega) (hB.1) ?_
  refine sJ5_ensureCapacityInternal_d00df hB (mn := ct + 1) (by omega) (fun G1 q1 m1 f1 hB hmn hcp hmm hqn hQ => ?_)
  refine z_aload_n dJ5_append_3fe6f_10 rfl ?_
  refine z_VU0 (mi' := mJ5_isLatin1_aae02) (mc' := 0) (ms' := 0) dJ5_append_3fe6f_11 uJ5_83 nJ5_isLatin1_aae02 kJ5_isLatin1_aae02 (by decide) (Nat.le_of_ble_eq_true rfl) (by omega) (by omega) (hB.1) ?_
  refine sJ5_isLatin1_aae02 hB ?_
  refine z_if_eq (tgt := 45) dJ5_append_3fe6f_14 (by decide) (fun c1 => ?_) (fun c1 => ?_)
  · exact absurd c1 zi10
  · refine z_iload_n dJ5_append_3fe6f_17 rfl ?_
    refine z_S1 (mi' := mJ1_canEncode_fc78d) dJ5_append_3fe6f_18 lJ5_191 nJ1_canEncode_fc78d kJ1_canEncode_fc78d (by decide) (Nat.le_of_ble_eq_true rfl) (by omega) (by omega) ?_
    refine sJ1_canEncode_fc78d hc ?_
    refine z_if_eq (tgt := 45) dJ5_append_3fe6f_21 (by decide) (fun c2 => ?_) (fun c2 => ?_)
    · exact absurd c2 zi10
    · refine z_aload_n dJ5_append_3fe6f_24 rfl ?_
      refine z_get dJ5_append_3fe6f_25 fJ5_15.r (hB.1) rfl ?_
      refine z_aload_n dJ5_append_3fe6f_28 rfl ?_
      refine z_dup dJ5_append_3fe6f_29 rfl ?_
      refine z_get dJ5_append_3fe6f_30 fJ5_79.r (hB.1) rfl ?_
      refine z_dup_x1 dJ5_append_3fe6f_33 rfl rfl ?_
      refine z_iconst (v := 1) dJ5_append_3fe6f_34 (by decide) ?_
      refine z_iadd dJ5_append_3fe6f_35 ?_
      rw [nI_1]
      refine z_put dJ5_append_3fe6f_36 fJ5_79 (hB.1) rfl rfl (Nat.le_of_ble_eq_true rfl) ?_
      refine z_bset hB (ml' := ml) (ct' := ct + 1) (by omega) rfl (fun G2 hB hF => ?_)
      have hQ := hQ.tr hqn hF
      refine z_iload_n dJ5_append_3fe6f_39 rfl ?_
      refine z_i2b dJ5_append_3fe6f_40 ?_
      rw [zi2bc c hc]
      refine z_bast dJ5_append_3fe6f_41 hB.2.1 (vp_in_nI (show ct < m1 by omega) (by have := hB.2.2.2.1; omega)) ?_
      rw [nI_clamp (show ct < 2147483648 by omega), (znarB c hc).1]
      refine z_bst hB (j := ct) (x := nI c) (znarB c hc).2 rfl (fun G3 hB hF => ?_)
      have hQ := hQ.tr hqn hF
      refine z_goto (tgt := 75) dJ5_append_3fe6f_42 (by decide) ?_
      refine z_aload_n dJ5_append_3fe6f_75 rfl ?_
      exact z_areturn (mi := mJ5_append_3fe6f) dJ5_append_3fe6f_76 rfl (Or.inl ⟨_, rfl⟩) (Or.inr ⟨_, rfl⟩) (by omega) (by omega) (hP _ q1 m1 _ hB (fun i hi => (if_neg (by omega)).trans (hcp i (by omega))) (if_pos rfl) hqn hQ)
set_option maxHeartbeats 4000000 in
set_option maxRecDepth 10000 in
theorem sJ4_append_cf468 {Γ : zG} {d : Nat} {G : zH} {Post : zV} {b q m ct : Nat} {f : Nat → Int32} {ml : Int32} (hB : zBu G b q m f ml ct) {c : Nat} (hc : c < 128) (h9 : ct + 1 ≤ 90) (hP : ∀ G1 q1 m1 f1, zBu G1 b q1 m1 f1 ml (ct + 1) → (∀ i, i < ct → f1 i = f i) → f1 ct = nI c → zQn G q q1 → zFB G G1 b q → Post (some (.ref b)) G1) : zM Γ (d + 4) mJ4_append_cf468 1 200 [.ref b, .int (nI c)] G Post := by
  refine zM_of pnJ4 rfl (Nat.le_of_ble_eq_true rfl) rfl ?_
  refine z_aload_n dJ4_append_cf468_0 rfl ?_
  refine z_iload_n dJ4_append_cf468_1 rfl ?_
  refine z_SU1 (mi' := mJ5_append_3fe6f) (mc' := 1) (ms' := 200) dJ4_append_cf468_2 uJ4_50 nJ5_append_3fe6f kJ5_append_3fe6f (by decide) (Nat.le_of_ble_eq_true rfl) (by omega) (by omega) (hB.1) ?_
  refine sJ5_append_3fe6f hB hc h9 (fun G1 q1 m1 f1 hB1 g1 g2 g3 g4 => ?_)
  refine z_pop dJ4_append_cf468_5 rfl ?_
  refine z_aload_n dJ4_append_cf468_6 rfl ?_
  exact z_areturn (mi := mJ4_append_cf468) dJ4_append_cf468_7 rfl (Or.inl ⟨_, rfl⟩) (Or.inr ⟨_, rfl⟩) (by omega) (by omega) (hP _ q1 m1 _ hB1 g1 g2 g3 g4)
set_option maxHeartbeats 4000000 in
set_option maxRecDepth 10000 in
theorem sJ5_length_8abf5 {Γ : zG} {d : Nat} {G : zH} {Post : zV} {b q m ct : Nat} {f : Nat → Int32} {ml : Int32} (hB : zBu G b q m f ml ct) (hP : Post (some (.int (nI ct))) G) : zM Γ d mJ5_length_8abf5 0 0 [.ref b] G Post := by
  refine zM_of pnJ5 rfl (Nat.le_of_ble_eq_true rfl) rfl ?_
  refine z_aload_n dJ5_length_8abf5_0 rfl ?_
  refine z_get dJ5_length_8abf5_1 fJ5_79.r (hB.1) rfl ?_
  exact z_ireturn (mi := mJ5_length_8abf5) dJ5_length_8abf5_4 rfl rfl (Nat.le_refl _) (Nat.le_refl _) (hP)
set_option maxHeartbeats 4000000 in
set_option maxRecDepth 10000 in
theorem sJ4_length_8abf5 {Γ : zG} {d : Nat} {G : zH} {Post : zV} {b q m ct : Nat} {f : Nat → Int32} {ml : Int32} (hB : zBu G b q m f ml ct) (hP : Post (some (.int (nI ct))) G) : zM Γ (d + 1) mJ4_length_8abf5 0 0 [.ref b] G Post := by
  refine zM_of pnJ4 rfl (Nat.le_of_ble_eq_true rfl) rfl ?_
  refine z_aload_n dJ4_length_8abf5_0 rfl ?_
  refine z_SU0 (mi' := mJ5_length_8abf5) (mc' := 0) (ms' := 0) dJ4_length_8abf5_1 uJ4_343 nJ5_length_8abf5 kJ5_length_8abf5 (by decide) (Nat.le_of_ble_eq_true rfl) (by omega) (by omega) (hB.1) ?_
  refine sJ5_length_8abf5 hB ?_
  exact z_ireturn (mi := mJ4_length_8abf5) dJ4_length_8abf5_4 rfl rfl (Nat.le_refl _) (Nat.le_refl _) (hP)
set_option maxHeartbeats 4000000 in
set_option maxRecDepth 10000 in
theorem sJ5_charAt_5068e {Γ : zG} {d : Nat} {G : zH} {Post : zV} {b q m ct : Nat} {f : Nat → Int32} {ml : Int32} (hB : zBu G b q m f ml ct) {i c : Nat} (hi : i < ct) (hc : c < 128) (hfc : f i = nI c) (hP : Post (some (.int (nI c))) G) : zM Γ (d + 2) mJ5_charAt_5068e 0 0 [.ref b, .int (nI i)] G Post := by
  refine zM_of pnJ5 rfl (Nat.le_of_ble_eq_true rfl) rfl ?_
  have hm := hB.2.2.2.1
  have hct := hB.2.2.2.2.2
  refine z_aload_n dJ5_charAt_5068e_0 rfl ?_
  refine z_get dJ5_charAt_5068e_1 fJ5_22.r (hB.1) rfl ?_
  refine z_istore_n dJ5_charAt_5068e_4 (by decide) rfl ?_
  refine z_aload_n dJ5_charAt_5068e_5 rfl ?_
  refine z_get dJ5_charAt_5068e_6 fJ5_15.r (hB.1) rfl ?_
  refine z_astore_n dJ5_charAt_5068e_9 (by decide) rfl ?_
  refine z_aload_n dJ5_charAt_5068e_10 rfl ?_
  refine z_get dJ5_charAt_5068e_11 fJ5_79.r (hB.1) rfl ?_
  refine z_aload_n dJ5_charAt_5068e_14 rfl ?_
  refine z_alen (v := nI m) dJ5_charAt_5068e_15 hB.2.1 rfl ?_
  refine z_iload_n dJ5_charAt_5068e_16 rfl ?_
  refine z_ishr dJ5_charAt_5068e_17 ?_
  rw [zshr0 m (by omega)]
  refine z_mmin dJ5_charAt_5068e_18 lkJ5_138 (Nat.le_of_ble_eq_true rfl) (by omega) (by omega) ?_
  rw [znImin (by omega) (by omega), Nat.min_eq_left (by omega)]
  refine z_istore dJ5_charAt_5068e_21 (by decide) rfl ?_
  refine z_iload_n dJ5_charAt_5068e_23 rfl ?_
  refine z_iload dJ5_charAt_5068e_24 rfl ?_
  refine z_S2 (mi' := mJ0_checkIndex_df160) dJ5_charAt_5068e_26 lJ5_144 nJ0_checkIndex_df160 kJ0_checkIndex_df160 (by decide) (Nat.le_of_ble_eq_true rfl) (by omega) (by omega) ?_
  refine sJ0_checkIndex_df160 hi (by omega) ?_
  refine z_iload_n dJ5_charAt_5068e_29 rfl ?_
  refine z_if_ne (tgt := 42) dJ5_charAt_5068e_30 (by decide) (fun c1 => ?_) (fun c1 => ?_)
  · exact absurd rfl c1
  · refine z_aload_n dJ5_charAt_5068e_33 rfl ?_
    refine z_iload_n dJ5_charAt_5068e_34 rfl ?_
    refine z_bald dJ5_charAt_5068e_35 hB.2.1 (vp_in_nI (show i < m by omega) (by omega)) ?_
    rw [nI_clamp (show i < 2147483648 by omega), hfc]
    refine z_sipush (v := 255) dJ5_charAt_5068e_36 (by decide) ?_
    refine z_iand dJ5_charAt_5068e_39 ?_
    refine z_i2c dJ5_charAt_5068e_40 ?_
    rw [z255 c hc]
    exact z_ireturn (mi := mJ5_charAt_5068e) dJ5_charAt_5068e_41 rfl (znarR c hc) (Nat.le_refl _) (Nat.le_refl _) hP
set_option maxHeartbeats 4000000 in
set_option maxRecDepth 10000 in
theorem sJ4_charAt_5068e {Γ : zG} {d : Nat} {G : zH} {Post : zV} {b q m ct : Nat} {f : Nat → Int32} {ml : Int32} (hB : zBu G b q m f ml ct) {i c : Nat} (hi : i < ct) (hc : c < 128) (hfc : f i = nI c) (hP : Post (some (.int (nI c))) G) : zM Γ (d + 3) mJ4_charAt_5068e 0 0 [.ref b, .int (nI i)] G Post := by
  refine zM_of pnJ4 rfl (Nat.le_of_ble_eq_true rfl) rfl ?_
  refine z_aload_n dJ4_charAt_5068e_0 rfl ?_
  refine z_iload_n dJ4_charAt_5068e_1 rfl ?_
  refine z_SU1 (mi' := mJ5_charAt_5068e) (mc' := 0) (ms' := 0) dJ4_charAt_5068e_2 uJ4_329 nJ5_charAt_5068e kJ5_charAt_5068e (by decide) (Nat.le_of_ble_eq_true rfl) (by omega) (by omega) (hB.1) ?_
  refine sJ5_charAt_5068e hB hi hc hfc ?_
  exact z_ireturn (mi := mJ4_charAt_5068e) dJ4_charAt_5068e_5 rfl (znarR c hc) (Nat.le_refl _) (Nat.le_refl _) hP
set_option maxHeartbeats 4000000 in
set_option maxRecDepth 10000 in
theorem sJ5_ensure0 {Γ : zG} {d : Nat} {G : zH} {Post : zV} {b q m ct : Nat} {f : Nat → Int32} {ml : Int32} (hB : zBu G b q m f ml ct) (hP : Post none G) : zM Γ (d + 2) mJ5_ensureCapacityInternal_d00df 1 200 [.ref b, .int (nI 0)] G Post := by
  refine zM_of pnJ5 rfl (Nat.le_of_ble_eq_true rfl) rfl ?_
  have hm := hB.2.2.2.1
  refine z_aload_n dJ5_ensureCapacityInternal_d00df_0 rfl ?_
  refine z_get dJ5_ensureCapacityInternal_d00df_1 fJ5_15.r (hB.1) rfl ?_
  refine z_alen (v := nI m) dJ5_ensureCapacityInternal_d00df_4 hB.2.1 rfl ?_
  refine z_aload_n dJ5_ensureCapacityInternal_d00df_5 rfl ?_
  refine z_get dJ5_ensureCapacityInternal_d00df_6 fJ5_22.r (hB.1) rfl ?_
  refine z_ishr dJ5_ensureCapacityInternal_d00df_9 ?_
  rw [zshr0 m (by omega)]
  refine z_istore_n dJ5_ensureCapacityInternal_d00df_10 (by decide) rfl ?_
  refine z_iload_n dJ5_ensureCapacityInternal_d00df_11 rfl ?_
  refine z_iload_n dJ5_ensureCapacityInternal_d00df_12 rfl ?_
  refine z_isub dJ5_ensureCapacityInternal_d00df_13 ?_
  refine z_if_le (tgt := 38) dJ5_ensureCapacityInternal_d00df_14 (by decide) (fun c1 => ?_) (fun c1 => ?_)
  · exact z_vreturn (mi := mJ5_ensureCapacityInternal_d00df) dJ5_ensureCapacityInternal_d00df_38 rfl (by omega) (by omega) (hP)
  · exact absurd (Int32.le_iff_toInt_le.mpr (by
          have e1 := nI_toInt (show m < 2147483648 by omega)
          have e2 := nI_toInt (show 0 < 2147483648 by omega)
          rw [zsubI (by omega), z0I]
          omega)) c1
set_option maxHeartbeats 4000000 in
set_option maxRecDepth 10000 in
theorem sJ5_setLength_d00df {Γ : zG} {d : Nat} {G : zH} {Post : zV} {b q m ct : Nat} {f : Nat → Int32} {ml : Int32} (hB : zBu G b q m f ml ct) (hP : ∀ G1 ml1, zBu G1 b q m f ml1 0 → zFB G G1 b q → Post none G1) : zM Γ (d + 3) mJ5_setLength_d00df 1 200 [.ref b, .int (nI 0)] G Post := by
  refine zM_of pnJ5 rfl (Nat.le_of_ble_eq_true rfl) rfl ?_
  have hm := hB.2.2.2.1
  have hct := hB.2.2.2.2.2
  have hQ : zFB G G b q := zFB.rf
  refine z_iload_n dJ5_setLength_d00df_0 rfl ?_
  refine z_if_ge (tgt := 13) dJ5_setLength_d00df_1 (by decide) (fun c1 => ?_) (fun c1 => ?_)
  · refine z_aload_n dJ5_setLength_d00df_13 rfl ?_
    refine z_iload_n dJ5_setLength_d00df_14 rfl ?_
    refine z_VU1 (mi' := mJ5_ensureCapacityInternal_d00df) (mc' := 1) (ms' := 200) dJ5_setLength_d00df_15 uJ5_100 nJ5_ensureCapacityInternal_d00df kJ5_ensureCapacityInternal_d00df (by decide) (Nat.le_of_ble_eq_true rfl) (by omega) (by omega) (hB.1) ?_
    refine sJ5_ensure0 hB ?_
    refine z_aload_n dJ5_setLength_d00df_18 rfl ?_
    refine z_get dJ5_setLength_d00df_19 fJ5_79.r (hB.1) rfl ?_
    refine z_iload_n dJ5_setLength_d00df_22 rfl ?_
    refine z_icmp_ge (tgt := 63) dJ5_setLength_d00df_23 (by decide) (fun c2 => ?_) (fun c2 => ?_)
    · refine z_aload_n dJ5_setLength_d00df_63 rfl ?_
      refine z_get dJ5_setLength_d00df_64 fJ5_79.r (hB.1) rfl ?_
      refine z_iload_n dJ5_setLength_d00df_67 rfl ?_
      refine z_icmp_le (tgt := 76) dJ5_setLength_d00df_68 (by decide) (fun c3 => ?_) (fun c3 => ?_)
      · refine z_aload_n dJ5_setLength_d00df_76 rfl ?_
        refine z_iload_n dJ5_setLength_d00df_77 rfl ?_
        refine z_put dJ5_setLength_d00df_78 fJ5_79 (hB.1) rfl rfl (Nat.le_of_ble_eq_true rfl) ?_
        refine z_bset hB (ct' := 0) (by omega) rfl (fun G2 hB hF => ?_)
        have hQ := hQ.tr zQn.rf hF
        exact z_vreturn (mi := mJ5_setLength_d00df) dJ5_setLength_d00df_81 rfl (by omega) (by omega) (hP _ _ hB hQ)
      · refine z_aload_n dJ5_setLength_d00df_71 rfl ?_
        refine z_iconst (v := 1) dJ5_setLength_d00df_72 (by decide) ?_
        refine z_put dJ5_setLength_d00df_73 fJ5_73 (hB.1) rfl rfl (Nat.le_of_ble_eq_true rfl) ?_
        refine z_bset hB (ml' := 1) (ct' := ct) (by omega) rfl (fun G2 hB hF => ?_)
        have hQ := hQ.tr zQn.rf hF
        refine z_aload_n dJ5_setLength_d00df_76 rfl ?_
        refine z_iload_n dJ5_setLength_d00df_77 rfl ?_
        refine z_put dJ5_setLength_d00df_78 fJ5_79 (hB.1) rfl rfl (Nat.le_of_ble_eq_true rfl) ?_
        refine z_bset hB (ct' := 0) (by omega) rfl (fun G2 hB hF => ?_)
        have hQ := hQ.tr zQn.rf hF
        exact z_vreturn (mi := mJ5_setLength_d00df) dJ5_setLength_d00df_81 rfl (by omega) (by omega) (hP _ _ hB hQ)
    · exact absurd ((nI_leI (by decide) (by omega)).mpr (Nat.zero_le ct)) c2
  · exact absurd (Int32.le_refl _) c1
set_option maxHeartbeats 4000000 in
set_option maxRecDepth 10000 in
theorem sJ4_setLength_d00df {Γ : zG} {d : Nat} {G : zH} {Post : zV} {b q m ct : Nat} {f : Nat → Int32} {ml : Int32} (hB : zBu G b q m f ml ct) (hP : ∀ G1 ml1, zBu G1 b q m f ml1 0 → zFB G G1 b q → Post none G1) : zM Γ (d + 4) mJ4_setLength_d00df 1 200 [.ref b, .int (nI 0)] G Post := by
  refine zM_of pnJ4 rfl (Nat.le_of_ble_eq_true rfl) rfl ?_
  refine z_aload_n dJ4_setLength_d00df_0 rfl ?_
  refine z_iload_n dJ4_setLength_d00df_1 rfl ?_
  refine z_SU1 (mi' := mJ5_setLength_d00df) (mc' := 1) (ms' := 200) dJ4_setLength_d00df_2 uJ4_333 nJ5_setLength_d00df kJ5_setLength_d00df (by decide) (Nat.le_of_ble_eq_true rfl) (by omega) (by omega) (hB.1) ?_
  refine sJ5_setLength_d00df hB (fun G1 ml1 hB1 hF1 => ?_)
  exact z_vreturn (mi := mJ4_setLength_d00df) dJ4_setLength_d00df_5 rfl (by omega) (by omega) (hP _ _ hB1 hF1)
