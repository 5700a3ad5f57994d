/-! ===== numbers written by the JDK ===== -/
theorem znegI {a : Nat} (ha : a < 2147483648) : (-(nI a)).toInt = -(a : Int) := by
  have e : -(nI a) = 0 - nI a := by grind
  have e1 := nI_toInt ha
  rw [e, zsubI (by rw [z0I]; omega), z0I]
  omega
theorem zneg_le {a b : Nat} (ha : a < 2147483648) (hb : b < 2147483648) : -(nI a) ≤ -(nI b) ↔ b ≤ a := by
  rw [Int32.le_iff_toInt_le, znegI ha, znegI hb]
  omega
theorem zneg_lt {a b : Nat} (ha : a < 2147483648) (hb : b < 2147483648) : -(nI a) < -(nI b) ↔ b < a := by
  rw [Int32.lt_iff_toInt_lt, znegI ha, znegI hb]
  omega
theorem zneg10 (P : Nat) : (10 : Int32) * -(nI P) = -(nI (10 * P)) := by
  rw [← pk_mul, show (nI 10 : Int32) = 10 from rfl]
  grind
theorem znegdiv {n : Nat} (h : n < 2147483648) : -(nI n) / 100 = -(nI (n / 100)) := by
  refine zeqI.mpr ?_
  rw [Int32.toInt_div, znegI h, znegI (show n / 100 < 2147483648 by omega), show (100 : Int32).toInt = 100 by decide, Int.neg_tdiv, Int.tdiv_eq_ediv_of_nonneg (by omega)]
  exact (Int.bmod_eq_of_le (by omega) (by omega)).trans (by omega)
theorem znegrem {n : Nat} (h : n < 2147483648) : -(nI (n / 100)) * 100 - -(nI n) = nI (n % 100) := by
  have e0 : -(nI (n / 100)) * 100 - -(nI n) = nI n - nI (n / 100) * nI 100 := by
    rw [show (nI 100 : Int32) = 100 from rfl]
    grind
  have e1 := nI_toInt h
  have e2 := nI_toInt (show n / 100 * 100 < 2147483648 by omega)
  have e3 := nI_toInt (show n % 100 < 2147483648 by omega)
  rw [e0, pk_mul]
  refine zeqI.mpr ?_
  rw [zsubI (by omega)]
  omega
theorem znegneg (n : Nat) : -(-(nI n)) = nI n := by grind
theorem zdg_3 {n : Nat} (h : 100 ≤ n) : zdg n = zdg (n / 100) ++ [48 + n % 100 / 10, 48 + n % 100 % 10] := by
  rw [zdg_2 (show ¬ n ≤ 9 by omega), zdg_2 (show ¬ n / 10 ≤ 9 by omega), show n / 10 / 10 = n / 100 by omega, show n / 10 % 10 = n % 100 / 10 by omega, show n % 10 = n % 100 % 10 by omega, List.append_assoc]
  rfl
theorem zdg_L : ∀ (i n : Nat), 1 ≤ i → (i = 1 ∨ 10 ^ (i - 1) ≤ n) → n < 10 ^ i → (zdg n).length = i
  | 0, n, h, _, _ => by omega
  | 1, n, _, _, h3 => by rw [zdg_1 (by omega)]; rfl
  | i + 2, n, _, h2, h3 => by
    have h4 : 10 ^ (i + 1) ≤ n := by
      rcases h2 with h2 | h2
      · omega
      · exact h2
    have e1 : 10 ^ (i + 2) = 10 ^ (i + 1) * 10 := Nat.pow_succ ..
    have e2 : 10 ^ (i + 1) = 10 ^ i * 10 := Nat.pow_succ ..
    have e3 : 0 < 10 ^ i := Nat.pow_pos (by decide)
    rw [zdg_2 (by omega), List.length_append, zdg_L (i + 1) (n / 10) (by omega) (Or.inr (by rw [Nat.add_sub_cancel]; omega)) (by omega)]
    rfl
theorem zones {r : Nat} : zOnes r = nI (48 + r % 10) := rfl
theorem ztens {r : Nat} : zTens r = nI (48 + r / 10) := rfl
set_option maxHeartbeats 4000000 in
set_option maxRecDepth 10000 in
theorem sJ6_stringSize_0f7a4 {Γ : zG} {d : Nat} {G : zH} {Post : zV} {n : Nat} (hn : n < 10000000) (hP : Post (some (.int (nI (zdg n).length))) G) : zM Γ d mJ6_stringSize_0f7a4 0 0 [.int (nI n)] G Post := by
  refine zM_of pnJ6 rfl (Nat.le_of_ble_eq_true rfl) rfl ?_
  have key : ∀ (r : Nat) (i : Nat), 1 ≤ i → i ≤ 7 → 7 < i + r → (i = 1 ∨ 10 ^ (i - 1) ≤ n) → zX Γ mJ6_stringSize_0f7a4 (d) 0 0 16 [some (.int (-(nI n))), some (.int 0), some (.int (-(nI (10 ^ i)))), some (.int (nI i))] [] G 0 0 (zlift Post) := by
    intro r
    induction r with
    | zero =>
      intro i hi0 hi1 hi2 hin
      exact absurd hi2 (by omega)
    | succ r ih =>
      intro i hi0 hi1 hi2 hin
      have hpw : 10 ^ i ≤ 10 ^ 7 := Nat.pow_le_pow_right (by decide) hi1
      refine z_iload_n dJ6_stringSize_0f7a4_16 rfl ?_
      refine z_bipush (v := 10) dJ6_stringSize_0f7a4_17 (by decide) ?_
      refine z_icmp_ge (tgt := 42) dJ6_stringSize_0f7a4_19 (by decide) (fun c1 => ?_) (fun c1 => ?_)
      · exact absurd ((nI_leI (by decide) (by omega)).mp (show nI 10 ≤ nI i from c1)) (by omega)
      · refine z_iload_n dJ6_stringSize_0f7a4_22 rfl ?_
        refine z_iload_n dJ6_stringSize_0f7a4_23 rfl ?_
        refine z_icmp_le (tgt := 31) dJ6_stringSize_0f7a4_24 (by decide) (fun c2 => ?_) (fun c2 => ?_)
        · have hge : 10 ^ i ≤ n := (zneg_le (by omega) (by omega)).mp c2
          have hi7 : i + 1 ≤ 7 := by
            have h7 : i ≠ 7 := fun z => by rw [z] at hge; omega
            omega
          refine z_bipush (v := 10) dJ6_stringSize_0f7a4_31 (by decide) ?_
          refine z_iload_n dJ6_stringSize_0f7a4_33 rfl ?_
          refine z_imul dJ6_stringSize_0f7a4_34 ?_
          refine z_istore_n dJ6_stringSize_0f7a4_35 (by decide) rfl ?_
          refine z_iinc dJ6_stringSize_0f7a4_36 rfl rfl (by decide) rfl ?_
          refine z_goto (tgt := 16) dJ6_stringSize_0f7a4_39 (by decide) ?_
          exact z_sub (lv' := [some (.int (-(nI n))), some (.int 0), some (.int (-(nI (10 ^ (i + 1))))), some (.int (nI (i + 1)))]) ⟨rfl, rfl, zsl (by rw [zneg10, Nat.pow_succ, Nat.mul_comm]), zsl (zinc i), trivial⟩ (ih (i + 1) (by omega) hi7 (by omega) (Or.inr (by rw [Nat.add_sub_cancel]; exact hge)))
        · have hlt : n < 10 ^ i := Nat.lt_of_not_le fun z => c2 ((zneg_le (by omega) (by omega)).mpr z)
          refine z_iload_n dJ6_stringSize_0f7a4_27 rfl ?_
          refine z_iload_n dJ6_stringSize_0f7a4_28 rfl ?_
          refine z_iadd dJ6_stringSize_0f7a4_29 ?_
          rw [zadd0]
          exact z_ireturn (mi := mJ6_stringSize_0f7a4) dJ6_stringSize_0f7a4_30 rfl rfl (Nat.le_refl _) (Nat.le_refl _) (by rw [zdg_L i n hi0 hin hlt] at hP; exact hP)
  refine z_iconst (v := 1) dJ6_stringSize_0f7a4_0 (by decide) ?_
  refine z_istore_n dJ6_stringSize_0f7a4_1 (by decide) rfl ?_
  refine z_iload_n dJ6_stringSize_0f7a4_2 rfl ?_
  refine z_if_lt (tgt := 11) dJ6_stringSize_0f7a4_3 (by decide) (fun c1 => ?_) (fun c1 => ?_)
  · exact absurd c1 (nI_pos (by omega))
  · refine z_iconst (v := 0) dJ6_stringSize_0f7a4_6 (by decide) ?_
    refine z_istore_n dJ6_stringSize_0f7a4_7 (by decide) rfl ?_
    refine z_iload_n dJ6_stringSize_0f7a4_8 rfl ?_
    refine z_ineg dJ6_stringSize_0f7a4_9 ?_
    refine z_istore_n dJ6_stringSize_0f7a4_10 (by decide) rfl ?_
    refine z_bipush (v := (-10)) dJ6_stringSize_0f7a4_11 (by decide) ?_
    refine z_istore_n dJ6_stringSize_0f7a4_13 (by decide) rfl ?_
    refine z_iconst (v := 1) dJ6_stringSize_0f7a4_14 (by decide) ?_
    refine z_istore_n dJ6_stringSize_0f7a4_15 (by decide) rfl ?_
    exact z_sub (lv' := [some (.int (-(nI n))), some (.int 0), some (.int (-(nI (10 ^ 1)))), some (.int (nI 1))]) ⟨rfl, rfl, rfl, rfl, trivial⟩ (key 7 1 (by omega) (by omega) (by omega) (Or.inl rfl))
/-- the digits of n0 from place e on downward, as far as n1 with p left to write -/
def zGc (G1 : zH) (q m : Nat) (f f9 : Nat → Int32) (n0 n1 e p : Nat) (suf : List Nat) : Prop := G1 q = some (.inl (.byte, (m, .inl f9))) ∧ zdg n0 = zdg n1 ++ suf ∧ suf.length = e - p ∧ p ≤ e ∧ (zdg n1).length ≤ p ∧ (∀ j, j < p ∨ e ≤ j → f9 j = f j) ∧ (∀ i, i < suf.length → f9 (p + i) = nI (suf.getD i 0)) ∧ (∀ i, i < m → fits .byte (.int (f9 i)) = true) ∧ n1 ≤ n0
theorem zGc.two {G1 : zH} {q m : Nat} {f f9 : Nat → Int32} {n0 n1 e p : Nat} {suf : List Nat} (h : zGc G1 q m f f9 n0 n1 e p suf) (h100 : 100 ≤ n1) : zGc (zset (zset G1 q (.inl (.byte, (m, .inl (upd f9 (p - 1) (nI (48 + n1 % 100 % 10))))))) q (.inl (.byte, (m, .inl (upd (upd f9 (p - 1) (nI (48 + n1 % 100 % 10))) (p - 2) (nI (48 + n1 % 100 / 10))))))) q m f (upd (upd f9 (p - 1) (nI (48 + n1 % 100 % 10))) (p - 2) (nI (48 + n1 % 100 / 10))) n0 (n1 / 100) e (p - 2) ([48 + n1 % 100 / 10, 48 + n1 % 100 % 10] ++ suf) := by
  obtain ⟨h1, h2, h3, h4, h5, h6, h7, h8, h9⟩ := h
  have hl := zdg_3 h100
  have hl2 : (zdg n1).length = (zdg (n1 / 100)).length + 2 := by rw [hl, List.length_append]; rfl
  refine ⟨zset_s _ _ _, by rw [h2, hl, List.append_assoc], ?_, by omega, by omega, fun j hj => ?_, fun i hi => ?_, fun i hi => ?_, by omega⟩
  · rw [List.length_append, h3]
    simp only [List.length_cons, List.length_nil]
    omega
  · unfold upd
    rw [if_neg (by omega), if_neg (by omega)]
    exact h6 j (by omega)
  · rw [List.length_append] at hi
    simp only [List.length_cons, List.length_nil] at hi
    unfold upd
    by_cases e0 : i = 0
    · rw [e0, if_pos (by omega)]
      rfl
    · by_cases e1 : i = 1
      · rw [e1, if_neg (by omega), if_pos (by omega)]
        rfl
      · rw [if_neg (by omega), if_neg (by omega), show p - 2 + i = p + (i - 2) by omega, h7 (i - 2) (by omega)]
        obtain ⟨i2, rfl⟩ : ∃ i2, i = i2 + 2 := ⟨i - 2, by omega⟩
        rfl
  · unfold upd
    split
    · exact (znarB _ (by omega)).2
    · split
      · exact (znarB _ (by omega)).2
      · exact h8 i hi
/-- the digits are written -/
def zGd (G G1 : zH) (q m : Nat) (f f9 : Nat → Int32) (n e : Nat) : Prop := G1 q = some (.inl (.byte, (m, .inl f9))) ∧ (∀ j, j < e - (zdg n).length ∨ e ≤ j → f9 j = f j) ∧ (∀ i, i < (zdg n).length → f9 (e - (zdg n).length + i) = nI ((zdg n).getD i 0)) ∧ (∀ i, i < m → fits .byte (.int (f9 i)) = true) ∧ (∀ a, a ≠ q → G1 a = G a)
theorem zGc.end1 {G G1 : zH} {q m : Nat} {f f9 : Nat → Int32} {n0 n1 e p : Nat} {suf : List Nat} (h : zGc G1 q m f f9 n0 n1 e p suf) (h9 : n1 ≤ 9) (hfr : ∀ a, a ≠ q → G1 a = G a) : zGd G (zset G1 q (.inl (.byte, (m, .inl (upd f9 (p - 1) (nI (48 + n1 % 10))))))) q m f (upd f9 (p - 1) (nI (48 + n1 % 10))) n0 e := by
  obtain ⟨h1, h2, h3, h4, h5, h6, h7, h8, h10⟩ := h
  have hz : zdg n0 = [48 + n1 % 10] ++ suf := by rw [h2, zdg_1 h9, Nat.mod_eq_of_lt (by omega)]
  have hl : (zdg n0).length = 1 + (e - p) := by rw [hz, List.length_append, h3]; rfl
  have h5' : 1 ≤ p := by rw [zdg_1 h9] at h5; exact h5
  refine ⟨zset_s _ _ _, fun j hj => ?_, fun i hi => ?_, fun i hi => ?_, fun a ha => (zset_n ha).trans (hfr a ha)⟩
  · unfold upd
    rw [if_neg (by omega)]
    exact h6 j (by omega)
  · rw [hl] at hi ⊢
    unfold upd
    rw [hz]
    by_cases e0 : i = 0
    · rw [e0, if_pos (by omega)]
      rfl
    · rw [if_neg (by omega), show e - (1 + (e - p)) + i = p + (i - 1) by omega, h7 (i - 1) (by omega)]
      obtain ⟨i2, rfl⟩ : ∃ i2, i = i2 + 1 := ⟨i - 1, by omega⟩
      rfl
  · unfold upd
    split
    · exact (znarB _ (by omega)).2
    · exact h8 i hi
theorem zGc.end2 {G G1 : zH} {q m : Nat} {f f9 : Nat → Int32} {n0 n1 e p : Nat} {suf : List Nat} (h : zGc G1 q m f f9 n0 n1 e p suf) (h9 : ¬ n1 ≤ 9) (h99 : n1 < 100) (hfr : ∀ a, a ≠ q → G1 a = G a) : zGd G (zset (zset G1 q (.inl (.byte, (m, .inl (upd f9 (p - 1) (nI (48 + n1 % 10))))))) q (.inl (.byte, (m, .inl (upd (upd f9 (p - 1) (nI (48 + n1 % 10))) (p - 2) (nI (48 + n1 / 10))))))) q m f (upd (upd f9 (p - 1) (nI (48 + n1 % 10))) (p - 2) (nI (48 + n1 / 10))) n0 e := by
  obtain ⟨h1, h2, h3, h4, h5, h6, h7, h8, h10⟩ := h
  have hz0 : zdg n1 = [48 + n1 / 10, 48 + n1 % 10] := by rw [zdg_2 h9, zdg_1 (by omega)]; rfl
  have hz : zdg n0 = [48 + n1 / 10, 48 + n1 % 10] ++ suf := by rw [h2, hz0]
  have hl : (zdg n0).length = 2 + (e - p) := by rw [hz, List.length_append, h3]; rfl
  have h5' : 2 ≤ p := by rw [hz0] at h5; exact h5
  refine ⟨zset_s _ _ _, fun j hj => ?_, fun i hi => ?_, fun i hi => ?_, fun a ha => (zset_n ha).trans ((zset_n ha).trans (hfr a ha))⟩
  · unfold upd
    rw [if_neg (by omega), if_neg (by omega)]
    exact h6 j (by omega)
  · rw [hl] at hi ⊢
    unfold upd
    rw [hz]
    by_cases e0 : i = 0
    · rw [e0, if_pos (by omega)]
      rfl
    · by_cases e1 : i = 1
      · rw [e1, if_neg (by omega), if_pos (by omega)]
        rfl
      · rw [if_neg (by omega), if_neg (by omega), show e - (2 + (e - p)) + i = p + (i - 2) by omega, h7 (i - 2) (by omega)]
        obtain ⟨i2, rfl⟩ : ∃ i2, i = i2 + 2 := ⟨i - 2, by omega⟩
        rfl
  · unfold upd
    split
    · exact (znarB _ (by omega)).2
    · split
      · exact (znarB _ (by omega)).2
      · exact h8 i hi
set_option maxHeartbeats 4000000 in
set_option maxRecDepth 10000 in
theorem sJ6_getChars_ba4f3 {Γ : zG} {d : Nat} {G : zH} {Post : zV} {q m n e : Nat} {f : Nat → Int32} (hA0 : G q = some (.inl (.byte, (m, .inl f)))) (hf0 : ∀ i, i < m → fits .byte (.int (f i)) = true) (hn : n < 10000000) (hle : (zdg n).length ≤ e) (hem : e ≤ m) (hm : m ≤ 200) (hP : ∀ G1 f9, zGd G G1 q m f f9 n e → ∀ v, Post (some (.int v)) G1) : zM Γ d mJ6_getChars_ba4f3 0 0 [.int (nI n), .int (nI e), .ref q] G Post := by
  refine zM_of pnJ6 rfl (Nat.le_of_ble_eq_true rfl) rfl ?_
  have key : ∀ (r : Nat) (n1 p : Nat) (G1 : zH) (f9 : Nat → Int32) (suf : List Nat), n1 < r → zGc G1 q m f f9 n n1 e p suf → (∀ a, a ≠ q → G1 a = G a) → zX Γ mJ6_getChars_ba4f3 (d) 0 0 22 [some (.int (-(nI n1))), some (.int (nI e)), some (.ref q), none, none, some (.int (nI p)), some (.int 0)] [] G1 0 0 (zlift Post) := by
    intro r
    induction r with
    | zero =>
      intro n1 p G1 f9 suf hi1 hc hfr
      exact absurd hi1 (by omega)
    | succ r ih =>
      intro n1 p G1 f9 suf hi1 hc hfr
      have hn0 := hc.2.2.2.2.2.2.2.2
      have hpe := hc.2.2.2.1
      have hlp := hc.2.2.2.2.1
      have hps := zdg_pos n1
      have hA := hc.1
      refine z_iload_n dJ6_getChars_ba4f3_22 rfl ?_
      refine z_bipush (v := (-100)) dJ6_getChars_ba4f3_23 (by decide) ?_
      refine z_icmp_gt (tgt := 72) dJ6_getChars_ba4f3_25 (by decide) (fun c1 => ?_) (fun c1 => ?_)
      · have h100 : ¬ 100 ≤ n1 := fun z => by
          have := (zneg_lt (a := 100) (b := n1) (by decide) (by omega)).mp (show -(nI 100) < -(nI n1) from c1)
          omega
        refine z_aload_n dJ6_getChars_ba4f3_72 rfl ?_
        refine z_iinc dJ6_getChars_ba4f3_73 rfl rfl (by decide) rfl ?_
        rw [show nI p + Int32.ofInt (-1) = nI (p - 1) by rw [zdec1]; exact pk_sub (b := 1) (by omega)]
        refine z_iload dJ6_getChars_ba4f3_76 rfl ?_
        refine z_gets dJ6_getChars_ba4f3_78 wJ6_83 zkDO ?_
        refine z_iload_n dJ6_getChars_ba4f3_81 rfl ?_
        refine z_ineg dJ6_getChars_ba4f3_82 ?_
        rw [znegneg]
        refine z_dones dJ6_getChars_ba4f3_83 (vp_in_nI (show n1 < 100 by omega) (by decide)) ?_
        rw [nI_clamp (show n1 < 2147483648 by omega), zones]
        refine z_bast dJ6_getChars_ba4f3_84 hA (vp_in_nI (show p - 1 < m by omega) (by omega)) ?_
        rw [nI_clamp (show p - 1 < 2147483648 by omega), (znarB (48 + n1 % 10) (by omega)).1]
        refine z_iload_n dJ6_getChars_ba4f3_85 rfl ?_
        refine z_bipush (v := (-9)) dJ6_getChars_ba4f3_86 (by decide) ?_
        refine z_icmp_ge (tgt := 104) dJ6_getChars_ba4f3_88 (by decide) (fun c2 => ?_) (fun c2 => ?_)
        · have h9 : n1 ≤ 9 := Nat.le_of_not_lt fun z => by
            have := (zneg_le (a := 9) (b := n1) (by decide) (by omega)).mp (show -(nI 9) ≤ -(nI n1) from c2)
            omega
          refine z_iload dJ6_getChars_ba4f3_104 rfl ?_
          refine z_if_eq (tgt := 118) dJ6_getChars_ba4f3_106 (by decide) (fun c3 => ?_) (fun c3 => ?_)
          · refine z_iload dJ6_getChars_ba4f3_118 rfl ?_
            exact z_ireturn (mi := mJ6_getChars_ba4f3) dJ6_getChars_ba4f3_120 rfl rfl (Nat.le_refl _) (Nat.le_refl _) (hP _ _ (hc.end1 h9 hfr) _)
          · exact absurd rfl c3
        · have h9 : ¬ n1 ≤ 9 := fun z => c2 (show -(nI 9) ≤ -(nI n1) from (zneg_le (by decide) (by omega)).mpr z)
          have hl1 : (zdg n1).length = 2 := by rw [zdg_2 h9, zdg_1 (by omega)]; rfl
          refine z_aload_n dJ6_getChars_ba4f3_91 rfl ?_
          refine z_iinc dJ6_getChars_ba4f3_92 rfl rfl (by decide) rfl ?_
          rw [show nI (p - 1) + Int32.ofInt (-1) = nI (p - 2) by rw [zdec1]; exact pk_sub (b := 1) (by omega)]
          refine z_iload dJ6_getChars_ba4f3_95 rfl ?_
          refine z_gets dJ6_getChars_ba4f3_97 wJ6_87 zkDT ?_
          refine z_iload_n dJ6_getChars_ba4f3_100 rfl ?_
          refine z_ineg dJ6_getChars_ba4f3_101 ?_
          rw [znegneg]
          refine z_dtens dJ6_getChars_ba4f3_102 (vp_in_nI (show n1 < 100 by omega) (by decide)) ?_
          rw [nI_clamp (show n1 < 2147483648 by omega), ztens]
          refine z_bast dJ6_getChars_ba4f3_103 (zset_s _ _ _) (vp_in_nI (show p - 2 < m by omega) (by omega)) ?_
          rw [nI_clamp (show p - 2 < 2147483648 by omega), (znarB (48 + n1 / 10) (by omega)).1]
          refine z_iload dJ6_getChars_ba4f3_104 rfl ?_
          refine z_if_eq (tgt := 118) dJ6_getChars_ba4f3_106 (by decide) (fun c4 => ?_) (fun c4 => ?_)
          · refine z_iload dJ6_getChars_ba4f3_118 rfl ?_
            exact z_ireturn (mi := mJ6_getChars_ba4f3) dJ6_getChars_ba4f3_120 rfl rfl (Nat.le_refl _) (Nat.le_refl _) (hP _ _ (hc.end2 h9 (by omega) hfr) _)
          · exact absurd rfl c4
      · have h100 : 100 ≤ n1 := Nat.le_of_not_lt fun z => c1 (show -(nI 100) < -(nI n1) from (zneg_lt (by decide) (by omega)).mpr z)
        have hl2 : (zdg n1).length = (zdg (n1 / 100)).length + 2 := by rw [zdg_3 h100, List.length_append]; rfl
        have hps2 := zdg_pos (n1 / 100)
        refine z_iload_n dJ6_getChars_ba4f3_28 rfl ?_
        refine z_bipush (v := 100) dJ6_getChars_ba4f3_29 (by decide) ?_
        refine z_idiv dJ6_getChars_ba4f3_31 (by decide) ?_
        rw [znegdiv (by omega)]
        refine z_istore_n dJ6_getChars_ba4f3_32 (by decide) rfl ?_
        refine z_iload_n dJ6_getChars_ba4f3_33 rfl ?_
        refine z_bipush (v := 100) dJ6_getChars_ba4f3_34 (by decide) ?_
        refine z_imul dJ6_getChars_ba4f3_36 ?_
        refine z_iload_n dJ6_getChars_ba4f3_37 rfl ?_
        refine z_isub dJ6_getChars_ba4f3_38 ?_
        rw [znegrem (by omega)]
        refine z_istore dJ6_getChars_ba4f3_39 (by decide) rfl ?_
        refine z_iload_n dJ6_getChars_ba4f3_41 rfl ?_
        refine z_istore_n dJ6_getChars_ba4f3_42 (by decide) rfl ?_
        refine z_aload_n dJ6_getChars_ba4f3_43 rfl ?_
        refine z_iinc dJ6_getChars_ba4f3_44 rfl rfl (by decide) rfl ?_
        rw [show nI p + Int32.ofInt (-1) = nI (p - 1) by rw [zdec1]; exact pk_sub (b := 1) (by omega)]
        refine z_iload dJ6_getChars_ba4f3_47 rfl ?_
        refine z_gets dJ6_getChars_ba4f3_49 wJ6_83 zkDO ?_
        refine z_iload dJ6_getChars_ba4f3_52 rfl ?_
        refine z_dones dJ6_getChars_ba4f3_54 (vp_in_nI (show n1 % 100 < 100 by omega) (by decide)) ?_
        rw [nI_clamp (show n1 % 100 < 2147483648 by omega), zones]
        refine z_bast dJ6_getChars_ba4f3_55 hA (vp_in_nI (show p - 1 < m by omega) (by omega)) ?_
        rw [nI_clamp (show p - 1 < 2147483648 by omega), (znarB (48 + n1 % 100 % 10) (by omega)).1]
        refine z_aload_n dJ6_getChars_ba4f3_56 rfl ?_
        refine z_iinc dJ6_getChars_ba4f3_57 rfl rfl (by decide) rfl ?_
        rw [show nI (p - 1) + Int32.ofInt (-1) = nI (p - 2) by rw [zdec1]; exact pk_sub (b := 1) (by omega)]
        refine z_iload dJ6_getChars_ba4f3_60 rfl ?_
        refine z_gets dJ6_getChars_ba4f3_62 wJ6_87 zkDT ?_
        refine z_iload dJ6_getChars_ba4f3_65 rfl ?_
        refine z_dtens dJ6_getChars_ba4f3_67 (vp_in_nI (show n1 % 100 < 100 by omega) (by decide)) ?_
        rw [nI_clamp (show n1 % 100 < 2147483648 by omega), ztens]
        refine z_bast dJ6_getChars_ba4f3_68 (zset_s _ _ _) (vp_in_nI (show p - 2 < m by omega) (by omega)) ?_
        rw [nI_clamp (show p - 2 < 2147483648 by omega), (znarB (48 + n1 % 100 / 10) (by omega)).1]
        refine z_goto (tgt := 22) dJ6_getChars_ba4f3_69 (by decide) ?_
        exact z_sub (lv' := [some (.int (-(nI (n1 / 100)))), some (.int (nI e)), some (.ref q), none, none, some (.int (nI (p - 2))), some (.int 0)]) ⟨rfl, rfl, rfl, rfl, rfl, trivial⟩ (ih (n1 / 100) (p - 2) _ _ _ (by omega) (hc.two h100) (fun a ha => (zset_n ha).trans ((zset_n ha).trans (hfr a ha))))
  refine z_iload_n dJ6_getChars_ba4f3_0 rfl ?_
  refine z_istore dJ6_getChars_ba4f3_1 (by decide) rfl ?_
  refine z_iload_n dJ6_getChars_ba4f3_3 rfl ?_
  refine z_if_ge (tgt := 11) dJ6_getChars_ba4f3_4 (by decide) (fun c1 => ?_) (fun c1 => ?_)
  · have h00 : True := trivial
    refine z_iconst (v := 0) dJ6_getChars_ba4f3_11 (by decide) ?_
    refine z_istore dJ6_getChars_ba4f3_12 (by decide) rfl ?_
    refine z_iload dJ6_getChars_ba4f3_14 rfl ?_
    refine z_if_ne (tgt := 22) dJ6_getChars_ba4f3_16 (by decide) (fun c2 => ?_) (fun c2 => ?_)
    · exact absurd rfl c2
    · refine z_iload_n dJ6_getChars_ba4f3_19 rfl ?_
      refine z_ineg dJ6_getChars_ba4f3_20 ?_
      refine z_istore_n dJ6_getChars_ba4f3_21 (by decide) rfl ?_
      exact z_sub (lv' := [some (.int (-(nI n))), some (.int (nI e)), some (.ref q), none, none, some (.int (nI e)), some (.int 0)]) ⟨rfl, rfl, rfl, rfl, rfl, trivial⟩ (key (n + 1) n e G f [] (by omega) ⟨hA0, by rw [List.append_nil], by rw [Nat.sub_self]; rfl, Nat.le_refl e, hle, fun _ _ => rfl, fun i hi => absurd hi (Nat.not_lt_zero i), hf0, Nat.le_refl n⟩ (fun _ _ => rfl))
  · exact absurd ((nI_leI (by decide) (by omega)).mpr (Nat.zero_le n)) c1
set_option maxHeartbeats 4000000 in
set_option maxRecDepth 10000 in
theorem sJ5_append_c97b9 {Γ : zG} {d : Nat} {G : zH} {Post : zV} {b q m ct : Nat} {f : Nat → Int32} {ml : Int32} (hB : zBu G b q m f ml ct) {n : Nat} (hn : n < 10000000) (h9 : ct + (zdg n).length ≤ 90) (hP : ∀ G1 q1 m1 f1, zBu G1 b q1 m1 f1 ml (ct + (zdg n).length) → (∀ i, i < ct → f1 i = f i) → (∀ i, i < (zdg n).length → f1 (ct + i) = nI ((zdg n).getD i 0)) → zQn G q q1 → zFB G G1 b q → Post (some (.ref b)) G1) : zM Γ (d + 3) mJ5_append_c97b9 1 200 [.ref b, .int (nI n)] G Post := by
  refine zM_of pnJ5 rfl (Nat.le_of_ble_eq_true rfl) rfl ?_
  have hct := hB.2.2.2.2.2
  refine z_aload_n dJ5_append_c97b9_0 rfl ?_
  refine z_get dJ5_append_c97b9_1 fJ5_79.r (hB.1) rfl ?_
  refine z_istore_n dJ5_append_c97b9_4 (by decide) rfl ?_
  refine z_iload_n dJ5_append_c97b9_5 rfl ?_
  refine z_iload_n dJ5_append_c97b9_6 rfl ?_
  refine z_S1 (mi' := mJ6_stringSize_0f7a4) dJ5_append_c97b9_7 lJ5_245 nJ6_stringSize_0f7a4 kJ6_stringSize_0f7a4 (by decide) (Nat.le_of_ble_eq_true rfl) (by omega) (by omega) ?_
  refine sJ6_stringSize_0f7a4 hn ?_
  refine z_iadd dJ5_append_c97b9_10 ?_
  rw [nI_add]
  refine z_istore_n dJ5_append_c97b9_11 (by decide) rfl ?_
  refine z_aload_n dJ5_append_c97b9_12 rfl ?_
  refine z_iload_n dJ5_append_c97b9_13 rfl ?_
  refine z_VU1 (mi' := mJ5_ensureCapacityInternal_d00df) (mc' := 1) (ms' := 200) dJ5_append_c97b9_14 uJ5_100 nJ5_ensureCapacityInternal_d00df kJ5_ensureCapacityInternal_d00df (by decide) (Nat.le_of_ble_eq_true rfl) (by omega) (by omega) (hB.1) ?_
  refine sJ5_ensureCapacityInternal_d00df hB (mn := ct + (zdg n).length) (by omega) (fun G1 q1 m1 f1 hB hmn hcp hmm hqn hQ => ?_)
  refine z_aload_n dJ5_append_c97b9_17 rfl ?_
  refine z_VU0 (mi' := mJ5_isLatin1_aae02) (mc' := 0) (ms' := 0) dJ5_append_c97b9_18 uJ5_83 nJ5_isLatin1_aae02 kJ5_isLatin1_aae02 (by decide) (Nat.le_of_ble_eq_true rfl) (by omega) (by omega) (hB.1) ?_
  refine sJ5_isLatin1_aae02 hB ?_
  refine z_if_eq (tgt := 37) dJ5_append_c97b9_21 (by decide) (fun c1 => ?_) (fun c1 => ?_)
  · exact absurd c1 zi10
  · refine z_iload_n dJ5_append_c97b9_24 rfl ?_
    refine z_iload_n dJ5_append_c97b9_25 rfl ?_
    refine z_aload_n dJ5_append_c97b9_26 rfl ?_
    refine z_get dJ5_append_c97b9_27 fJ5_15.r (hB.1) rfl ?_
    refine z_S3 (mi' := mJ6_getChars_ba4f3) dJ5_append_c97b9_30 lJ5_248 nJ6_getChars_ba4f3 kJ6_getChars_ba4f3 (by decide) (Nat.le_of_ble_eq_true rfl) (by omega) (by omega) ?_
    refine sJ6_getChars_ba4f3 hB.2.1 hB.2.2.2.2.1 hn (by omega) hmn hB.2.2.2.1 (fun G2 f9 hd9 v => ?_)
    replace hB : zBu G2 b q1 m1 f9 ml ct := ⟨(hd9.2.2.2.2 b hB.2.2.1).trans hB.1, hd9.1, hB.2.2.1, hB.2.2.2.1, hd9.2.2.2.1, hB.2.2.2.2.2⟩
    have hQ := hQ.tr hqn (fun a _ h2 _ => hd9.2.2.2.2 a h2)
    refine z_pop dJ5_append_c97b9_33 rfl ?_
    refine z_goto (tgt := 48) dJ5_append_c97b9_34 (by decide) ?_
    refine z_aload_n dJ5_append_c97b9_48 rfl ?_
    refine z_iload_n dJ5_append_c97b9_49 rfl ?_
    refine z_put dJ5_append_c97b9_50 fJ5_79 (hB.1) rfl rfl (Nat.le_of_ble_eq_true rfl) ?_
    refine z_bset hB (ml' := ml) (ct' := ct + (zdg n).length) (by omega) rfl (fun G3 hB hF => ?_)
    have hQ := hQ.tr hqn hF
    refine z_aload_n dJ5_append_c97b9_53 rfl ?_
    exact z_areturn (mi := mJ5_append_c97b9) dJ5_append_c97b9_54 rfl (Or.inl ⟨_, rfl⟩) (Or.inr ⟨_, rfl⟩) (by omega) (by omega) (hP _ q1 m1 _ hB (fun i hi => (hd9.2.1 i (Or.inl (by omega))).trans (hcp i (by omega))) (fun i hi => by have h := hd9.2.2.1 i hi; rw [show ct + (zdg n).length - (zdg n).length + i = ct + i by omega] at h; exact h) hqn hQ)
set_option maxHeartbeats 4000000 in
set_option maxRecDepth 10000 in
theorem sJ4_append_bf812 {Γ : zG} {d : Nat} {G : zH} {Post : zV} {b q m ct : Nat} {f : Nat → Int32} {ml : Int32} (hB : zBu G b q m f ml ct) {n : Nat} (hn : n < 10000000) (h9 : ct + (zdg n).length ≤ 90) (hP : ∀ G1 q1 m1 f1, zBu G1 b q1 m1 f1 ml (ct + (zdg n).length) → (∀ i, i < ct → f1 i = f i) → (∀ i, i < (zdg n).length → f1 (ct + i) = nI ((zdg n).getD i 0)) → zQn G q q1 → zFB G G1 b q → Post (some (.ref b)) G1) : zM Γ (d + 4) mJ4_append_bf812 1 200 [.ref b, .int (nI n)] G Post := by
  refine zM_of pnJ4 rfl (Nat.le_of_ble_eq_true rfl) rfl ?_
  refine z_aload_n dJ4_append_bf812_0 rfl ?_
  refine z_iload_n dJ4_append_bf812_1 rfl ?_
  refine z_SU1 (mi' := mJ5_append_c97b9) (mc' := 1) (ms' := 200) dJ4_append_bf812_2 uJ4_53 nJ5_append_c97b9 kJ5_append_c97b9 (by decide) (Nat.le_of_ble_eq_true rfl) (by omega) (by omega) (hB.1) ?_
  refine sJ5_append_c97b9 hB hn h9 (fun G1 q1 m1 f1 hB1 g1 g2 g3 g4 => ?_)
  refine z_pop dJ4_append_bf812_5 rfl ?_
  refine z_aload_n dJ4_append_bf812_6 rfl ?_
  exact z_areturn (mi := mJ4_append_bf812) dJ4_append_bf812_7 rfl (Or.inl ⟨_, rfl⟩) (Or.inr ⟨_, rfl⟩) (by omega) (by omega) (hP _ q1 m1 _ hB1 g1 g2 g3 g4)
