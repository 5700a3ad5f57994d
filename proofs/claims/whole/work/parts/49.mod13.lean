/-! ===== the line, in plain words ===== -/
def zdg (n : Nat) : List Nat := if h : n ≤ 9 then [48 + n] else zdg (n / 10) ++ [48 + n % 10]
termination_by n
decreasing_by omega
theorem zdg_1 {n : Nat} (h : n ≤ 9) : zdg n = [48 + n] := by rw [zdg, dif_pos h]
theorem zdg_2 {n : Nat} (h : ¬ n ≤ 9) : zdg n = zdg (n / 10) ++ [48 + n % 10] := by rw [zdg, dif_neg h]
theorem zdg_len : ∀ (k n : Nat), n < 10 ^ (k + 1) → (zdg n).length ≤ k + 1
  | 0, n, h => by rw [zdg_1 (by omega)]; simp
  | k + 1, n, h => by
    by_cases e : n ≤ 9
    · rw [zdg_1 e]; simp
    · rw [zdg_2 e, List.length_append]
      have h1 : 10 ^ (k + 1 + 1) = 10 ^ (k + 1) * 10 := Nat.pow_succ ..
      have := zdg_len k (n / 10) (by omega)
      simp only [List.length_cons, List.length_nil]
      omega
theorem zdg_c : ∀ (k n : Nat), n < 10 ^ (k + 1) → ∀ c, c ∈ zdg n → c < 128
  | 0, n, h, c, hc => by
    rw [zdg_1 (by omega), List.mem_singleton] at hc
    omega
  | k + 1, n, h, c, hc => by
    by_cases e : n ≤ 9
    · rw [zdg_1 e, List.mem_singleton] at hc
      omega
    · rw [zdg_2 e, List.mem_append, List.mem_singleton] at hc
      have h1 : 10 ^ (k + 1 + 1) = 10 ^ (k + 1) * 10 := Nat.pow_succ ..
      rcases hc with hc | hc
      · exact zdg_c k (n / 10) (by omega) c hc
      · omega
def znat (x : Int32) : Nat := x.toInt.toNat
theorem znat_e {x : Int32} {a b : Int} (h : zBet x a b) (ha : 0 ≤ a) : x = nI (znat x) := by
  unfold zBet at h
  have h2 := Int32.toInt_lt x
  have en := nI_toInt (show x.toInt.toNat < 2147483648 by omega)
  refine zeqI.mpr ?_
  show x.toInt = (nI x.toInt.toNat).toInt
  omega
theorem znat_lt {x : Int32} {a b : Int} {n : Nat} (h : zBet x a b) (ha : 0 ≤ a) (hb : b < n) : znat x < n := by
  unfold zBet at h
  unfold znat
  omega
def zlnE (σ : zSt) (s f : Nat) : List Nat := [32] ++ zdg (znat (σ 10 (12 * s + f))) ++ [61] ++ zdg (znat (σ 4 f))
def zln (σ : zSt) (s : Nat) : Nat → List Nat
  | 0 => zdg s ++ [58]
  | i + 1 => zln σ s i ++ zlnE σ s (zff (zatP σ s (nI i)) 12)
def zTx (μ : zSt) (tx : List Nat) : Prop := μ 0 16 = nI tx.length ∧ (∀ i, i < tx.length → μ 6 i = nI (tx.getD i 0)) ∧ (∀ c, c ∈ tx → c < 128)
/-- only the line has changed -/
def zWr (μ ν : zSt) (tx : List Nat) : Prop := (∀ r, r ≠ 6 → r ≠ 0 → ν r = μ r) ∧ (∀ j, j ≠ 16 → ν 0 j = μ 0 j) ∧ zTx ν tx
theorem zWr.tr {μ ν ξ : zSt} {t u : List Nat} (h : zWr μ ν t) (h2 : zWr ν ξ u) : zWr μ ξ u := ⟨fun r a b => (h2.1 r a b).trans (h.1 r a b), fun j a => (h2.2.1 j a).trans (h.2.1 j a), h2.2.2⟩
theorem zTx.put {μ : zSt} {tx : List Nat} {c : Nat} (h : zTx μ tx) (hc : c < 128) : zWr μ (zu (zu μ 6 tx.length (nI c)) 0 16 (nI (tx.length + 1))) (tx ++ [c]) := by
  refine ⟨fun r h6 h0 => by rw [zu_r h0, zu_r h6], fun j hj => by rw [zu_j hj, zu_r (show (0 : Nat) ≠ 6 by decide)], ?_, fun i hi => ?_, fun c' hc' => ?_⟩
  · rw [zu_s, List.length_append]; rfl
  · rw [List.length_append, List.length_cons, List.length_nil] at hi
    rw [zu_r (show (6 : Nat) ≠ 0 by decide)]
    by_cases e : i = tx.length
    · rw [e, zu_s]
      simp [List.getD]
    · rw [zu_j e, h.2.1 i (by omega)]
      simp [List.getD, List.getElem?_append_left (show i < tx.length by omega)]
  · rw [List.mem_append, List.mem_singleton] at hc'
    rcases hc' with q | q
    · exact h.2.2 c' q
    · omega
theorem zi2c : ∀ c, c < 128 → ((nI c).toUInt32 % 65536).toInt32 = nI c := by decide
theorem znarc : ∀ c, c < 128 → vp_nar .char (nI c) = nI c := by decide
theorem znarR : ∀ c, c < 128 → narrow FieldType.char (.int (nI c)) = .int (nI c) := by decide
theorem zdiv10 {n : Nat} (h : n < 2147483648) : nI n / 10 = nI (n / 10) := by
  have e1 := nI_toInt h
  have e2 := nI_toInt (show n / 10 < 2147483648 by omega)
  refine zeqI.mpr ?_
  rw [Int32.toInt_div, e1, e2, show (10 : Int32).toInt = 10 by decide, Int.tdiv_eq_ediv_of_nonneg (by omega)]
  exact (Int.bmod_eq_of_le (by omega) (by omega)).trans (by omega)
theorem zrem10 {n : Nat} (h : n < 2147483648) : (48 : Int32) + (nI n - nI n / 10 * 10) = nI (48 + n % 10) := by
  have e1 := nI_toInt h
  have e2 := nI_toInt (show n / 10 * 10 < 2147483648 by omega)
  have e3 := nI_toInt (show n % 10 < 2147483648 by omega)
  rw [zdiv10 h, show (10 : Int32) = nI 10 from rfl, Int32.mul_comm, pk_mul, Nat.mul_comm 10, show nI n - nI (n / 10 * 10) = nI (n % 10) from zeqI.mpr (by rw [zsubI (by omega)]; omega), show (48 : Int32) = nI 48 from rfl, nI_add]
set_option maxHeartbeats 4000000 in
set_option maxRecDepth 10000 in
theorem sX11_writes {Γ : zG} {d : Nat} {G : zH} {Post : zV} {am : Nat → Nat} {μ : zSt} (hM : zMod G am μ) {tx : List Nat} {c : Nat} (hT : zTx μ tx) (h80 : tx.length < 80) (hc : c < 128) (hP : ∀ G1 ν, zMod G1 am ν → zFrm G G1 am 8 → zWr μ ν (tx ++ [c]) → Post none G1) : zM Γ d mX11_writes 0 0 [.ref (am 0), .int (nI c)] G Post := by
  refine zM_of pnX11 rfl (Nat.le_of_ble_eq_true rfl) rfl ?_
  have hQ : zFrm G G am 8 := zFrm.rf
  refine z_aload_n dX11_writes_0 rfl ?_
  refine z_get dX11_writes_1 fX11_29.r (hM.1 _ (by decide)) rfl ?_
  refine z_aload_n dX11_writes_4 rfl ?_
  refine z_get dX11_writes_5 fX11_223.r (hM.1 _ (by decide)) rfl ?_
  refine z_iload_n dX11_writes_8 rfl ?_
  refine z_i2c dX11_writes_9 ?_
  rw [hT.1, zi2c c hc]
  refine z_cast dX11_writes_10 (hM.1 6 (by decide)) (vp_in_nI (show tx.length < 80 by omega) (by decide)) ?_
  rw [nI_clamp (show tx.length < 2147483648 by omega)]
  refine z_mset hM 6 tx.length (nI c) (by decide) (by simp only [zmE, zu_row, znarc c hc]) (fun _ hM hF => ?_)
  have hQ := hQ.tr hF
  refine z_aload_n dX11_writes_11 rfl ?_
  refine z_dup dX11_writes_12 rfl ?_
  refine z_get dX11_writes_13 fX11_223.r (hM.1 _ (by decide)) rfl ?_
  refine z_iconst (v := 1) dX11_writes_16 (by decide) ?_
  rw [show zu μ 6 tx.length (nI c) 0 16 = nI tx.length from hT.1]
  refine z_iadd dX11_writes_17 ?_
  rw [nI_1]
  refine z_put dX11_writes_18 fX11_223 (hM.1 _ (by decide)) rfl rfl (Nat.le_of_ble_eq_true rfl) ?_
  refine z_mset hM 0 16 (nI (tx.length + 1)) (by decide) rfl (fun _ hM hF => ?_)
  have hQ := hQ.tr hF
  exact z_vreturn (mi := mX11_writes) dX11_writes_21 rfl (Nat.le_refl _) (Nat.le_refl _) (hP _ _ hM hQ (hT.put hc))
set_option maxHeartbeats 4000000 in
set_option maxRecDepth 10000 in
theorem sX11_writesNumber {Γ : zG} {am : Nat → Nat} : ∀ (K9 k : Nat), k ≤ K9 → ∀ (n : Nat), n < 10 ^ (k + 1) → n < 2147483648 → ∀ {d : Nat} {G : zH} {Post : zV} {μ : zSt} {tx : List Nat}, zTx μ tx → tx.length + (k + 1) ≤ 80 → zMod G am μ → (∀ G1 ν, zMod G1 am ν → zFrm G G1 am 8 → zWr μ ν (tx ++ zdg n) → Post none G1) → zM Γ (d + k + 1) mX11_writesNumber 0 0 [.ref (am 0), .int (nI n)] G Post := by
  intro K9
  induction K9 with
  | zero =>
    intro k hk0 n hk hn9 d G Post μ tx hT h80 hM hP
    obtain rfl : k = 0 := by omega
    refine zM_of pnX11 rfl (Nat.le_of_ble_eq_true rfl) rfl ?_
    refine z_iload_n dX11_writesNumber_0 rfl ?_
    refine z_bipush (v := 9) dX11_writesNumber_1 (by decide) ?_
    refine z_icmp_le (tgt := 14) dX11_writesNumber_3 (by decide) (fun c1 => ?_) (fun c1 => ?_)
    · have h9 : n ≤ 9 := (nI_leI hn9 (by decide)).mp (show nI n ≤ nI 9 from c1)
      obtain ⟨ν, hν⟩ : ∃ ν, ν = μ := ⟨_, rfl⟩
      rw [← hν] at hM
      have hW : zWr μ ν tx := by rw [hν]; exact ⟨fun _ _ _ => rfl, fun _ _ => rfl, hT⟩
      have hl9 : tx.length < 80 := by omega
      have hQ : zFrm G G am 8 := zFrm.rf
      have hx9 : tx ++ [48 + n % 10] = tx ++ zdg n := by rw [zdg_1 h9, Nat.mod_eq_of_lt (by omega)]
      refine z_aload_n dX11_writesNumber_14 rfl ?_
      refine z_bipush (v := 48) dX11_writesNumber_15 (by decide) ?_
      refine z_iload_n dX11_writesNumber_17 rfl ?_
      refine z_bipush (v := 10) dX11_writesNumber_18 (by decide) ?_
      refine z_irem dX11_writesNumber_20 (by decide) ?_
      refine z_iadd dX11_writesNumber_21 ?_
      refine z_V1 (mi' := mX11_writes) dX11_writesNumber_22 lX11_230 nX11_writes kX11_writes (by decide) (Nat.le_of_ble_eq_true rfl) (Nat.zero_le _) (Nat.zero_le _) (hM.1 _ (by decide)) rfl rfl ?_
      rw [zrem10 hn9]
      refine sX11_writes hM hW.2.2 hl9 (c := 48 + n % 10) (by omega) (fun G2 ν2 hM hF hW2 => ?_)
      have hQ := hQ.tr hF
      exact z_vreturn (mi := mX11_writesNumber) dX11_writesNumber_25 rfl (Nat.zero_le _) (Nat.zero_le _) (hP _ _ hM hQ (by rw [hx9] at hW2; exact hW.tr hW2))
    · exact absurd (show nI n ≤ nI 9 from (nI_leI hn9 (by decide)).mpr (by omega)) c1
  | succ K9 ih =>
    intro k hk0 n hk hn9 d G Post μ tx hT h80 hM hP
    refine zM_of pnX11 rfl (Nat.le_of_ble_eq_true rfl) rfl ?_
    refine z_iload_n dX11_writesNumber_0 rfl ?_
    refine z_bipush (v := 9) dX11_writesNumber_1 (by decide) ?_
    refine z_icmp_le (tgt := 14) dX11_writesNumber_3 (by decide) (fun c1 => ?_) (fun c1 => ?_)
    · have h9 : n ≤ 9 := (nI_leI hn9 (by decide)).mp (show nI n ≤ nI 9 from c1)
      obtain ⟨ν, hν⟩ : ∃ ν, ν = μ := ⟨_, rfl⟩
      rw [← hν] at hM
      have hW : zWr μ ν tx := by rw [hν]; exact ⟨fun _ _ _ => rfl, fun _ _ => rfl, hT⟩
      have hl9 : tx.length < 80 := by omega
      have hQ : zFrm G G am 8 := zFrm.rf
      have hx9 : tx ++ [48 + n % 10] = tx ++ zdg n := by rw [zdg_1 h9, Nat.mod_eq_of_lt (by omega)]
      refine z_aload_n dX11_writesNumber_14 rfl ?_
      refine z_bipush (v := 48) dX11_writesNumber_15 (by decide) ?_
      refine z_iload_n dX11_writesNumber_17 rfl ?_
      refine z_bipush (v := 10) dX11_writesNumber_18 (by decide) ?_
      refine z_irem dX11_writesNumber_20 (by decide) ?_
      refine z_iadd dX11_writesNumber_21 ?_
      refine z_V1 (mi' := mX11_writes) dX11_writesNumber_22 lX11_230 nX11_writes kX11_writes (by decide) (Nat.le_of_ble_eq_true rfl) (Nat.zero_le _) (Nat.zero_le _) (hM.1 _ (by decide)) rfl rfl ?_
      rw [zrem10 hn9]
      refine sX11_writes hM hW.2.2 hl9 (c := 48 + n % 10) (by omega) (fun G2 ν2 hM hF hW2 => ?_)
      have hQ := hQ.tr hF
      exact z_vreturn (mi := mX11_writesNumber) dX11_writesNumber_25 rfl (Nat.zero_le _) (Nat.zero_le _) (hP _ _ hM hQ (by rw [hx9] at hW2; exact hW.tr hW2))
    · have h9 : ¬ n ≤ 9 := fun q => c1 (show nI n ≤ nI 9 from (nI_leI hn9 (by decide)).mpr q)
      obtain ⟨k, rfl⟩ : ∃ k9, k = k9 + 1 := ⟨k - 1, by
        have : k ≠ 0 := fun q => by rw [q] at hk; omega
        omega⟩
      have h1 : 10 ^ (k + 1 + 1) = 10 ^ (k + 1) * 10 := Nat.pow_succ ..
      have hlz := zdg_len k (n / 10) (by omega)
      refine z_aload_n dX11_writesNumber_6 rfl ?_
      refine z_iload_n dX11_writesNumber_7 rfl ?_
      refine z_bipush (v := 10) dX11_writesNumber_8 (by decide) ?_
      refine z_idiv dX11_writesNumber_10 (by decide) ?_
      refine z_V1 (mi' := mX11_writesNumber) dX11_writesNumber_11 lX11_226 nX11_writesNumber kX11_writesNumber (by decide) (Nat.le_of_ble_eq_true rfl) (Nat.zero_le _) (Nat.zero_le _) (hM.1 _ (by decide)) rfl rfl ?_
      rw [zdiv10 hn9]
      refine ih k (by omega) (n / 10) (by omega) (by omega) hT (by omega) hM (fun G1 ν hM hQ hW => ?_)
      have hx9 : tx ++ zdg (n / 10) ++ [48 + n % 10] = tx ++ zdg n := by rw [zdg_2 h9, List.append_assoc]
      have hl9 : (tx ++ zdg (n / 10)).length < 80 := by rw [List.length_append]; omega
      refine z_aload_n dX11_writesNumber_14 rfl ?_
      refine z_bipush (v := 48) dX11_writesNumber_15 (by decide) ?_
      refine z_iload_n dX11_writesNumber_17 rfl ?_
      refine z_bipush (v := 10) dX11_writesNumber_18 (by decide) ?_
      refine z_irem dX11_writesNumber_20 (by decide) ?_
      refine z_iadd dX11_writesNumber_21 ?_
      refine z_V1 (mi' := mX11_writes) dX11_writesNumber_22 lX11_230 nX11_writes kX11_writes (by decide) (Nat.le_of_ble_eq_true rfl) (Nat.zero_le _) (Nat.zero_le _) (hM.1 _ (by decide)) rfl rfl ?_
      rw [zrem10 hn9]
      refine sX11_writes hM hW.2.2 hl9 (c := 48 + n % 10) (by omega) (fun G2 ν2 hM hF hW2 => ?_)
      have hQ := hQ.tr hF
      exact z_vreturn (mi := mX11_writesNumber) dX11_writesNumber_25 rfl (Nat.zero_le _) (Nat.zero_le _) (hP _ _ hM hQ (by rw [hx9] at hW2; exact hW.tr hW2))
theorem sX11_wN {Γ : zG} {am : Nat → Nat} (k : Nat) {n : Nat} {x : Int32} (hx : x = nI n) (hk : n < 10 ^ (k + 1)) (hn : n < 2147483648) {d : Nat} {G : zH} {Post : zV} {μ : zSt} {tx : List Nat} (hT : zTx μ tx) (h80 : tx.length + (k + 1) ≤ 80) (hM : zMod G am μ) (hP : ∀ G1 ν, zMod G1 am ν → zFrm G G1 am 8 → zWr μ ν (tx ++ zdg n) → Post none G1) : zM Γ (d + k + 1) mX11_writesNumber 0 0 [.ref (am 0), .int x] G Post := by
  rw [hx]
  exact sX11_writesNumber k k (Nat.le_refl k) n hk hn hT h80 hM hP
theorem zdg_pos (n : Nat) : 1 ≤ (zdg n).length := by
  by_cases h : n ≤ 9
  · rw [zdg_1 h]; simp
  · rw [zdg_2 h, List.length_append]; simp
theorem zln_len {σ : zSt} {s : Nat} (hs : s ≤ 9) (h1 : ∀ i, i < 6 → znat (σ 10 (12 * s + zff (zatP σ s (nI i)) 12)) < 100 ∧ znat (σ 4 (zff (zatP σ s (nI i)) 12)) < 10000000) : True := trivial
set_option maxHeartbeats 4000000 in
set_option maxRecDepth 10000 in
theorem sX11_line {Γ : zG} {d : Nat} {G : zH} {Post : zV} {am : Nat → Nat} {μ : zSt} (hM : zMod G am μ) {σ : zSt} {S F E K : Nat} {mm : Nat → Nat} {fl : Nat → Nat → Nat} (hL : zRel σ S F E K (μ 1) mm fl) {Y : Int} (hB : zBnd σ S F E K Y) (hD : zDis σ S F) (hY : Y ≤ 9999999) {x : Int32} (hO : ∀ s, s < S → x = nI s → ∀ G1 ν, zMod G1 am ν → zFrm G G1 am 8 → zWr (zu μ 0 7 0) ν (zln σ s (mm s)) → Post (some (.int (nI (zln σ s (mm s)).length))) G1) (hE : ¬ (0 ≤ x ∧ x < σ 13 1) → ∀ G1, zMod G1 am (zu μ 0 7 1) → zFrm G G1 am 8 → Post (some (.int 0)) G1) : zM Γ (d + 8) mX11_line 0 0 [.ref (am 0), .int x] G Post := by
  refine zM_of pnX11 rfl (Nat.le_of_ble_eq_true rfl) rfl ?_
  have hS6 := hL.S6
  have hF12 := hL.F12
  have hE4 := hL.E4
  have hK3 := hL.K3
  refine z_aload_n dX11_line_0 rfl ?_
  refine z_aload_n dX11_line_1 rfl ?_
  refine z_iload_n dX11_line_2 rfl ?_
  refine z_V1 (mi' := mX11_isStone) dX11_line_3 lX11_101 nX11_isStone kX11_isStone (by decide) (Nat.le_of_ble_eq_true rfl) (Nat.le_refl _) (Nat.le_refl _) (hM.1 _ (by decide)) rfl rfl ?_
  refine sX11_isStone hM hL ?_
  refine z_if_eq (tgt := 13) dX11_line_6 (by decide) (fun c1 => ?_) (fun c1 => ?_)
  · have h1 : ¬ (0 ≤ x ∧ x < σ 13 1) := by rw [hL.n.1]; exact zb_0.mp c1
    refine z_iconst (v := 1) dX11_line_13 (by decide) ?_
    refine z_V1 (mi' := mX11_fails) dX11_line_14 lX11_149 nX11_fails kX11_fails (by decide) (Nat.le_of_ble_eq_true rfl) (Nat.le_refl _) (Nat.le_refl _) (hM.1 _ (by decide)) rfl rfl ?_
    refine sX11_fails hM (fun G1 hM hQ => ?_)
    replace hL := zrel_u (j := 7) (x := 1) hL
    rw [zfb1]
    refine z_if_eq (tgt := 22) dX11_line_17 (by decide) (fun c2 => ?_) (fun c2 => ?_)
    · exact absurd c2 zi10
    · refine z_iconst (v := 0) dX11_line_20 (by decide) ?_
      exact z_ireturn (mi := mX11_line) dX11_line_21 rfl rfl (Nat.le_refl _) (Nat.le_refl _) (hE h1 _ hM hQ)
  · have h1 : ¬ ¬ (0 ≤ x ∧ x < σ 13 1) := by rw [hL.n.1]; exact not_not_intro (zb_n.mp c1)
    obtain ⟨s, hs, rfl⟩ := zhas (by omega) (zb_n.mp c1)
    refine z_iconst (v := 0) dX11_line_9 (by decide) ?_
    refine z_goto (tgt := 14) dX11_line_10 (by decide) ?_
    refine z_V1 (mi' := mX11_fails) dX11_line_14 lX11_149 nX11_fails kX11_fails (by decide) (Nat.le_of_ble_eq_true rfl) (Nat.le_refl _) (Nat.le_refl _) (hM.1 _ (by decide)) rfl rfl ?_
    refine sX11_fails hM (fun G1 hM hQ => ?_)
    replace hL := zrel_u (j := 7) (x := 0) hL
    rw [zfb0]
    refine z_if_eq (tgt := 22) dX11_line_17 (by decide) (fun c3 => ?_) (fun c3 => ?_)
    · refine z_aload_n dX11_line_22 rfl ?_
      refine z_iconst (v := 0) dX11_line_23 (by decide) ?_
      refine z_put dX11_line_24 fX11_223 (hM.1 _ (by decide)) rfl rfl (Nat.le_of_ble_eq_true rfl) ?_
      refine z_mset hM 0 16 (0) (by decide) rfl (fun _ hM hF => ?_)
      have hQ := hQ.tr hF
      refine z_aload_n dX11_line_27 rfl ?_
      refine z_iload_n dX11_line_28 rfl ?_
      refine z_V1 (mi' := mX11_writesNumber) dX11_line_29 lX11_226 nX11_writesNumber kX11_writesNumber (by decide) (Nat.le_of_ble_eq_true rfl) (Nat.le_refl _) (Nat.le_refl _) (hM.1 _ (by decide)) rfl rfl ?_
      have hW0 : zWr (zu μ 0 7 0) (zu (zu μ 0 7 0) 0 16 0) [] := ⟨fun r _ h => zu_r h, fun j h => zu_j h, rfl, fun i h => absurd h (Nat.not_lt_zero i), fun c h => absurd h List.not_mem_nil⟩
      refine sX11_wN (d := d + 6) 0 (n := s) rfl (by omega) (by omega) hW0.2.2 (by decide) hM (fun G2 ν2 hM hF hW2 => ?_)
      have hQ := hQ.tr hF
      have hW := hW0.tr hW2
      have l0 := zdg_len 0 s (by omega)
      refine z_aload_n dX11_line_32 rfl ?_
      refine z_bipush (v := 58) dX11_line_33 (by decide) ?_
      refine z_V1 (mi' := mX11_writes) dX11_line_35 lX11_230 nX11_writes kX11_writes (by decide) (Nat.le_of_ble_eq_true rfl) (Nat.le_refl _) (Nat.le_refl _) (hM.1 _ (by decide)) rfl rfl ?_
      refine sX11_writes hM hW.2.2 (by simp only [List.nil_append]; omega) (c := 58) (by decide) (fun G3 ν3 hM hF hW2 => ?_)
      have hQ := hQ.tr hF
      replace hW := hW.tr hW2
      refine z_iconst (v := 0) dX11_line_38 (by decide) ?_
      refine z_istore_n dX11_line_39 (by decide) rfl ?_
      have hm6 := hL.m6 hs
      have key : ∀ (r : Nat) (i : Nat) (G1 : zH) (ν : zSt), i ≤ mm s → mm s < i + r → zMod G1 am ν → zFrm G G1 am 8 → zWr (zu μ 0 7 0) ν (zln σ s i) → (zln σ s i).length ≤ 2 + 11 * i → zX Γ mX11_line (d + 8) 0 0 40 [some (.ref (am 0)), some (.int (nI s)), some (.int (nI i)), none] [] G1 0 0 (zlift Post) := by
        intro r
        induction r with
        | zero =>
          intro i G1 ν hi1 hi2 hM hQ hW hlen
          exact absurd hi2 (by omega)
        | succ r ih =>
          intro i G1 ν hi1 hi2 hM hQ hW hlen
          have hL9 : zRel σ S F E K (ν 1) mm fl := by
            rw [hW.1 1 (by decide) (by decide), zu_r (show (1 : Nat) ≠ 0 by decide)]
            exact hL
          refine z_iload_n dX11_line_40 rfl ?_
          refine z_aload_n dX11_line_41 rfl ?_
          refine z_iload_n dX11_line_42 rfl ?_
          refine z_iconst (v := 4) dX11_line_43 (by decide) ?_
          refine z_V2 (mi' := mX11_of) dX11_line_44 lX11_70 nX11_of kX11_of (by decide) (Nat.le_of_ble_eq_true rfl) (Nat.le_refl _) (Nat.le_refl _) (hM.1 _ (by decide)) rfl rfl ?_
          refine sX11_of hM (s := s) (w := 4) (by omega) ?_
          rw [show ν 1 (5 + 29 * s + 4) = _ from (hL9.st hs).2.2.2.2.1]
          refine z_icmp_ge (tgt := 102) dX11_line_47 (by decide) (fun c1 => ?_) (fun c1 => ?_)
          · have hi9 := zgeN (N := mm s) rfl (by omega) (by omega) c1
            have hi8 : i = mm s := by omega
            refine z_aload_n dX11_line_102 rfl ?_
            refine z_get dX11_line_103 fX11_223.r (hM.1 _ (by decide)) rfl ?_
            rw [hW.2.2.1]
            exact z_ireturn (mi := mX11_line) dX11_line_106 rfl rfl (Nat.le_refl _) (Nat.le_refl _) (by rw [hi8] at hW ⊢; exact hO s hs rfl _ _ hM hQ hW)
          · have hi9 := zltN (N := mm s) rfl (by omega) (by omega) c1
            obtain ⟨k, hk, ek, ef, hf12⟩ := hL.nth hD hs hi9
            have hfF := (hL.mk hs hk).1
            have hmk := (hL.on hs hf12).mpr ⟨k, hk, rfl⟩
            have b1 := (hB.2.2.2.2.1 s _ hs hfF hmk).1
            have b2 := (hB.2.1 _ hfF).1
            have c1 := znat_lt b1 (by decide) (n := 100) (by decide)
            have c2 := znat_lt b2 (by decide) (n := 10000000) (by omega)
            have l1 := zdg_len 1 (znat (σ 10 (12 * s + fl s k))) c1
            have l2 := zdg_len 6 (znat (σ 4 (fl s k))) c2
            have hz9 : zln σ s i ++ [32] ++ zdg (znat (σ 10 (12 * s + fl s k))) ++ [61] ++ zdg (znat (σ 4 (fl s k))) = zln σ s (i + 1) := by
              rw [zln, zlnE, ef]
              simp only [List.append_assoc]
            have hlen9 : (zln σ s (i + 1)).length ≤ 2 + 11 * (i + 1) := by
              rw [← hz9]
              simp only [List.length_append, List.length_cons, List.length_nil]
              omega
            refine z_aload_n dX11_line_50 rfl ?_
            refine z_iload_n dX11_line_51 rfl ?_
            refine z_iload_n dX11_line_52 rfl ?_
            refine z_V2 (mi' := mX11_nth) dX11_line_53 lX11_167 nX11_nth kX11_nth (by decide) (Nat.le_of_ble_eq_true rfl) (Nat.le_refl _) (Nat.le_refl _) (hM.1 _ (by decide)) rfl rfl ?_
            refine sX11_nth hM hL9 hs (by rw [ek]; exact hk) ?_
            rw [ek]
            refine z_istore_n dX11_line_56 (by decide) rfl ?_
            refine z_aload_n dX11_line_57 rfl ?_
            refine z_bipush (v := 32) dX11_line_58 (by decide) ?_
            refine z_V1 (mi' := mX11_writes) dX11_line_60 lX11_230 nX11_writes kX11_writes (by decide) (Nat.le_of_ble_eq_true rfl) (Nat.le_refl _) (Nat.le_refl _) (hM.1 _ (by decide)) rfl rfl ?_
            refine sX11_writes hM hW.2.2 (by omega) (c := 32) (by decide) (fun G2 ν2 hM hF hW2 => ?_)
            have hQ := hQ.tr hF
            replace hW := hW.tr hW2
            have hL8 : zRel σ S F E K (ν2 1) mm fl := by rw [hW.1 1 (by decide) (by decide), zu_r (show (1 : Nat) ≠ 0 by decide)]; exact hL
            refine z_aload_n dX11_line_63 rfl ?_
            refine z_aload_n dX11_line_64 rfl ?_
            refine z_iload_n dX11_line_65 rfl ?_
            refine z_iload_n dX11_line_66 rfl ?_
            refine z_iconst (v := 1) dX11_line_67 (by decide) ?_
            refine z_V3 (mi' := mX11_ofMark) dX11_line_68 lX11_80 nX11_ofMark kX11_ofMark (by decide) (Nat.le_of_ble_eq_true rfl) (Nat.le_refl _) (Nat.le_refl _) (hM.1 _ (by decide)) rfl rfl ?_
            refine sX11_ofMark hM (s := s) (k := k) (w := 1) (by have := hL.m6 hs; have := hk; omega) ?_
            rw [show ν2 1 (5 + 29 * s + 5 + 4 * k + 1) = _ from (hL8.mk hs hk).2.2.1]
            refine z_V1 (mi' := mX11_writesNumber) dX11_line_71 lX11_226 nX11_writesNumber kX11_writesNumber (by decide) (Nat.le_of_ble_eq_true rfl) (Nat.le_refl _) (Nat.le_refl _) (hM.1 _ (by decide)) rfl rfl ?_
            refine sX11_wN (d := d + 5) 1 (znat_e b1 (by decide)) c1 (by omega) hW.2.2 (by simp only [List.length_append, List.length_cons, List.length_nil]; omega) hM (fun G3 ν3 hM hF hW2 => ?_)
            have hQ := hQ.tr hF
            replace hW := hW.tr hW2
            refine z_aload_n dX11_line_74 rfl ?_
            refine z_bipush (v := 61) dX11_line_75 (by decide) ?_
            refine z_V1 (mi' := mX11_writes) dX11_line_77 lX11_230 nX11_writes kX11_writes (by decide) (Nat.le_of_ble_eq_true rfl) (Nat.le_refl _) (Nat.le_refl _) (hM.1 _ (by decide)) rfl rfl ?_
            refine sX11_writes hM hW.2.2 (by simp only [List.length_append, List.length_cons, List.length_nil]; omega) (c := 61) (by decide) (fun G4 ν4 hM hF hW2 => ?_)
            have hQ := hQ.tr hF
            replace hW := hW.tr hW2
            have hL7 : zRel σ S F E K (ν4 1) mm fl := by rw [hW.1 1 (by decide) (by decide), zu_r (show (1 : Nat) ≠ 0 by decide)]; exact hL
            refine z_aload_n dX11_line_80 rfl ?_
            refine z_aload_n dX11_line_81 rfl ?_
            refine z_aload_n dX11_line_82 rfl ?_
            refine z_iload_n dX11_line_83 rfl ?_
            refine z_iload_n dX11_line_84 rfl ?_
            refine z_iconst (v := 0) dX11_line_85 (by decide) ?_
            refine z_V3 (mi' := mX11_ofMark) dX11_line_86 lX11_80 nX11_ofMark kX11_ofMark (by decide) (Nat.le_of_ble_eq_true rfl) (Nat.le_refl _) (Nat.le_refl _) (hM.1 _ (by decide)) rfl rfl ?_
            refine sX11_ofMark hM (s := s) (k := k) (w := 0) (by have := hL.m6 hs; have := hk; omega) ?_
            rw [show ν4 1 (5 + 29 * s + 5 + 4 * k + 0) = _ from (hL7.mk hs hk).2.1]
            refine z_iconst (v := 0) dX11_line_89 (by decide) ?_
            refine z_V2 (mi' := mX11_ofFlood) dX11_line_90 lX11_66 nX11_ofFlood kX11_ofFlood (by decide) (Nat.le_of_ble_eq_true rfl) (Nat.le_refl _) (Nat.le_refl _) (hM.1 _ (by decide)) rfl rfl ?_
            refine sX11_ofFlood hM (f := (fl s k)) (w := 0) (by omega) ?_
            rw [show ν4 1 (180 + 3 * (fl s k) + 0) = _ from (hL7.fd hfF).1]
            refine z_V1 (mi' := mX11_writesNumber) dX11_line_93 lX11_226 nX11_writesNumber kX11_writesNumber (by decide) (Nat.le_of_ble_eq_true rfl) (Nat.le_refl _) (Nat.le_refl _) (hM.1 _ (by decide)) rfl rfl ?_
            refine sX11_wN (d := d) 6 (znat_e b2 (by decide)) c2 (by omega) hW.2.2 (by simp only [List.length_append, List.length_cons, List.length_nil]; omega) hM (fun G5 ν5 hM hF hW2 => ?_)
            have hQ := hQ.tr hF
            replace hW := hW.tr hW2
            refine z_iinc dX11_line_96 rfl rfl (by decide) rfl ?_
            refine z_goto (tgt := 40) dX11_line_99 (by decide) ?_
            exact z_sub (lv' := [some (.ref (am 0)), some (.int (nI s)), some (.int (nI (i + 1))), none]) ⟨rfl, rfl, zsl (zinc i), trivial⟩ (ih (i + 1) _ _ (by omega) (by omega) hM hQ (by rw [hz9] at hW; exact hW) hlen9)
      exact z_sub (lv' := [some (.ref (am 0)), some (.int (nI s)), some (.int (nI 0)), none]) ⟨rfl, rfl, rfl, trivial⟩ (key (mm s + 1) 0 _ _ (by omega) (by omega) hM hQ hW (by rw [zln, List.length_append, List.length_singleton]; omega))
    · exact absurd rfl c3
