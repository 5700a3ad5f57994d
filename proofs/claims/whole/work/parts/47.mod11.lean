def zwI (τ : zSt) (s : Nat) (mm : Nat → Nat) (fl : Nat → Nat → Nat) (i : Nat) (w : Nat → Int32) : Prop := (∀ j, i ≤ j → j < mm s → w (12 * s + fl s j) = τ 11 (12 * s + fl s j) - 1) ∧ (∀ c, (∀ j, i ≤ j → j < mm s → c ≠ 12 * s + fl s j) → w c = τ 11 c)
/-- one stone weathered -/
def zwS (τ : zSt) (s : Nat) : Nat → Int32 := fun c => if 12 * s ≤ c ∧ c < 12 * s + 12 ∧ 0 < τ 11 c then τ 11 c - 1 else τ 11 c
section ZWI
variable {τ : zSt} {S F E K : Nat} {g : Nat → Int32} {mm : Nat → Nat} {fl : Nat → Nat → Nat} {s j : Nat} {w : Nat → Int32}
theorem zwI_0 : zwI τ s mm fl (mm s) (τ 11) := ⟨fun j h1 h2 => absurd h2 (by omega), fun c _ => rfl⟩
theorem zwI_v (hL : zRel τ S F E K g mm fl) (hs : s < S) (hj : j < mm s) (h : zwI τ s mm fl (j + 1) w) : w (12 * s + fl s j) = τ 11 (12 * s + fl s j) := h.2 _ (fun j' h1 h2 e => by
  have := hL.inj hs hj h2 (show fl s j = fl s j' by omega)
  omega)
theorem zwI_s (hL : zRel τ S F E K g mm fl) (hs : s < S) (hj : j < mm s) (h : zwI τ s mm fl (j + 1) w) {x : Int32} (hx : x = τ 11 (12 * s + fl s j) - 1) : zwI τ s mm fl j (fun c => if c = 12 * s + fl s j then x else w c) := by
  refine ⟨fun j' h1 h2 => ?_, fun c hc => ?_⟩
  · show (if 12 * s + fl s j' = 12 * s + fl s j then x else w (12 * s + fl s j')) = _
    by_cases e : j' = j
    · rw [e, if_pos rfl, hx]
    · rw [if_neg (fun q => e (hL.inj hs h2 hj (by omega)))]
      exact h.1 j' (by omega) h2
  · show (if c = 12 * s + fl s j then x else w c) = _
    rw [if_neg (hc j (Nat.le_refl _) hj)]
    exact h.2 c (fun j' h1 h2 => hc j' (by omega) h2)
theorem zwI_e (hL : zRel τ S F E K g mm fl) (hs : s < S) (h : zwI τ s mm fl 0 w) : w = zwS τ s := funext fun c => by
  have hF12 := hL.F12
  unfold zwS
  by_cases e : 12 * s ≤ c ∧ c < 12 * s + 12 ∧ 0 < τ 11 c
  · rw [if_pos e]
    have e1 : 12 * s + (c - 12 * s) = c := by omega
    obtain ⟨k, hk, ek⟩ := (hL.on (f := c - 12 * s) hs (by omega)).mp (decide_eq_true (by rw [e1]; exact e.2.2))
    have := h.1 k (by omega) hk
    rw [ek, e1] at this
    exact this
  · rw [if_neg e]
    refine h.2 c (fun j _ hj q => e ?_)
    have h1 := (hL.mk hs hj).1
    refine ⟨by omega, by omega, ?_⟩
    rw [q]
    exact of_decide_eq_true ((hL.on (f := fl s j) hs (by omega)).mpr ⟨j, hj, rfl⟩)
theorem zwS_n (hL : zRel τ S F E K g mm fl) (hs : s < S) : zct (fun j => decide (0 ≤ j) && decide (τ 11 (12 * s + fl s j) = 1)) (mm s) = zct (fun f => decide (τ 11 (12 * s + f) = 1)) 12 := by
  have e1 : zct (fun j => decide (0 ≤ j) && decide (τ 11 (12 * s + fl s j) = 1)) (mm s) = zct (fun j => (fun f => decide (τ 11 (12 * s + f) = 1)) (fl s j)) (mm s) := zct_cong (fun k _ => by
    show (decide (0 ≤ k) && decide (τ 11 (12 * s + fl s k) = 1)) = decide (τ 11 (12 * s + fl s k) = 1)
    rw [decide_eq_true (Nat.zero_le k), Bool.true_and])
  rw [e1, hL.ctr hs hL.F12 (Nat.le_refl 12) (fun f => decide (τ 11 (12 * s + f) = 1))]
  refine zct_cong (fun f _ => ?_)
  show (zmk τ s f && decide (τ 11 (12 * s + f) = 1)) = decide (τ 11 (12 * s + f) = 1)
  by_cases e : τ 11 (12 * s + f) = 1
  · rw [show zmk τ s f = true from decide_eq_true (by rw [e]; decide), Bool.true_and]
  · rw [decide_eq_false e, Bool.and_false]
end ZWI
theorem zwc_s {P : Nat → Bool} {j m : Nat} (hj : j < m) : zct (fun j' => decide (j ≤ j') && P j') m = zct (fun j' => decide (j + 1 ≤ j') && P j') m + (if P j = true then 1 else 0) := by
  rw [zct_sm, zct_sm]
  refine zsm_one hj (fun k hk hne => ?_) ?_
  · have e : decide (j ≤ k) = decide (j + 1 ≤ k) := by
      by_cases q : j ≤ k
      · rw [decide_eq_true q, decide_eq_true (show j + 1 ≤ k by omega)]
      · rw [decide_eq_false q, decide_eq_false (show ¬ j + 1 ≤ k by omega)]
    show (if (decide (j ≤ k) && P k) = true then 1 else 0) = (if (decide (j + 1 ≤ k) && P k) = true then 1 else 0)
    rw [e]
  · show (if (decide (j ≤ j) && P j) = true then 1 else 0) = (if (decide (j + 1 ≤ j) && P j) = true then 1 else 0) + (if P j = true then 1 else 0)
    rw [decide_eq_true (Nat.le_refl j), decide_eq_false (show ¬ j + 1 ≤ j by omega), Bool.true_and, Bool.false_and, if_neg (show ¬ false = true by decide), Nat.zero_add]
theorem zone {x : Int32} (h : 0 < x) (h1 : x - 1 ≤ 0) : x = 1 := by
  have e1 := Int32.lt_iff_toInt_lt.mp h
  have e2 := Int32.le_iff_toInt_le.mp h1
  have e3 : (1 : Int32).toInt = 1 := by decide
  have e4 := Int32.toInt_lt x
  rw [zsubI (by rw [e3, z0I] at *; omega), e3, z0I] at e2
  rw [z0I] at e1
  exact zeqI.mpr (by omega)
theorem zdec1 (j : Nat) : nI j + Int32.ofInt (-1) = nI j - 1 := by
  rw [show Int32.ofInt (-1) = -1 from by decide, Int32.sub_eq_add_neg]
theorem zwU {τ : zSt} {w : Nat → Int32} {c : Nat} {x : Int32} : zu (zrw τ 11 w) 11 c x = zrw τ 11 (fun j => if j = c then x else w j) := zu_zrw (fun _ => rfl)
theorem zRel.drop' {σ : zSt} {S F E K : Nat} {mm : Nat → Nat} {fl : Nat → Nat → Nat} {ν : zSt} (hL : zRel σ S F E K (ν 1) mm fl) {s0 k0 : Nat} (hs0 : s0 < S) (hk0 : k0 < mm s0) {ν' : zSt} (hg : ∀ j, j ≠ 5 + 29 * s0 + 5 + 4 * k0 + 2 → ν' 1 j = ν 1 j) : ∃ mm' fl', zRel (zu σ 11 (12 * s0 + fl s0 k0) 0) S F E K (zmdrop ν' s0 k0 (mm s0) 1) mm' fl' ∧ mm' s0 = mm s0 - 1 ∧ ∀ j, j < k0 → fl' s0 j = fl s0 j := by
  refine ⟨fun s => if s = s0 then mm s0 - 1 else mm s, fun s j => if s = s0 ∧ k0 ≤ j then fl s (j + 1) else fl s j, hL.drop hs0 hk0 hg (if_pos rfl) (fun s h => if_neg h) (fun j h => if_neg (fun q => by omega)) (fun j h => if_pos ⟨rfl, h⟩) (fun s j h => if_neg (fun q => h q.1)), if_pos rfl, fun j h => if_neg (fun q => by omega)⟩
set_option maxHeartbeats 4000000 in
set_option maxRecDepth 10000 in
theorem sX11_weathers {Γ : zG} {d : Nat} {G : zH} {Post : zV} {am : Nat → Nat} {μ : zSt} (hM : zMod G am μ) {τ : zSt} {S F E K : Nat} {mm : Nat → Nat} {fl : Nat → Nat → Nat} (hL : zRel τ S F E K (μ 1) mm fl) {s : Nat} (hs : s < S) (hP : ∀ G1 ν, zMod G1 am ν → zFrm G G1 am 8 → (∀ r, r ≠ 1 → ν r = μ r) → (∃ mm' fl', zRel (zrw τ 11 (zwS τ s)) S F E K (ν 1) mm' fl') → Post (some (.int (nI (zct (fun f => decide (τ 11 (12 * s + f) = 1)) 12)))) G1) : zM Γ (d + 2) mX11_weathers 0 0 [.ref (am 0), .int (nI s)] G Post := by
  refine zM_of pnX11 rfl (Nat.le_of_ble_eq_true rfl) rfl ?_
  have hS6 := hL.S6
  have hF12 := hL.F12
  have hE4 := hL.E4
  have hK3 := hL.K3
  have hQ : zFrm G G am 8 := zFrm.rf
  have hm6 := hL.m6 hs
  have key : ∀ (r : Nat) (i : Nat) (G1 : zH) (ν : zSt) (w9 : Nat → Int32) (mm9 : Nat → Nat) (fl9 : Nat → Nat → Nat), i ≤ mm s → i < r → zMod G1 am ν → zFrm G G1 am 8 → (∀ r, r ≠ 1 → ν r = μ r) → zRel (zrw τ 11 w9) S F E K (ν 1) mm9 fl9 → i ≤ mm9 s → (∀ j, j < i → fl9 s j = fl s j) → zwI τ s mm fl i w9 → zX Γ mX11_weathers (d + 2) 0 0 11 [some (.ref (am 0)), some (.int (nI s)), some (.int (nI (zct (fun b => decide (i ≤ b) && decide (τ 11 (12 * s + fl s b) = 1)) (mm s)))), some (.int (nI i - 1))] [] G1 0 0 (zlift Post) := by
    intro r
    induction r with
    | zero =>
      intro i G1 ν w9 mm9 fl9 hi1 hi2 hM hQ hr9 hL9 hmi hfl hI
      exact absurd hi2 (by omega)
    | succ r ih =>
      intro i G1 ν w9 mm9 fl9 hi1 hi2 hM hQ hr9 hL9 hmi hfl hI
      refine z_iload_n dX11_weathers_11 rfl ?_
      refine z_if_lt (tgt := 66) dX11_weathers_12 (by decide) (fun c1 => ?_) (fun c1 => ?_)
      · have hi0 : i = 0 := by
          cases i with
          | zero => rfl
          | succ i => rw [nI_pred] at c1; exact absurd c1 (nI_pos (by omega))
        subst hi0
        refine z_iload_n dX11_weathers_66 rfl ?_
        exact z_ireturn (mi := mX11_weathers) dX11_weathers_67 rfl rfl (Nat.le_refl _) (Nat.le_refl _) (by rw [zwI_e hL hs hI] at hL9; rw [zwS_n hL hs]; exact hP _ _ hM hQ hr9 ⟨mm9, fl9, hL9⟩)
      · obtain ⟨j, rfl⟩ : ∃ j, i = j + 1 := ⟨i - 1, by
          have : i ≠ 0 := fun q => c1 (by rw [q]; decide)
          omega⟩
        rw [nI_pred]
        have hj9 : j < mm s := by omega
        have hj8 : j < mm9 s := by omega
        have hm8 := hL9.m6 hs
        have hfj : fl9 s j = fl s j := hfl j (by omega)
        have hfw : fl s j < F := (hL.mk hs hj9).1
        have hpos : 0 < τ 11 (12 * s + fl s j) := of_decide_eq_true ((hL.on (f := fl s j) hs (by omega)).mpr ⟨j, hj9, rfl⟩)
        have hv : ν 1 (5 + 29 * s + 5 + 4 * j + 2) = τ 11 (12 * s + fl s j) := by
          have e := (hL9.mk hs hj8).2.2.2.1
          rw [zrw_s, hfj, zwI_v hL hs hj9 hI] at e
          exact e
        refine z_aload_n dX11_weathers_15 rfl ?_
        refine z_get dX11_weathers_16 fX11_7.r (hM.1 _ (by decide)) rfl ?_
        refine z_iconst (v := 5) dX11_weathers_19 (by decide) ?_
        refine z_bipush (v := 29) dX11_weathers_20 (by decide) ?_
        refine z_iload_n dX11_weathers_22 rfl ?_
        refine z_imul dX11_weathers_23 ?_
        refine z_iadd dX11_weathers_24 ?_
        refine z_iconst (v := 5) dX11_weathers_25 (by decide) ?_
        refine z_iadd dX11_weathers_26 ?_
        refine z_iconst (v := 4) dX11_weathers_27 (by decide) ?_
        refine z_iload_n dX11_weathers_28 rfl ?_
        refine z_imul dX11_weathers_29 ?_
        refine z_iadd dX11_weathers_30 ?_
        refine z_iconst (v := 2) dX11_weathers_31 (by decide) ?_
        refine z_iadd dX11_weathers_32 ?_
        refine z_dup2_11 dX11_weathers_33 rfl rfl ?_
        rw [show (2 : Int32) = nI 2 from rfl, zixM]
        refine z_iald dX11_weathers_34 (hM.1 1 (by decide)) (vp_in_nI (show 5 + 29 * s + 5 + 4 * j + 2 < 229 by omega) (by decide)) ?_
        rw [nI_clamp (show 5 + 29 * s + 5 + 4 * j + 2 < 2147483648 by omega), hv]
        refine z_iconst (v := 1) dX11_weathers_35 (by decide) ?_
        refine z_isub dX11_weathers_36 ?_
        refine z_iast dX11_weathers_37 (hM.1 1 (by decide)) (vp_in_nI (show 5 + 29 * s + 5 + 4 * j + 2 < 229 by omega) (by decide)) ?_
        rw [nI_clamp (show 5 + 29 * s + 5 + 4 * j + 2 < 2147483648 by omega)]
        refine z_mset hM 1 (5 + 29 * s + 5 + 4 * j + 2) (τ 11 (12 * s + fl s j) - 1) (by decide) (by simp only [zmE, zu_row]) (fun _ hM hF => ?_)
        have hQ := hQ.tr hF
        refine z_aload_n dX11_weathers_38 rfl ?_
        refine z_iload_n dX11_weathers_39 rfl ?_
        refine z_iload_n dX11_weathers_40 rfl ?_
        refine z_iconst (v := 2) dX11_weathers_41 (by decide) ?_
        refine z_V3 (mi' := mX11_ofMark) dX11_weathers_42 lX11_80 nX11_ofMark kX11_ofMark (by decide) (Nat.le_of_ble_eq_true rfl) (Nat.le_refl _) (Nat.le_refl _) (hM.1 _ (by decide)) rfl rfl ?_
        refine sX11_ofMark hM (s := s) (k := j) (w := 2) (by omega) ?_
        rw [zu_s]
        refine z_if_le (tgt := 51) dX11_weathers_45 (by decide) (fun c2 => ?_) (fun c2 => ?_)
        · have hone := zone hpos c2
          obtain ⟨mm8, fl8, hL2, hm2, hf2⟩ := hL9.drop' hs hj8 (ν' := zu ν 1 (5 + 29 * s + 5 + 4 * j + 2) (τ 11 (12 * s + fl s j) - 1)) (fun j9 h9 => zu_j h9)
          rw [hfj, zwU, show (0 : Int32) = τ 11 (12 * s + fl s j) - 1 by rw [hone]; rfl] at hL2
          have hmi2 : j ≤ mm8 s := by omega
          have hfl2 : ∀ j9, j9 < j → fl8 s j9 = fl s j9 := fun j9 h9 => (hf2 j9 h9).trans (hfl j9 (by omega))
          have hr2 : ∀ r, r ≠ 1 → zmdrop (zu ν 1 (5 + 29 * s + 5 + 4 * j + 2) (τ 11 (12 * s + fl s j) - 1)) s j (mm9 s) r = μ r := fun r h => by
            rw [zmdrop, zu_r h, zrw_n h, zu_r h]
            exact hr9 r h
          have e9 : nI (zct (fun b => decide (j + 1 ≤ b) && decide (τ 11 (12 * s + fl s b) = 1)) (mm s)) + Int32.ofInt 1 = nI (zct (fun b => decide (j ≤ b) && decide (τ 11 (12 * s + fl s b) = 1)) (mm s)) := by
            rw [zwc_s (P := fun j => decide (τ 11 (12 * s + fl s j) = 1)) hj9, if_pos (decide_eq_true hone)]
            exact zinc _
          refine z_aload_n dX11_weathers_51 rfl ?_
          refine z_iload_n dX11_weathers_52 rfl ?_
          refine z_iload_n dX11_weathers_53 rfl ?_
          refine z_V2 (mi' := mX11_drops) dX11_weathers_54 lX11_120 nX11_drops kX11_drops (by decide) (Nat.le_of_ble_eq_true rfl) (Nat.le_refl _) (Nat.le_refl _) (hM.1 _ (by decide)) rfl rfl ?_
          refine sX11_drops hM (s := s) (k := j) (m := mm9 s) (by omega) hj8 hm8 ((zu_j (by omega)).trans (hL9.st hs).2.2.2.2.1) (fun G2 hM hF => ?_)
          have hQ := hQ.tr hF
          refine z_iinc dX11_weathers_57 rfl rfl (by decide) rfl ?_
          refine z_iinc dX11_weathers_60 rfl rfl (by decide) rfl ?_
          refine z_goto (tgt := 11) dX11_weathers_63 (by decide) ?_
          exact z_sub (lv' := [some (.ref (am 0)), some (.int (nI s)), some (.int (nI (zct (fun b => decide (j ≤ b) && decide (τ 11 (12 * s + fl s b) = 1)) (mm s)))), some (.int (nI j - 1))]) ⟨rfl, rfl, zsl e9, zsl (zdec1 j), trivial⟩ (ih j _ _ _ _ _ (by omega) (by omega) hM hQ hr2 hL2 hmi2 hfl2 (zwI_s hL hs hj9 hI rfl))
        · have hx9 : 0 < τ 11 (12 * s + fl s j) - 1 := Int32.not_le.mp c2
          have hL2 := hL9.dec hs hj8 hx9
          rw [hfj, zwU] at hL2
          have hmi2 : j ≤ mm9 s := by omega
          have hfl2 : ∀ j9, j9 < j → fl9 s j9 = fl s j9 := fun j9 h9 => hfl j9 (by omega)
          have hr2 : ∀ r, r ≠ 1 → zu ν 1 (5 + 29 * s + 5 + 4 * j + 2) (τ 11 (12 * s + fl s j) - 1) r = μ r := fun r h => (zu_r h).trans (hr9 r h)
          have e9 : nI (zct (fun b => decide (j + 1 ≤ b) && decide (τ 11 (12 * s + fl s b) = 1)) (mm s)) = nI (zct (fun b => decide (j ≤ b) && decide (τ 11 (12 * s + fl s b) = 1)) (mm s)) := by
            rw [zwc_s (P := fun j => decide (τ 11 (12 * s + fl s j) = 1)) hj9, if_neg (fun q => by rw [of_decide_eq_true q] at hx9; exact absurd hx9 (by decide))]
            rfl
          refine z_goto (tgt := 60) dX11_weathers_48 (by decide) ?_
          refine z_iinc dX11_weathers_60 rfl rfl (by decide) rfl ?_
          refine z_goto (tgt := 11) dX11_weathers_63 (by decide) ?_
          exact z_sub (lv' := [some (.ref (am 0)), some (.int (nI s)), some (.int (nI (zct (fun b => decide (j ≤ b) && decide (τ 11 (12 * s + fl s b) = 1)) (mm s)))), some (.int (nI j - 1))]) ⟨rfl, rfl, zsl e9, zsl (zdec1 j), trivial⟩ (ih j _ _ _ _ _ (by omega) (by omega) hM hQ hr2 hL2 hmi2 hfl2 (zwI_s hL hs hj9 hI rfl))
  refine z_iconst (v := 0) dX11_weathers_0 (by decide) ?_
  refine z_istore_n dX11_weathers_1 (by decide) rfl ?_
  refine z_aload_n dX11_weathers_2 rfl ?_
  refine z_iload_n dX11_weathers_3 rfl ?_
  refine z_iconst (v := 4) dX11_weathers_4 (by decide) ?_
  refine z_V2 (mi' := mX11_of) dX11_weathers_5 lX11_70 nX11_of kX11_of (by decide) (Nat.le_of_ble_eq_true rfl) (Nat.le_refl _) (Nat.le_refl _) (hM.1 _ (by decide)) rfl rfl ?_
  refine sX11_of hM (s := s) (w := 4) (by omega) ?_
  rw [show μ 1 (5 + 29 * s + 4) = _ from (hL.st hs).2.2.2.2.1]
  refine z_iconst (v := 1) dX11_weathers_8 (by decide) ?_
  refine z_isub dX11_weathers_9 ?_
  refine z_istore_n dX11_weathers_10 (by decide) rfl ?_
  exact z_sub (lv' := [some (.ref (am 0)), some (.int (nI s)), some (.int (nI (zct (fun b => decide ((mm s) ≤ b) && decide (τ 11 (12 * s + fl s b) = 1)) (mm s)))), some (.int (nI (mm s) - 1))]) ⟨rfl, rfl, zsl (show (0 : Int32) = nI _ by rw [zct_0 (fun k hk => by rw [decide_eq_false (show ¬ mm s ≤ k by omega), Bool.false_and])]; rfl), rfl, trivial⟩ (key (mm s + 1) (mm s) G μ (τ 11) mm fl (by omega) (by omega) hM hQ (fun _ _ => rfl) (by rw [zrw_0 (fun _ => rfl)]; exact hL) (by omega) (fun _ _ => rfl) zwI_0)
def zyS (σ : zSt) (i : Nat) : zSt := zrw (zrw (zy0 σ) 3 (if zrem (σ 13 0 + 1) 3 = 0 then zdrow (σ 3) i else σ 3)) 11 (if zrem (σ 13 0 + 1) 5 = 0 then zwrow (σ 11) (12 * i) else σ 11)
def zyG (σ : zSt) (i : Nat) : Nat := if zrem (σ 13 0 + 1) 5 = 0 then zct (fun c => decide (σ 11 c = 1)) (12 * i) else 0
theorem zwrow_S {σ τ : zSt} {i : Nat} (h : τ 11 = zwrow (σ 11) (12 * i)) : zwS τ i = zwrow (σ 11) (12 * (i + 1)) := funext fun c => by
  unfold zwS
  rw [h]
  unfold zwrow
  by_cases e : c < 12 * i
  · rw [if_neg (show ¬ (12 * i ≤ c ∧ c < 12 * i + 12 ∧ 0 < (if c < 12 * i ∧ 0 < σ 11 c then σ 11 c - 1 else σ 11 c)) from fun q => by omega)]
    by_cases e2 : 0 < σ 11 c
    · rw [if_pos ⟨e, e2⟩, if_pos ⟨by omega, e2⟩]
    · rw [if_neg (fun q => e2 q.2), if_neg (fun q => e2 q.2)]
  · rw [if_neg (show ¬ (c < 12 * i ∧ 0 < σ 11 c) from fun q => e q.1)]
    by_cases e2 : c < 12 * i + 12 ∧ 0 < σ 11 c
    · rw [if_pos ⟨by omega, e2⟩, if_pos ⟨by omega, e2.2⟩]
    · rw [if_neg (fun q => e2 q.2), if_neg (fun q => e2 ⟨by omega, q.2⟩)]
theorem zct_add (p : Nat → Bool) (a : Nat) : ∀ b, zct p (a + b) = zct p a + zct (fun k => p (a + k)) b
  | 0 => rfl
  | b + 1 => by
    show zct p (a + b + 1) = _
    rw [zct, zct, zct_add p a b, Nat.add_assoc]
theorem zrw_rw {σ : zSt} {r : Nat} {f g : Nat → Int32} : zrw (zrw σ r f) r g = zrw σ r g := funext fun r' => by
  unfold zrw
  by_cases e : r' = r
  · rw [if_pos e, if_pos e]
  · rw [if_neg e, if_neg e, if_neg e]
theorem zyE {σ : zSt} {i : Nat} {W : Nat → Int32} : zu (zrw (zrw (zy0 σ) 3 (zdrow (σ 3) i)) 11 W) 3 i (zdrift (σ 3 i)) = zrw (zrw (zy0 σ) 3 (zdrow (σ 3) (i + 1))) 11 W := funext fun r' => funext fun j => by
  unfold zu zrw
  by_cases e : r' = 3
  · rw [e]
    by_cases e2 : j = i
    · rw [if_pos ⟨rfl, e2⟩, if_neg (show ¬ 3 = 11 by decide), if_pos rfl, e2, zdrow, if_pos (by omega)]
    · rw [if_neg (fun q => e2 q.2), if_neg (show ¬ 3 = 11 by decide), if_pos rfl, if_neg (show ¬ 3 = 11 by decide), if_pos rfl, zdrow, zdrow]
      by_cases e3 : j < i
      · rw [if_pos e3, if_pos (by omega)]
      · rw [if_neg e3, if_neg (by omega)]
  · rw [if_neg (fun q => e q.1)]
    by_cases e2 : r' = 11
    · rw [if_pos e2, if_pos e2]
    · rw [if_neg e2, if_neg e2, if_neg e, if_neg e]
theorem zyS_0 (σ : zSt) : zyS σ 0 = zy0 σ := by
  unfold zyS
  have h3 : (if zrem (σ 13 0 + 1) 3 = 0 then zdrow (σ 3) 0 else σ 3) = σ 3 := by
    split
    · exact funext (zdrow_0 (σ 3))
    · rfl
  have h11 : (if zrem (σ 13 0 + 1) 5 = 0 then zwrow (σ 11) (12 * 0) else σ 11) = σ 11 := by
    split
    · exact funext (zwrow_0 (σ 11))
    · rfl
  rw [h3, h11, zrw_0 (σ := zy0 σ) (r := 3) (f := σ 3) (fun _ => rfl), zrw_0 (σ := zy0 σ) (r := 11) (f := σ 11) (fun _ => rfl)]
theorem zyS_end {σ : zSt} {S : Nat} (hS : S ≤ 6) (hoff : ∀ c, 12 * S ≤ c → c < 72 → ¬ 0 < σ 11 c) : zu (zyS σ S) 13 7 (σ 13 7 + nI (zyG σ S)) = zy1 σ S ∧ zyG σ S = zyg σ S := by
  have hA : zrw (zy0 σ) 3 (if zrem (σ 13 0 + 1) 3 = 0 then zdrow (σ 3) S else σ 3) = zyA σ S := by
    unfold zyA
    by_cases e : zrem (σ 13 0 + 1) 3 = 0
    · rw [if_pos e, if_pos (show zrem (zy0 σ 13 0) 3 = 0 from e)]
      rfl
    · rw [if_neg e, if_neg (show ¬ zrem (zy0 σ 13 0) 3 = 0 from e)]
      exact zrw_0 (fun _ => rfl)
  have h13 : ∀ j, zyA σ S 13 j = zy0 σ 13 j := fun j => by rw [← hA, zrw_n (show (13 : Nat) ≠ 3 by decide)]
  have h11 : zyA σ S 11 = σ 11 := by rw [← hA, zrw_n (show (11 : Nat) ≠ 3 by decide)]; rfl
  have hw : zwrow (σ 11) (12 * S) = zwrow (σ 11) 72 := funext fun c => by
    unfold zwrow
    by_cases e : 0 < σ 11 c
    · by_cases e2 : c < 12 * S
      · rw [if_pos ⟨e2, e⟩, if_pos ⟨by omega, e⟩]
      · rw [if_neg (fun q => e2 q.1), if_neg (fun q => hoff c (by omega) q.1 e)]
    · rw [if_neg (fun q => e q.2), if_neg (fun q => e q.2)]
  have hn : zct (fun c => decide (σ 11 c = 1)) 72 = zct (fun c => decide (σ 11 c = 1)) (12 * S) := zct_ext (by omega) (fun c h1 h2 => decide_eq_false (fun q => hoff c h1 h2 (by rw [q]; decide)))
  unfold zyS zyG zy1 zyg
  rw [hA, h13 0, show zy0 σ 13 0 = σ 13 0 + 1 from rfl]
  by_cases e : zrem (σ 13 0 + 1) 5 = 0
  · rw [if_pos e, if_pos e, if_pos e, if_pos e]
    refine ⟨?_, ?_⟩
    · rw [zwt, hw, zgn, h11, hn, h13 7, show zy0 σ 13 7 = σ 13 7 from rfl]
    · rw [zgn, h11, hn]
  · rw [if_neg e, if_neg e, if_neg e, if_neg e]
    refine ⟨?_, rfl⟩
    rw [zrw_0 (σ := zyA σ S) (r := 11) (f := σ 11) (fun j => by rw [h11])]
    refine funext fun r' => funext fun j => ?_
    by_cases e9 : r' = 13 ∧ j = 7
    · rw [zuE e9.1 e9.2, e9.1, e9.2, h13 7]
      exact zadd0 _
    · exact zuN e9
set_option maxHeartbeats 4000000 in
set_option maxRecDepth 10000 in
theorem sX11_yearGoes {Γ : zG} {d : Nat} {G : zH} {Post : zV} {am : Nat → Nat} {μ : zSt} (hM : zMod G am μ) {σ : zSt} {S F E K : Nat} {mm : Nat → Nat} {fl : Nat → Nat → Nat} (hL : zRel σ S F E K (μ 1) mm fl) (hP : ∀ G1 ν, zMod G1 am ν → zFrm G G1 am 8 → (∀ r, r ≠ 1 → ν r = μ r) → (∃ mm' fl', zRel (zy1 σ S) S F E K (ν 1) mm' fl') → Post (some (.int (nI (zyg σ S)))) G1) : zM Γ (d + 3) mX11_yearGoes 0 0 [.ref (am 0)] G Post := by
  refine zM_of pnX11 rfl (Nat.le_of_ble_eq_true rfl) rfl ?_
  have hS6 := hL.S6
  have hF12 := hL.F12
  have hE4 := hL.E4
  have hK3 := hL.K3
  have hQ : zFrm G G am 8 := zFrm.rf
  have hoff : ∀ c, 12 * S ≤ c → c < 72 → ¬ 0 < σ 11 c := fun c h1 h2 q => by
    have h := hL.off (s := c / 12) (f := c % 12) (by omega) (by omega) (by omega)
    unfold zmk at h
    rw [show 12 * (c / 12) + c % 12 = c by omega] at h
    exact absurd q (of_decide_eq_false h)
  have key : ∀ (r : Nat) (i : Nat) (G1 : zH) (ν : zSt) (mm9 : Nat → Nat) (fl9 : Nat → Nat → Nat), i ≤ S → S < i + r → zMod G1 am ν → zFrm G G1 am 8 → (∀ r, r ≠ 1 → ν r = μ r) → zRel (zyS σ i) S F E K (ν 1) mm9 fl9 → zX Γ mX11_yearGoes (d + 3) 0 0 14 [some (.ref (am 0)), some (.int (nI (zyG σ i))), some (.int (nI i))] [] G1 0 0 (zlift Post) := by
    intro r
    induction r with
    | zero =>
      intro i G1 ν mm9 fl9 hi1 hi2 hM hQ hr9 hL9
      exact absurd hi2 (by omega)
    | succ r ih =>
      intro i G1 ν mm9 fl9 hi1 hi2 hM hQ hr9 hL9
      refine z_iload_n dX11_yearGoes_14 rfl ?_
      refine z_aload_n dX11_yearGoes_15 rfl ?_
      refine z_get dX11_yearGoes_16 fX11_7.r (hM.1 _ (by decide)) rfl ?_
      refine z_iconst (v := 4) dX11_yearGoes_19 (by decide) ?_
      refine z_iald dX11_yearGoes_20 (hM.1 1 (by decide)) (show vp_in (nI 4) 229 from vp_in_nI (by decide) (by decide)) ?_
      rw [show ν 1 (Int32.toNatClampNeg 4) = nI S from hL9.sc.2.2.2.2.1]
      refine z_icmp_ge (tgt := 79) dX11_yearGoes_21 (by decide) (fun c1 => ?_) (fun c1 => ?_)
      · have hi9 := zgeN (N := S) rfl (by omega) (by omega) c1
        have hiS : i = S := by omega
        refine z_aload_n dX11_yearGoes_79 rfl ?_
        refine z_get dX11_yearGoes_80 fX11_7.r (hM.1 _ (by decide)) rfl ?_
        refine z_iconst (v := 3) dX11_yearGoes_83 (by decide) ?_
        refine z_dup2_11 dX11_yearGoes_84 rfl rfl ?_
        refine z_iald dX11_yearGoes_85 (hM.1 1 (by decide)) (show vp_in (nI 3) 229 from vp_in_nI (by decide) (by decide)) ?_
        rw [show ν 1 (Int32.toNatClampNeg 3) = σ 13 7 from hL9.sc.2.2.2.1]
        refine z_iload_n dX11_yearGoes_86 rfl ?_
        refine z_iadd dX11_yearGoes_87 ?_
        refine z_iast dX11_yearGoes_88 (hM.1 1 (by decide)) (show vp_in (nI 3) 229 from vp_in_nI (by decide) (by decide)) ?_
        rw [show Int32.toNatClampNeg 3 = 3 from rfl]
        refine z_mset hM 1 3 (σ 13 7 + nI (zyG σ i)) (by decide) (by simp only [zmE, zu_row]) (fun _ hM hF => ?_)
        have hQ := hQ.tr hF
        refine z_iload_n dX11_yearGoes_89 rfl ?_
        exact z_ireturn (mi := mX11_yearGoes) dX11_yearGoes_90 rfl rfl (Nat.le_refl _) (Nat.le_refl _) (by rw [hiS] at hM hL9 ⊢; have hz := zyS_end hS6 hoff; have h := hL9.oNum7 (x := σ 13 7 + nI (zyG σ S)); rw [hz.1] at h; rw [hz.2] at hM h ⊢; exact hP _ _ hM hQ (fun r h => (zu_r h).trans (hr9 r h)) ⟨mm9, fl9, h⟩)
      · have hi9 := zltN (N := S) rfl (by omega) (by omega) c1
        refine z_aload_n dX11_yearGoes_24 rfl ?_
        refine z_get dX11_yearGoes_25 fX11_7.r (hM.1 _ (by decide)) rfl ?_
        refine z_iconst (v := 0) dX11_yearGoes_28 (by decide) ?_
        refine z_iald dX11_yearGoes_29 (hM.1 1 (by decide)) (show vp_in (nI 0) 229 from vp_in_nI (by decide) (by decide)) ?_
        rw [show ν 1 (Int32.toNatClampNeg 0) = σ 13 0 + 1 from hL9.sc.1]
        refine z_iconst (v := 3) dX11_yearGoes_30 (by decide) ?_
        refine z_irem dX11_yearGoes_31 (by decide) ?_
        refine z_if_ne (tgt := 50) dX11_yearGoes_32 (by decide) (fun c2 => ?_) (fun c2 => ?_)
        · have q3 : ¬ zrem (σ 13 0 + 1) 3 = 0 := c2
          obtain ⟨ν2, hν2⟩ : ∃ ν2, ν2 = ν := ⟨_, rfl⟩
          rw [← hν2] at hM
          have hL10 : zRel (zrw (zrw (zy0 σ) 3 (if zrem (σ 13 0 + 1) 3 = 0 then zdrow (σ 3) (i + 1) else σ 3)) 11 (if zrem (σ 13 0 + 1) 5 = 0 then zwrow (σ 11) (12 * i) else σ 11)) S F E K (ν2 1) mm9 fl9 := by
            rw [hν2]
            unfold zyS at hL9
            rw [if_neg q3] at hL9 ⊢
            exact hL9
          have hr8 : ∀ r, r ≠ 1 → ν2 r = μ r := fun r h => by rw [hν2]; exact hr9 r h
          refine z_iload_n dX11_yearGoes_50 rfl ?_
          refine z_aload_n dX11_yearGoes_51 rfl ?_
          refine z_get dX11_yearGoes_52 fX11_7.r (hM.1 _ (by decide)) rfl ?_
          refine z_iconst (v := 0) dX11_yearGoes_55 (by decide) ?_
          refine z_iald dX11_yearGoes_56 (hM.1 1 (by decide)) (show vp_in (nI 0) 229 from vp_in_nI (by decide) (by decide)) ?_
          rw [show ν2 1 (Int32.toNatClampNeg 0) = σ 13 0 + 1 from hL10.sc.1]
          refine z_iconst (v := 5) dX11_yearGoes_57 (by decide) ?_
          refine z_irem dX11_yearGoes_58 (by decide) ?_
          refine z_if_ne (tgt := 70) dX11_yearGoes_59 (by decide) (fun c3 => ?_) (fun c3 => ?_)
          · have q5 : ¬ zrem (σ 13 0 + 1) 5 = 0 := c3
            have hL2 : zRel (zyS σ (i + 1)) S F E K (ν2 1) mm9 fl9 := by
              unfold zyS
              rw [if_neg q5] at hL10 ⊢
              exact hL10
            have hr2 := hr8
            have e9 : nI (zyG σ i) + 0 = nI (zyG σ (i + 1)) := by
              unfold zyG
              rw [if_neg q5, if_neg q5]
              rfl
            refine z_iconst (v := 0) dX11_yearGoes_70 (by decide) ?_
            refine z_iadd dX11_yearGoes_71 ?_
            refine z_istore_n dX11_yearGoes_72 (by decide) rfl ?_
            refine z_iinc dX11_yearGoes_73 rfl rfl (by decide) rfl ?_
            refine z_goto (tgt := 14) dX11_yearGoes_76 (by decide) ?_
            exact z_sub (lv' := [some (.ref (am 0)), some (.int (nI (zyG σ (i + 1)))), some (.int (nI (i + 1)))]) ⟨rfl, zsl e9, zsl (zinc i), trivial⟩ (ih (i + 1) _ _ _ _ (by omega) (by omega) hM hQ hr2 hL2)
          · have q5 : zrem (σ 13 0 + 1) 5 = 0 := c3
            refine z_aload_n dX11_yearGoes_62 rfl ?_
            refine z_iload_n dX11_yearGoes_63 rfl ?_
            refine z_V1 (mi' := mX11_weathers) dX11_yearGoes_64 lX11_130 nX11_weathers kX11_weathers (by decide) (Nat.le_of_ble_eq_true rfl) (Nat.le_refl _) (Nat.le_refl _) (hM.1 _ (by decide)) rfl rfl ?_
            refine sX11_weathers hM hL10 hi9 (fun G3 ν3 hM hF hr3 hL11 => ?_)
            have hQ := hQ.tr hF
            obtain ⟨mm8, fl8, hL2⟩ := hL11
            rw [if_pos q5, zrw_rw, zwrow_S (σ := σ) (i := i) (zrw_s _ _ _)] at hL2
            replace hL2 : zRel (zyS σ (i + 1)) S F E K (ν3 1) mm8 fl8 := by
              unfold zyS
              rw [if_pos q5]
              exact hL2
            have hr2 : ∀ r, r ≠ 1 → ν3 r = μ r := fun r h => (hr3 r h).trans (hr8 r h)
            rw [if_pos q5]
            rw [show zct (fun f => decide (zrw (zrw (zy0 σ) 3 (if zrem (σ 13 0 + 1) 3 = 0 then zdrow (σ 3) (i + 1) else σ 3)) 11 (zwrow (σ 11) (12 * i)) 11 (12 * i + f) = 1)) 12 = zct (fun f => decide (σ 11 (12 * i + f) = 1)) 12 from zct_cong (fun f _ => by
              show decide (zwrow (σ 11) (12 * i) (12 * i + f) = 1) = decide (σ 11 (12 * i + f) = 1)
              rw [zwrow, if_neg (fun q => by omega)])]
            have e9 : nI (zyG σ i) + nI (zct (fun f => decide (σ 11 (12 * i + f) = 1)) 12) = nI (zyG σ (i + 1)) := by
              unfold zyG
              rw [if_pos q5, if_pos q5, nI_add, show 12 * (i + 1) = 12 * i + 12 by omega, zct_add (fun c => decide (σ 11 c = 1)) (12 * i) 12]
            refine z_goto (tgt := 71) dX11_yearGoes_67 (by decide) ?_
            refine z_iadd dX11_yearGoes_71 ?_
            refine z_istore_n dX11_yearGoes_72 (by decide) rfl ?_
            refine z_iinc dX11_yearGoes_73 rfl rfl (by decide) rfl ?_
            refine z_goto (tgt := 14) dX11_yearGoes_76 (by decide) ?_
            exact z_sub (lv' := [some (.ref (am 0)), some (.int (nI (zyG σ (i + 1)))), some (.int (nI (i + 1)))]) ⟨rfl, zsl e9, zsl (zinc i), trivial⟩ (ih (i + 1) _ _ _ _ (by omega) (by omega) hM hQ hr2 hL2)
        · have q3 : zrem (σ 13 0 + 1) 3 = 0 := c2
          refine z_aload_n dX11_yearGoes_35 rfl ?_
          refine z_iload_n dX11_yearGoes_36 rfl ?_
          refine z_iconst (v := 3) dX11_yearGoes_37 (by decide) ?_
          refine z_aload_n dX11_yearGoes_38 rfl ?_
          refine z_iload_n dX11_yearGoes_39 rfl ?_
          refine z_iconst (v := 3) dX11_yearGoes_40 (by decide) ?_
          refine z_V2 (mi' := mX11_of) dX11_yearGoes_41 lX11_70 nX11_of kX11_of (by decide) (Nat.le_of_ble_eq_true rfl) (Nat.le_refl _) (Nat.le_refl _) (hM.1 _ (by decide)) rfl rfl ?_
          refine sX11_of hM (s := i) (w := 3) (by omega) ?_
          rw [show ν 1 (5 + 29 * i + 3) = σ 3 i by
            rw [(hL9.st hi9).2.2.2.1]
            unfold zyS
            rw [zrw_n (show (3 : Nat) ≠ 11 by decide), zrw_s, if_pos q3, zdrow, if_neg (Nat.lt_irrefl i)]]
          refine z_S1 (mi' := mX11_errs) dX11_yearGoes_44 lX11_127 nX11_errs kX11_errs (by decide) (Nat.le_of_ble_eq_true rfl) (Nat.le_refl _) (Nat.le_refl _) ?_
          refine sX11_errs ?_
          refine z_V3 (mi' := mX11_lays) dX11_yearGoes_47 lX11_91 nX11_lays kX11_lays (by decide) (Nat.le_of_ble_eq_true rfl) (Nat.le_refl _) (Nat.le_refl _) (hM.1 _ (by decide)) rfl rfl ?_
          refine sX11_lays hM (s := i) (w := 3) (by omega) (fun _ hM hF => ?_)
          have hQ := hQ.tr hF
          obtain ⟨ν2, hν2⟩ : ∃ ν2, ν2 = zu ν 1 (5 + 29 * i + 3) (zdrift (σ 3 i)) := ⟨_, rfl⟩
          rw [← hν2] at hM
          have hL10 : zRel (zrw (zrw (zy0 σ) 3 (if zrem (σ 13 0 + 1) 3 = 0 then zdrow (σ 3) (i + 1) else σ 3)) 11 (if zrem (σ 13 0 + 1) 5 = 0 then zwrow (σ 11) (12 * i) else σ 11)) S F E K (ν2 1) mm9 fl9 := by
            have h := hL9.oErr hi9 (x := zdrift (σ 3 i))
            unfold zyS at h
            rw [if_pos q3, zyE, ← hν2] at h
            rw [if_pos q3]
            exact h
          have hr8 : ∀ r, r ≠ 1 → ν2 r = μ r := fun r h => by rw [hν2, zu_r h]; exact hr9 r h
          refine z_iload_n dX11_yearGoes_50 rfl ?_
          refine z_aload_n dX11_yearGoes_51 rfl ?_
          refine z_get dX11_yearGoes_52 fX11_7.r (hM.1 _ (by decide)) rfl ?_
          refine z_iconst (v := 0) dX11_yearGoes_55 (by decide) ?_
          refine z_iald dX11_yearGoes_56 (hM.1 1 (by decide)) (show vp_in (nI 0) 229 from vp_in_nI (by decide) (by decide)) ?_
          rw [show ν2 1 (Int32.toNatClampNeg 0) = σ 13 0 + 1 from hL10.sc.1]
          refine z_iconst (v := 5) dX11_yearGoes_57 (by decide) ?_
          refine z_irem dX11_yearGoes_58 (by decide) ?_
          refine z_if_ne (tgt := 70) dX11_yearGoes_59 (by decide) (fun c4 => ?_) (fun c4 => ?_)
          · have q5 : ¬ zrem (σ 13 0 + 1) 5 = 0 := c4
            have hL2 : zRel (zyS σ (i + 1)) S F E K (ν2 1) mm9 fl9 := by
              unfold zyS
              rw [if_neg q5] at hL10 ⊢
              exact hL10
            have hr2 := hr8
            have e9 : nI (zyG σ i) + 0 = nI (zyG σ (i + 1)) := by
              unfold zyG
              rw [if_neg q5, if_neg q5]
              rfl
            refine z_iconst (v := 0) dX11_yearGoes_70 (by decide) ?_
            refine z_iadd dX11_yearGoes_71 ?_
            refine z_istore_n dX11_yearGoes_72 (by decide) rfl ?_
            refine z_iinc dX11_yearGoes_73 rfl rfl (by decide) rfl ?_
            refine z_goto (tgt := 14) dX11_yearGoes_76 (by decide) ?_
            exact z_sub (lv' := [some (.ref (am 0)), some (.int (nI (zyG σ (i + 1)))), some (.int (nI (i + 1)))]) ⟨rfl, zsl e9, zsl (zinc i), trivial⟩ (ih (i + 1) _ _ _ _ (by omega) (by omega) hM hQ hr2 hL2)
          · have q5 : zrem (σ 13 0 + 1) 5 = 0 := c4
            refine z_aload_n dX11_yearGoes_62 rfl ?_
            refine z_iload_n dX11_yearGoes_63 rfl ?_
            refine z_V1 (mi' := mX11_weathers) dX11_yearGoes_64 lX11_130 nX11_weathers kX11_weathers (by decide) (Nat.le_of_ble_eq_true rfl) (Nat.le_refl _) (Nat.le_refl _) (hM.1 _ (by decide)) rfl rfl ?_
            refine sX11_weathers hM hL10 hi9 (fun G3 ν3 hM hF hr3 hL11 => ?_)
            have hQ := hQ.tr hF
            obtain ⟨mm8, fl8, hL2⟩ := hL11
            rw [if_pos q5, zrw_rw, zwrow_S (σ := σ) (i := i) (zrw_s _ _ _)] at hL2
            replace hL2 : zRel (zyS σ (i + 1)) S F E K (ν3 1) mm8 fl8 := by
              unfold zyS
              rw [if_pos q5]
              exact hL2
            have hr2 : ∀ r, r ≠ 1 → ν3 r = μ r := fun r h => (hr3 r h).trans (hr8 r h)
            rw [if_pos q5]
            rw [show zct (fun f => decide (zrw (zrw (zy0 σ) 3 (if zrem (σ 13 0 + 1) 3 = 0 then zdrow (σ 3) (i + 1) else σ 3)) 11 (zwrow (σ 11) (12 * i)) 11 (12 * i + f) = 1)) 12 = zct (fun f => decide (σ 11 (12 * i + f) = 1)) 12 from zct_cong (fun f _ => by
              show decide (zwrow (σ 11) (12 * i) (12 * i + f) = 1) = decide (σ 11 (12 * i + f) = 1)
              rw [zwrow, if_neg (fun q => by omega)])]
            have e9 : nI (zyG σ i) + nI (zct (fun f => decide (σ 11 (12 * i + f) = 1)) 12) = nI (zyG σ (i + 1)) := by
              unfold zyG
              rw [if_pos q5, if_pos q5, nI_add, show 12 * (i + 1) = 12 * i + 12 by omega, zct_add (fun c => decide (σ 11 c = 1)) (12 * i) 12]
            refine z_goto (tgt := 71) dX11_yearGoes_67 (by decide) ?_
            refine z_iadd dX11_yearGoes_71 ?_
            refine z_istore_n dX11_yearGoes_72 (by decide) rfl ?_
            refine z_iinc dX11_yearGoes_73 rfl rfl (by decide) rfl ?_
            refine z_goto (tgt := 14) dX11_yearGoes_76 (by decide) ?_
            exact z_sub (lv' := [some (.ref (am 0)), some (.int (nI (zyG σ (i + 1)))), some (.int (nI (i + 1)))]) ⟨rfl, zsl e9, zsl (zinc i), trivial⟩ (ih (i + 1) _ _ _ _ (by omega) (by omega) hM hQ hr2 hL2)
  refine z_aload_n dX11_yearGoes_0 rfl ?_
  refine z_get dX11_yearGoes_1 fX11_7.r (hM.1 _ (by decide)) rfl ?_
  refine z_iconst (v := 0) dX11_yearGoes_4 (by decide) ?_
  refine z_dup2_11 dX11_yearGoes_5 rfl rfl ?_
  refine z_iald dX11_yearGoes_6 (hM.1 1 (by decide)) (show vp_in (nI 0) 229 from vp_in_nI (by decide) (by decide)) ?_
  rw [show μ 1 (Int32.toNatClampNeg 0) = σ 13 0 from hL.sc.1]
  refine z_iconst (v := 1) dX11_yearGoes_7 (by decide) ?_
  refine z_iadd dX11_yearGoes_8 ?_
  refine z_iast dX11_yearGoes_9 (hM.1 1 (by decide)) (show vp_in (nI 0) 229 from vp_in_nI (by decide) (by decide)) ?_
  rw [show Int32.toNatClampNeg 0 = 0 from rfl]
  refine z_mset hM 1 0 (σ 13 0 + 1) (by decide) (by simp only [zmE, zu_row]) (fun _ hM hF => ?_)
  have hQ := hQ.tr hF
  refine z_iconst (v := 0) dX11_yearGoes_10 (by decide) ?_
  refine z_istore_n dX11_yearGoes_11 (by decide) rfl ?_
  refine z_iconst (v := 0) dX11_yearGoes_12 (by decide) ?_
  refine z_istore_n dX11_yearGoes_13 (by decide) rfl ?_
  have h0 := hL.oNum0 (x := σ 13 0 + 1)
  exact z_sub (lv' := [some (.ref (am 0)), some (.int (nI (zyG σ 0))), some (.int (nI 0))]) ⟨rfl, zsl (show (0 : Int32) = nI (zyG σ 0) by unfold zyG; split <;> rfl), rfl, trivial⟩ (key (S + 1) 0 _ _ mm fl (by omega) (by omega) hM hQ (fun r h => zu_r h) (by rw [zyS_0]; exact h0))
set_option maxHeartbeats 4000000 in
set_option maxRecDepth 10000 in
theorem sX11_years {Γ : zG} {d : Nat} {G : zH} {Post : zV} {am : Nat → Nat} {μ : zSt} (hM : zMod G am μ) {σ : zSt} {S F E K : Nat} {mm : Nat → Nat} {fl : Nat → Nat → Nat} (hL : zRel σ S F E K (μ 1) mm fl) {ct : Nat} (hct : μ 0 5 = nI ct) (hc8 : ct ≤ 8) {y : Int32} (hO : zrYe y = none → ∀ j : Nat, 1 ≤ j → j ≤ 60 → y = nI j → ∀ ν0, ν0 = zmkeep μ 1 ct → ∀ G1 ν, zMod G1 am ν → zFrm G G1 am 8 → (∀ r, r ≠ 1 → ν r = ν0 r) → (∃ mm' fl', zRel (zyrs σ S j).1 S F E K (ν 1) mm' fl') → Post (some (.int (nI (zyrs σ S j).2))) G1) (hR : ∀ rn rd, zrYe y = some (rn, rd) → ∀ G1, zMod G1 am (zmref μ rn rd) → zFrm G G1 am 8 → Post (some (.int 0)) G1) : zM Γ (d + 4) mX11_years 0 0 [.ref (am 0), .int y] G Post := by
  refine zM_of pnX11 rfl (Nat.le_of_ble_eq_true rfl) rfl ?_
  have hS6 := hL.S6
  have hF12 := hL.F12
  have hE4 := hL.E4
  have hK3 := hL.K3
  have hQ : zFrm G G am 8 := zFrm.rf
  refine z_iload_n dX11_years_0 rfl ?_
  refine z_iconst (v := 1) dX11_years_1 (by decide) ?_
  refine z_bipush (v := 60) dX11_years_2 (by decide) ?_
  refine z_S3 (mi' := mX11_in) dX11_years_4 lX11_62 nX11_in kX11_in (by decide) (Nat.le_of_ble_eq_true rfl) (Nat.le_refl _) (Nat.le_refl _) ?_
  refine sX11_in ?_
  refine z_if_ne (tgt := 17) dX11_years_7 (by decide) (fun c1 => ?_) (fun c1 => ?_)
  · have hz : zrYe y = none := by rw [zrYe, if_neg (zinr (zb_n.mp c1))]
    obtain ⟨j, ⟨hj1, hj2⟩, rfl⟩ := zrYe_n hz
    refine z_aload_n dX11_years_17 rfl ?_
    refine z_aload_n dX11_years_18 rfl ?_
    refine z_get dX11_years_19 fX11_7.r (hM.1 _ (by decide)) rfl ?_
    refine z_V1 (mi' := mX11_keeps) dX11_years_22 lX11_87 nX11_keeps kX11_keeps (by decide) (Nat.le_of_ble_eq_true rfl) (Nat.le_refl _) (Nat.le_refl _) (hM.1 _ (by decide)) rfl rfl ?_
    refine sX11_keeps hM (r := 1) (by decide) (by decide) (by decide) hct hc8 (fun G1 hM hF => ?_)
    obtain ⟨ν0, hν0⟩ : ∃ ν0, ν0 = zmkeep μ 1 ct := ⟨_, rfl⟩
    rw [← hν0] at hM
    have hQ := hQ.tr hF
    have hr1 : ν0 1 = μ 1 := by rw [hν0]; exact zmkeep_r (by decide) (by decide)
    replace hL : zRel σ S F E K (ν0 1) mm fl := by rw [hr1]; exact hL
    have hO9 := hO hz j hj1 hj2 rfl ν0 hν0
    have key : ∀ (r : Nat) (i : Nat) (G1 : zH) (ν : zSt) (mm9 : Nat → Nat) (fl9 : Nat → Nat → Nat), i ≤ j → j < i + r → zMod G1 am ν → zFrm G G1 am 8 → (∀ r, r ≠ 1 → ν r = ν0 r) → zRel (zyrs σ S i).1 S F E K (ν 1) mm9 fl9 → zX Γ mX11_years (d + 4) 0 0 29 [some (.ref (am 0)), some (.int (nI j)), some (.int (nI (zyrs σ S i).2)), some (.int (nI i))] [] G1 0 0 (zlift Post) := by
      intro r
      induction r with
      | zero =>
        intro i G1 ν mm9 fl9 hi1 hi2 hM hQ hr9 hL9
        exact absurd hi2 (by omega)
      | succ r ih =>
        intro i G1 ν mm9 fl9 hi1 hi2 hM hQ hr9 hL9
        refine z_iload_n dX11_years_29 rfl ?_
        refine z_iload_n dX11_years_30 rfl ?_
        refine z_icmp_ge (tgt := 47) dX11_years_31 (by decide) (fun c1 => ?_) (fun c1 => ?_)
        · have hi9 := zgeN (N := j) rfl (by omega) (by omega) c1
          have hij : i = j := by omega
          refine z_iload_n dX11_years_47 rfl ?_
          exact z_ireturn (mi := mX11_years) dX11_years_48 rfl rfl (Nat.le_refl _) (Nat.le_refl _) (by rw [hij] at hL9 ⊢; exact hO9 _ _ hM hQ hr9 ⟨mm9, fl9, hL9⟩)
        · have hi9 := zltN (N := j) rfl (by omega) (by omega) c1
          refine z_iload_n dX11_years_34 rfl ?_
          refine z_aload_n dX11_years_35 rfl ?_
          refine z_V0 (mi' := mX11_yearGoes) dX11_years_36 lX11_133 nX11_yearGoes kX11_yearGoes (by decide) (Nat.le_of_ble_eq_true rfl) (Nat.le_refl _) (Nat.le_refl _) (hM.1 _ (by decide)) rfl rfl ?_
          refine sX11_yearGoes hM hL9 (fun G3 ν3 hM hF hr3 hL11 => ?_)
          have hQ := hQ.tr hF
          obtain ⟨mm8, fl8, hL2⟩ := hL11
          have hr2 : ∀ r, r ≠ 1 → ν3 r = ν0 r := fun r h => (hr3 r h).trans (hr9 r h)
          refine z_iadd dX11_years_39 ?_
          refine z_istore_n dX11_years_40 (by decide) rfl ?_
          refine z_iinc dX11_years_41 rfl rfl (by decide) rfl ?_
          refine z_goto (tgt := 29) dX11_years_44 (by decide) ?_
          exact z_sub (lv' := [some (.ref (am 0)), some (.int (nI j)), some (.int (nI (zyrs σ S (i + 1)).2)), some (.int (nI (i + 1)))]) ⟨rfl, rfl, zsl (nI_add _ _), zsl (zinc i), trivial⟩ (ih (i + 1) _ _ _ _ (by omega) (by omega) hM hQ hr2 hL2)
    refine z_iconst (v := 0) dX11_years_25 (by decide) ?_
    refine z_istore_n dX11_years_26 (by decide) rfl ?_
    refine z_iconst (v := 0) dX11_years_27 (by decide) ?_
    refine z_istore_n dX11_years_28 (by decide) rfl ?_
    exact z_sub (lv' := [some (.ref (am 0)), some (.int (nI j)), some (.int (nI (zyrs σ S 0).2)), some (.int (nI 0))]) ⟨rfl, rfl, rfl, rfl, trivial⟩ (key (j + 1) 0 _ _ mm fl (by omega) (by omega) hM hQ (fun _ _ => rfl) hL)
  · refine z_aload_n dX11_years_10 rfl ?_
    refine z_iconst (v := 1) dX11_years_11 (by decide) ?_
    refine z_iconst (v := 0) dX11_years_12 (by decide) ?_
    refine z_V2 (mi' := mX11_refuses) dX11_years_13 lX11_84 nX11_refuses kX11_refuses (by decide) (Nat.le_of_ble_eq_true rfl) (Nat.le_refl _) (Nat.le_refl _) (hM.1 _ (by decide)) rfl rfl ?_
    refine sX11_refuses hM (fun G1 hM hF => ?_)
    have hQ := hQ.tr hF
    exact z_ireturn (mi := mX11_years) dX11_years_16 rfl rfl (Nat.le_refl _) (Nat.le_refl _) (hR 1 0 (by rw [zrYe, if_pos (zoutr (zb_0.mp c1))]) _ hM hQ)
