/-! ===== a command, in plain words ===== -/
def zrX (σ : zSt) (E : Nat) (x : Int32 × List Int32) : Option (Int32 × Int32) :=
  if x.1 = 109 then zrCu σ E (x.2.getD 0 0) (x.2.getD 1 0) (x.2.getD 2 0) else if x.1 = 120 then zrEf σ (x.2.getD 0 0) (x.2.getD 1 0) else if x.1 = 107 then zrCk σ (x.2.getD 0 0)
  else if x.1 = 115 then zrSh σ (x.2.getD 0 0) else if x.1 = 119 then zrWi σ (x.2.getD 0 0) (x.2.getD 1 0) else zrYe (x.2.getD 0 0)
def znx (σ : zSt) (E S : Nat) (x : Int32 × List Int32) : zSt :=
  if x.1 = 109 then zcut σ E (x.2.getD 0 0).toNatClampNeg (x.2.getD 1 0).toNatClampNeg (x.2.getD 2 0).toNatClampNeg
  else if x.1 = 120 then zu (zu σ 11 (12 * (x.2.getD 0 0).toNatClampNeg + (x.2.getD 1 0).toNatClampNeg) 0) 13 6 (σ 13 6 + 1)
  else if x.1 = 107 then zu σ 3 (x.2.getD 0 0).toNatClampNeg 0
  else if x.1 = 115 then zu σ 9 (x.2.getD 0 0).toNatClampNeg 20
  else if x.1 = 119 then zu σ 6 (x.2.getD 0 0).toNatClampNeg (σ 6 (x.2.getD 0 0).toNatClampNeg + x.2.getD 1 0)
  else (zyrs σ S (x.2.getD 0 0).toNatClampNeg).1
/-- the commands one after the other: why and at which one it is refused, or the river -/
def zrun (σ : zSt) (E S : Nat) : List (Int32 × List Int32) → Nat → Option (Int32 × Int32 × Nat) × zSt
  | [], _ => (none, σ)
  | x :: l, i => match zrX σ E x with
    | some r => (some (r.1, r.2, i), σ)
    | none => zrun (znx σ E S x) E S l (i + 1)
theorem zrCu_i {σ : zSt} {E s f c : Nat} (h : zrCu1 σ E s f c = none) : ¬ zmk σ s f = true ∧ ¬ zlevel σ s f < 1 ∧ ¬ (zread σ E s f < 0 ∨ 99 < zread σ E s f) ∧ ¬ σ 9 c < σ 2 s ∧ ¬ 0 ≤ zfi (zatH σ s (zread σ E s f)) 12 ∧ ¬ 6 ≤ nI (zct (fun f => zmk σ s f) 12) := by
  unfold zrCu1 at h
  by_cases h1 : zmk σ s f = true
  · rw [if_pos h1] at h; cases h
  rw [if_neg h1] at h
  by_cases h2 : zlevel σ s f < 1
  · rw [if_pos h2] at h; cases h
  rw [if_neg h2] at h
  by_cases h3 : zread σ E s f < 0 ∨ 99 < zread σ E s f
  · rw [if_pos h3] at h; cases h
  rw [if_neg h3] at h
  by_cases h4 : σ 9 c < σ 2 s
  · rw [if_pos h4] at h; cases h
  rw [if_neg h4] at h
  by_cases h5 : 0 ≤ zfi (zatH σ s (zread σ E s f)) 12
  · rw [if_pos h5] at h; cases h
  rw [if_neg h5] at h
  by_cases h6 : 6 ≤ nI (zct (fun f => zmk σ s f) 12)
  · rw [if_pos h6] at h; cases h
  exact ⟨h1, h2, h3, h4, h5, h6⟩
theorem zrCu_1 {σ : zSt} {E s f c : Nat} (hs : s < 2147483648) (hf : f < 2147483648) (hc : c < 2147483648) (h : zrCu σ E (nI s) (nI f) (nI c) = none) : zrCu1 σ E s f c = none := by
  unfold zrCu at h
  split at h
  · cases h
  · split at h
    · cases h
    · split at h
      · cases h
      · rw [nI_clamp hs, nI_clamp hf, nI_clamp hc] at h
        exact h
theorem zhalf2 {x : Int32} (h : zBet x 0 20) : zBet (x / 2 + 1) 1 11 ∧ 0 < x / 2 + 1 := by
  unfold zBet at h
  have e : x = nI x.toInt.toNat := by
    have en := nI_toInt (show x.toInt.toNat < 2147483648 by omega)
    exact zeqI.mpr (by omega)
  have key : ∀ k, k < 21 → zBet (nI k / 2 + 1) 1 11 ∧ 0 < nI k / 2 + 1 := by unfold zBet; decide
  have := key x.toInt.toNat (by omega)
  rw [← e] at this
  exact this
theorem zdrB {x : Int32} (h : zBet x (-9) 9) : zBet (zdrift x) (-9) 9 := by
  unfold zBet at h
  have e9 : (9 : Int32).toInt = 9 := by decide
  have e : x = nI (x.toInt + 9).toNat - 9 := by
    have en := nI_toInt (show (x.toInt + 9).toNat < 2147483648 by omega)
    exact zeqI.mpr (by rw [zsubI (by omega)]; omega)
  have key : ∀ k, k < 19 → zBet (zdrift (nI k - 9)) (-9) 9 := by unfold zBet zdrift; decide
  have := key (x.toInt + 9).toNat (by omega)
  rw [← e] at this
  exact this
theorem zatH_n {σ : zSt} {s : Nat} {h : Int32} (hn : ¬ 0 ≤ zfi (zatH σ s h) 12) : ∀ f, f < 12 → zmk σ s f = true → σ 10 (12 * s + f) ≠ h := fun f hf hm q => by
  have h1 := zfi_lt (by decide) hn
  have h2 := zff_nn (p := zatH σ s h) (n := 12) (Nat.le_antisymm (zff_le _ _) (Nat.le_of_not_lt h1)) f hf
  unfold zatH at h2
  rw [hm, decide_eq_true q] at h2
  exact absurd h2 (by decide)
section ZNX
variable {σ : zSt} {S F E K : Nat} {g : Nat → Int32} {mm : Nat → Nat} {fl : Nat → Nat → Nat} {Y : Int}
theorem zBnd.up {Y' : Int} (hB : zBnd σ S F E K Y) (h : Y ≤ Y') : zBnd σ S F E K Y' := ⟨hB.1, fun f hf => ⟨zBet_up (hB.2.1 f hf).1 h, (hB.2.1 f hf).2⟩, hB.2.2.1, hB.2.2.2.1, fun s f hs hf hm => ⟨(hB.2.2.2.2.1 s f hs hf hm).1, (hB.2.2.2.2.1 s f hs hf hm).2.1, zBet_up (hB.2.2.2.2.1 s f hs hf hm).2.2 h⟩, zBet_up hB.2.2.2.2.2 h⟩
theorem zBnd.num {j : Nat} {x : Int32} (hj : j ≠ 0) (hB : zBnd σ S F E K Y) : zBnd (zu σ 13 j x) S F E K Y := by
  have h13 : ∀ r, r < 13 → zu σ 13 j x r = σ r := fun r h => zu_r (by omega)
  have hz : ∀ s f, zmk (zu σ 13 j x) s f = zmk σ s f := fun s f => zmk_cg (h13 11 (by decide))
  refine ⟨fun s hs => ?_, fun f hf => ?_, fun e he => ?_, fun c hc => ?_, fun s f hs hf hm => ?_, ?_⟩
  · rw [h13 0 (by decide), h13 1 (by decide), h13 2 (by decide), h13 3 (by decide)]; exact hB.1 s hs
  · rw [h13 4 (by decide), h13 5 (by decide), h13 6 (by decide)]; exact hB.2.1 f hf
  · rw [h13 7 (by decide), h13 8 (by decide)]; exact hB.2.2.1 e he
  · rw [h13 9 (by decide)]; exact hB.2.2.2.1 c hc
  · rw [h13 10 (by decide), h13 11 (by decide), h13 12 (by decide)]; exact hB.2.2.2.2.1 s f hs hf (by rw [← hz]; exact hm)
  · rw [zu_j (show 0 ≠ j from Ne.symm hj)]; exact hB.2.2.2.2.2
theorem zcutB (hL : zRel σ S F E K g mm fl) (hB : zBnd σ S F E K Y) (hD : zDis σ S F) {s f c : Nat} (hs : s < S) (hf : f < F) (hc : c < K) (h : zrCu1 σ E s f c = none) : zBnd (zcut σ E s f c) S F E K Y ∧ zDis (zcut σ E s f c) S F ∧ 0 < σ 9 c / 2 + 1 ∧ ¬ zmk σ s f = true := by
  have hF12 := hL.F12
  obtain ⟨h1, h2, h3, h4, h5, h6⟩ := zrCu_i h
  have b9 := hB.2.2.2.1 c hc
  have b2 := (hB.1 s hs).2.2.1
  have bd := zhalf2 b9
  have be : zBet (σ 9 c - σ 2 s) 0 20 := by
    have e4 := Int32.le_iff_toInt_le.mp (Int32.not_lt.mp h4)
    unfold zBet at b9 b2 ⊢
    rw [zsubI (by omega)]
    omega
  have by9 := hB.2.2.2.2.2
  refine ⟨hB.oCut hF12 hs hf bd.2 (zBet_le h3 (by decide) (by decide)) bd.1 ⟨by have := by9.1; omega, by9.2⟩ be, hD.oCut hF12 hs hf bd.2 (fun o ho hm => zatH_n h5 o (by omega) hm), bd.2, h1⟩
theorem zeffB (hB : zBnd σ S F E K Y) (hD : zDis σ S F) (hF12 : F ≤ 12) (s0 f0 : Nat) (hf0 : f0 < 12) : zBnd (zu (zu σ 11 (12 * s0 + f0) 0) 13 6 (σ 13 6 + 1)) S F E K Y ∧ zDis (zu (zu σ 11 (12 * s0 + f0) 0) 13 6 (σ 13 6 + 1)) S F := by
  have hz : ∀ s f, f < 12 → zmk (zu (zu σ 11 (12 * s0 + f0) 0) 13 6 (σ 13 6 + 1)) s f = true → zmk σ s f = true ∧ 12 * s + f ≠ 12 * s0 + f0 := fun s f hf h => by
    unfold zmk at h ⊢
    by_cases e : 12 * s + f = 12 * s0 + f0
    · rw [zu_r (by decide), zuE rfl e] at h
      exact absurd (of_decide_eq_true h) (by decide)
    · rw [zu_r (by decide), zu_j e] at h
      exact ⟨h, e⟩
  refine ⟨zBnd.num (by decide) ⟨hB.1, hB.2.1, hB.2.2.1, hB.2.2.2.1, fun s f hs hf hm => ?_, hB.2.2.2.2.2⟩, hD.mono (fun s f _ _ => by rw [zu_r (by decide), zu_r (by decide)]) (fun s f hs hf h => ⟨hs, hf, (hz s f (by omega) h).1⟩)⟩
  have h := hz s f (by omega) (by rw [zmk_cg (σ := zu (zu σ 11 (12 * s0 + f0) 0) 13 6 (σ 13 6 + 1)) (zu_r (by decide))]; exact hm)
  have h9 := hB.2.2.2.2.1 s f hs hf h.1
  exact ⟨h9.1, by rw [zu_j h.2]; exact h9.2.1, h9.2.2⟩
theorem zy1_r (r : Nat) (h3 : r ≠ 3) (h11 : r ≠ 11) (h13 : r ≠ 13) : zy1 σ S r = σ r := by
  have hA : zyA σ S r = σ r := by
    unfold zyA
    split
    · rw [zdr, zrw_n h3, zy0, zu_r h13]
    · rw [zy0, zu_r h13]
  unfold zy1
  split
  · rw [zwt, zu_r h13, zrw_n h11, hA]
  · exact hA
theorem zy1_3 {s : Nat} (hs : s < S) : zy1 σ S 3 s = zdrift (σ 3 s) ∨ zy1 σ S 3 s = σ 3 s := by
  have h1 : zy1 σ S 3 = zyA σ S 3 := by
    unfold zy1
    split
    · rw [zwt, zu_r (by decide), zrw_n (by decide)]
    · rfl
  rw [h1]
  unfold zyA
  split
  · refine Or.inl ?_
    rw [zdr, zrw_s, zdrow, if_pos hs]
    rfl
  · exact Or.inr rfl
theorem zy1_11 (c : Nat) : zy1 σ S 11 c = σ 11 c ∨ (0 < σ 11 c ∧ zy1 σ S 11 c = σ 11 c - 1) := by
  have hA : zyA σ S 11 = σ 11 := by
    unfold zyA
    split
    · rw [zdr, zrw_n (by decide), zy0, zu_r (by decide)]
    · rw [zy0, zu_r (by decide)]
  unfold zy1
  split
  · rw [zwt, zu_r (by decide), zrw_s, hA, zwrow]
    by_cases e : c < 72 ∧ 0 < σ 11 c
    · rw [if_pos e]
      exact Or.inr ⟨e.2, rfl⟩
    · rw [if_neg e]
      exact Or.inl rfl
  · rw [hA]
    exact Or.inl rfl
theorem zy1_0 : zy1 σ S 13 0 = σ 13 0 + 1 := by
  have hA : zyA σ S 13 0 = σ 13 0 + 1 := by
    unfold zyA
    split
    · rw [zdr, zrw_n (by decide), zy0, zu_s]
    · rw [zy0, zu_s]
  unfold zy1
  split
  · rw [zwt, zu_j (by decide), zrw_n (by decide), hA]
  · exact hA
theorem zy1_mk {s f : Nat} (h : zmk (zy1 σ S) s f = true) : zmk σ s f = true := by
  have h1 : 0 < zy1 σ S 11 (12 * s + f) := of_decide_eq_true h
  rcases zy1_11 (σ := σ) (S := S) (12 * s + f) with e | e
  · rw [e] at h1
    exact decide_eq_true h1
  · exact decide_eq_true e.1
theorem zyB (hB : zBnd σ S F E K Y) (hY : Y < 2147483000) : zBnd (zy1 σ S) S F E K (Y + 1) := by
  have h0 : ∀ r, r ≠ 3 → r ≠ 11 → r ≠ 13 → zy1 σ S r = σ r := fun r a b c => zy1_r r a b c
  have hU := hB.up (show Y ≤ Y + 1 by omega)
  refine ⟨fun s hs => ?_, fun f hf => ?_, fun e he => ?_, fun c hc => ?_, fun s f hs hf hm => ?_, ?_⟩
  · rw [h0 0 (by decide) (by decide) (by decide), h0 1 (by decide) (by decide) (by decide), h0 2 (by decide) (by decide) (by decide)]
    have h9 := hB.1 s hs
    refine ⟨h9.1, h9.2.1, h9.2.2.1, ?_⟩
    rcases zy1_3 (σ := σ) hs with e | e
    · rw [e]; exact zdrB h9.2.2.2
    · rw [e]; exact h9.2.2.2
  · rw [h0 4 (by decide) (by decide) (by decide), h0 5 (by decide) (by decide) (by decide), h0 6 (by decide) (by decide) (by decide)]; exact hU.2.1 f hf
  · rw [h0 7 (by decide) (by decide) (by decide), h0 8 (by decide) (by decide) (by decide)]; exact hB.2.2.1 e he
  · rw [h0 9 (by decide) (by decide) (by decide)]; exact hB.2.2.2.1 c hc
  · rw [h0 10 (by decide) (by decide) (by decide), h0 12 (by decide) (by decide) (by decide)]
    have h9 := hU.2.2.2.2.1 s f hs hf (zy1_mk hm)
    refine ⟨h9.1, ?_, h9.2.2⟩
    have h1 : 0 < zy1 σ S 11 (12 * s + f) := of_decide_eq_true hm
    have h2 := h9.2.1
    rcases zy1_11 (σ := σ) (S := S) (12 * s + f) with e | e
    · rw [e]; exact h2
    · rw [e.2] at h1 ⊢
      have h3 := Int32.lt_iff_toInt_lt.mp h1
      have e1 : (1 : Int32).toInt = 1 := by decide
      unfold zBet at h2 ⊢
      rw [zsubI (by omega), z0I] at h3
      rw [zsubI (by omega)]
      omega
  · rw [zy1_0]
    have h9 := hB.2.2.2.2.2
    have e1 : (1 : Int32).toInt = 1 := by decide
    unfold zBet at h9 ⊢
    rw [zaddI (by omega)]
    omega
theorem zyD (hD : zDis σ S F) : zDis (zy1 σ S) S F := hD.mono (fun s f _ _ => by rw [zy1_r 10 (by decide) (by decide) (by decide)]) (fun s f hs hf h => ⟨hs, hf, zy1_mk h⟩)
theorem zyrsB (hB : zBnd σ S F E K Y) (hD : zDis σ S F) : ∀ n : Nat, Y + n < 2147483000 → zBnd (zyrs σ S n).1 S F E K (Y + n) ∧ zDis (zyrs σ S n).1 S F
  | 0, _ => ⟨hB.up (by omega), hD⟩
  | n + 1, h => by
    have ih := zyrsB hB hD n (by omega)
    refine ⟨?_, zyD ih.2⟩
    have := zyB ih.1 (by omega)
    exact this.up (by omega)
/-- a command that isn't refused keeps the bounds and the different heights -/
theorem zRel.nx (hL : zRel σ S F E K g mm fl) (hB : zBnd σ S F E K Y) (hD : zDis σ S F) (hY : Y < 2147482000) {x : Int32 × List Int32} (hz : zrX σ E x = none) : zBnd (znx σ E S x) S F E K (Y + 60) ∧ zDis (znx σ E S x) S F := by
  have hS6 := hL.S6
  have hF12 := hL.F12
  have hK3 := hL.K3
  have hN := hL.n
  unfold zrX at hz
  unfold znx
  by_cases q1 : x.1 = 109
  · rw [if_pos q1] at hz ⊢
    obtain ⟨s, f, c, ⟨hs, hf, hc⟩, e1, e2, e3⟩ := zrCu_n hN hz
    rw [e1, e2, e3] at hz ⊢
    rw [nI_clamp (by omega), nI_clamp (by omega), nI_clamp (by omega)]
    have h := zcutB hL hB hD hs hf hc (zrCu_1 (by omega) (by omega) (by omega) hz)
    exact ⟨h.1.up (by omega), h.2.1⟩
  rw [if_neg q1] at hz ⊢
  by_cases q2 : x.1 = 120
  · rw [if_pos q2] at hz ⊢
    obtain ⟨s, f, ⟨hs, hf⟩, e1, e2⟩ := zrEf_n hN hz
    rw [e1, e2, nI_clamp (by omega), nI_clamp (by omega)]
    have h := zeffB hB hD hF12 s f (by omega)
    exact ⟨h.1.up (by omega), h.2⟩
  rw [if_neg q2] at hz ⊢
  by_cases q3 : x.1 = 107
  · rw [if_pos q3] at hz ⊢
    obtain ⟨s, hs, e1⟩ := zrCk_n hN hz
    rw [e1, nI_clamp (by omega)]
    exact ⟨(hB.oErr hs (zBet_c 0 (by decide))).up (by omega), hD.mono (fun _ _ _ _ => by rw [zu_r (by decide)]) (fun s f a b h => ⟨a, b, by rw [← zmk_cg (σ := zu σ 3 _ 0) (zu_r (by decide))]; exact h⟩)⟩
  rw [if_neg q3] at hz ⊢
  by_cases q4 : x.1 = 115
  · rw [if_pos q4] at hz ⊢
    obtain ⟨c, hc, e1⟩ := zrSh_n hN hz
    rw [e1, nI_clamp (by omega)]
    exact ⟨hB.oSharpen.up (by omega), hD.mono (fun _ _ _ _ => by rw [zu_r (by decide)]) (fun s f a b h => ⟨a, b, by rw [← zmk_cg (σ := zu σ 9 _ 20) (zu_r (by decide))]; exact h⟩)⟩
  rw [if_neg q4] at hz ⊢
  by_cases q5 : x.1 = 119
  · rw [if_pos q5] at hz ⊢
    obtain ⟨f, hf, e1⟩ := zrWi_n hN hz
    rw [e1] at hz ⊢
    rw [nI_clamp (by omega)]
    unfold zrWi at hz
    rw [nI_clamp (by omega)] at hz
    split at hz
    · cases hz
    · split at hz
      · cases hz
      · split at hz
        · cases hz
        · rename_i z1 z2 z3
          exact ⟨(hB.oWitness hf z2 z3).up (by omega), hD.mono (fun _ _ _ _ => by rw [zu_r (by decide)]) (fun s f' a b h => ⟨a, b, by rw [← zmk_cg (σ := zu σ 6 _ _) (zu_r (by decide))]; exact h⟩)⟩
  rw [if_neg q5] at hz ⊢
  obtain ⟨j, ⟨hj1, hj2⟩, e1⟩ := zrYe_n hz
  rw [e1, nI_clamp (by omega)]
  have h := zyrsB (S := S) hB hD j (by omega)
  exact ⟨h.1.up (by omega), h.2⟩
end ZNX
