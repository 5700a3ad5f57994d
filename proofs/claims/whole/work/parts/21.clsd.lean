/-! ===== what the landed class answers, in plain words ===== -/
abbrev zIO : String := "java/lang/IndexOutOfBoundsException"
abbrev zIA : String := "java/lang/IllegalArgumentException"
abbrev zNS : String := "java/util/NoSuchElementException"
abbrev zIS : String := "java/lang/IllegalStateException"
abbrev zUO : String := "java/lang/UnsupportedOperationException"
abbrev zAE : String := "java/lang/ArithmeticException"
abbrev zvi (x : Int32) : zO := .inl (some (.int x))
def zkeepR (ρ : Nat → zSt) (nx : Nat) : Nat → zSt := zrv ρ (3 + nx) (ρ 0)
def zkeepG (γ : zSt) (nx ct : Nat) : zSt := zu (zu γ 0 2 (nI (if nx + 1 < 8 then nx + 1 else 0))) 0 3 (nI (if ct < 8 then ct + 1 else 8))
theorem zkeepR_0 (ρ : Nat → zSt) (nx : Nat) : zkeepR ρ nx 0 = ρ 0 := zrv_n (by omega)
/-- the ring's numbers -/
def zXN (γ : zSt) (nx ct : Nat) : Prop := γ 0 2 = nI nx ∧ nx < 8 ∧ γ 0 3 = nI ct ∧ ct ≤ 8
def zlast (nx : Nat) : Nat := if 0 < nx then nx - 1 else 7
theorem zlast_lt {nx : Nat} (h : nx < 8) : zlast nx < 8 := by unfold zlast; split <;> omega
def zoStoneOf (σ : zSt) (E F : Nat) (x w : Int32) : zO :=
  if ¬ (0 ≤ x ∧ x < σ 13 1) then .inr zIO
  else if w = 0 then zvi (σ 0 x.toNatClampNeg) else if w = 1 then zvi (σ 1 x.toNatClampNeg) else if w = 2 then zvi (σ 2 x.toNatClampNeg) else if w = 3 then zvi (σ 3 x.toNatClampNeg)
  else if w = 4 then zvi (nI (zct (fun f => zmk σ x.toNatClampNeg f) 12)) else if w = 5 then zvi (nI (zdOn σ E F x.toNatClampNeg)) else .inr zIA
def zoFloodOf (σ : zSt) (E F S : Nat) (x w : Int32) : zO :=
  if ¬ (0 ≤ x ∧ x < σ 13 2) then .inr zIO
  else if w = 0 then zvi (σ 4 x.toNatClampNeg) else if w = 1 then zvi (σ 5 x.toNatClampNeg) else if w = 2 then zvi (σ 6 x.toNatClampNeg) else if w = 3 then zvi (nI (zct (fun s => zmk σ s x.toNatClampNeg) 6))
  else if w = 4 then zvi (nI (zdOf σ E F S x.toNatClampNeg)) else if w = 5 then zvi (zcred σ E F S x.toNatClampNeg) else .inr zIA
def zoFloodIn (σ : zSt) (F : Nat) (y : Int32) : zO := if 0 ≤ zfi (fun k => decide (σ 4 k = y)) F then zvi (zfi (fun k => decide (σ 4 k = y)) F) else .inr zNS
def zoBefore (σ : zSt) (F : Nat) (y : Int32) : zO := if 0 ≤ zoi (zla (σ 4) y F) then zvi (zoi (zla (σ 4) y F)) else .inr zNS
def zoEdge (σ : zSt) (z : Int32) : zO := if ¬ (0 ≤ z ∧ z < σ 13 4) then .inr zIO else zvi (σ 9 z.toNatClampNeg)
def zoMarkOf (σ : zSt) (E : Nat) (x y w : Int32) : zO :=
  if ¬ (0 ≤ x ∧ x < σ 13 1) then .inr zIO else if ¬ (0 ≤ y ∧ y < σ 13 2) then .inr zIO
  else if w < 0 ∨ 4 < w then .inr zIA
  else if zmk σ x.toNatClampNeg y.toNatClampNeg = true then
    (if w = 0 then zvi (σ 10 (12 * x.toNatClampNeg + y.toNatClampNeg)) else if w = 1 then zvi (σ 11 (12 * x.toNatClampNeg + y.toNatClampNeg)) else if w = 2 then zvi (σ 12 (12 * x.toNatClampNeg + y.toNatClampNeg))
     else if w = 3 then zvi (ztrue σ E x.toNatClampNeg y.toNatClampNeg) else zvi ((σ 13 0 / 5 + σ 11 (12 * x.toNatClampNeg + y.toNatClampNeg)) * 5 - σ 13 0))
  else .inr zNS
def zoMark (σ : zSt) (x p : Int32) : zO := if ¬ (0 ≤ x ∧ x < σ 13 1) then .inr zIO else if 0 ≤ zfi (zatP σ x.toNatClampNeg p) 12 then zvi (zfi (zatP σ x.toNatClampNeg p) 12) else .inr zNS
def zoLevel (σ : zSt) (x y : Int32) : zO := if ¬ (0 ≤ x ∧ x < σ 13 1) then .inr zIO else if ¬ (0 ≤ y ∧ y < σ 13 2) then .inr zIO else zvi (zlevel σ x.toNatClampNeg y.toNatClampNeg)
def zoReads (σ : zSt) (E : Nat) (x y : Int32) : zO := if ¬ (0 ≤ x ∧ x < σ 13 1) then .inr zIO else if ¬ (0 ≤ y ∧ y < σ 13 2) then .inr zIO else zvi (zread σ E x.toNatClampNeg y.toNatClampNeg)
def zoShift (σ : zSt) (E : Nat) (y : Int32) : zO := if y < 0 ∨ 999 < y then .inr zIA else zvi (zshift σ E y)
def zoErrorIn (σ : zSt) (x m : Int32) : zO := if ¬ (0 ≤ x ∧ x < σ 13 1) then .inr zIO else if m < 0 ∨ 60 < m then .inr zIA else zvi (zerrA (σ 13 0) (σ 3 x.toNatClampNeg) m.toNatClampNeg)
def zoRises (σ : zSt) (E F : Nat) (x : Int32) : zO := if ¬ (0 ≤ x ∧ x < σ 13 1) then .inr zIO else zvi (zb (zdOn σ E F x.toNatClampNeg = 0))
def zoReason (γ : zSt) (w : Int32) : zO := if w < 0 ∨ 2 < w then .inr zIA else if γ 0 4 = 0 then .inr zNS else if w = 0 then zvi (γ 0 4) else if w = 1 then zvi (γ 0 5) else zvi (γ 0 6)
def zoAccount (σ γ : zSt) (E F S : Nat) (w : Int32) : zO :=
  if w = 0 then zvi (σ 13 0) else if w = 1 then zvi (σ 13 1) else if w = 2 then zvi (σ 13 2) else if w = 3 then zvi (σ 13 3) else if w = 4 then zvi (σ 13 4)
  else if w = 5 then zvi (nI (zsm (fun s => zct (fun f => zmk σ s f) 12) 6)) else if w = 6 then zvi (σ 13 5) else if w = 7 then zvi (σ 13 6) else if w = 8 then zvi (σ 13 7)
  else if w = 9 then zvi (nI (zct (fun s => decide (0 < zdOn σ E F s)) S)) else if w = 10 then zvi (γ 0 3) else if w = 11 then zvi (γ 0 7) else .inr zIA
theorem zrSt_S {σ : zSt} {S F E K : Nat} {p b h : Int32} (hN : zN σ S F E K) (hz : zrSt σ p b h = none) : S < 6 := by
  unfold zrSt at hz
  split at hz
  · cases hz
  · split at hz
    · cases hz
    · rename_i q
      rw [hN.1] at q
      exact Nat.lt_of_not_le fun z => q ((nI_leI (by decide) (by have := hN.2.1; omega)).mpr z)
theorem zrFl_F {σ : zSt} {S F E K : Nat} {p b h : Int32} (hN : zN σ S F E K) (hz : zrFl σ F p b h = none) : F < 12 := by
  unfold zrFl at hz
  split at hz
  · cases hz
  · split at hz
    · cases hz
    · split at hz
      · cases hz
      · rename_i q
        rw [hN.2.2.1] at q
        exact Nat.lt_of_not_le fun z => q ((nI_leI (by decide) (by have := hN.2.2.2.1; omega)).mpr z)
theorem zrEp_E {σ : zSt} {S F E K : Nat} {y a : Int32} (hN : zN σ S F E K) (hz : zrEp σ E y a = none) : ztix σ E y < E ∨ E < 4 := by
  unfold zrEp at hz
  split at hz
  · cases hz
  · split at hz
    · cases hz
    · rename_i q
      by_cases h1 : ztix σ E y < E
      · exact Or.inl h1
      · refine Or.inr (Nat.lt_of_not_le fun z => q ⟨by rw [hN.2.2.2.2.1]; exact (nI_leI (by decide) (by have := hN.2.2.2.2.2.1; omega)).mpr z, ?_⟩)
        have h9 : zfi (fun k => decide (σ 7 k = y)) E = -1 := if_neg h1
        rw [h9]
        decide
theorem zrCh_K {σ : zSt} {S F E K : Nat} (hN : zN σ S F E K) (hz : zrCh σ = none) : K < 3 := by
  unfold zrCh at hz
  split at hz
  · cases hz
  · rename_i q
    rw [hN.2.2.2.2.2.2.1] at q
    exact Nat.lt_of_not_le fun z => q ((nI_leI (by decide) (by have := hN.2.2.2.2.2.2.2; omega)).mpr z)
theorem zhas0 {x : Int32} {n : Nat} (hn : n < 2147483648) (h : ¬ ¬ (0 ≤ x ∧ x < nI n)) : ∃ s : Nat, s < n ∧ x = nI s := zhas hn (Decidable.not_not.mp h)
theorem zrCu_n {σ : zSt} {S F E K : Nat} {x y z : Int32} (hN : zN σ S F E K) (hz : zrCu σ E x y z = none) : ∃ s f c : Nat, (s < S ∧ f < F ∧ c < K) ∧ x = nI s ∧ y = nI f ∧ z = nI c := by
  obtain ⟨hS, hS6, hF, hF12, hE, hE4, hK, hK3⟩ := hN
  unfold zrCu at hz
  split at hz
  · cases hz
  · split at hz
    · cases hz
    · split at hz
      · cases hz
      · rename_i q1 q2 q3
        rw [hS] at q1
        rw [hF] at q2
        rw [hK] at q3
        obtain ⟨s, h1, rfl⟩ := zhas0 (by omega) q1
        obtain ⟨f, h2, rfl⟩ := zhas0 (by omega) q2
        obtain ⟨c, h3, rfl⟩ := zhas0 (by omega) q3
        exact ⟨s, f, c, ⟨h1, h2, h3⟩, rfl, rfl, rfl⟩
theorem zrEf_n {σ : zSt} {S F E K : Nat} {x y : Int32} (hN : zN σ S F E K) (hz : zrEf σ x y = none) : ∃ s f : Nat, (s < S ∧ f < F) ∧ x = nI s ∧ y = nI f := by
  obtain ⟨hS, hS6, hF, hF12, hE, hE4, hK, hK3⟩ := hN
  unfold zrEf at hz
  split at hz
  · cases hz
  · split at hz
    · cases hz
    · rename_i q1 q2
      rw [hS] at q1
      rw [hF] at q2
      obtain ⟨s, h1, rfl⟩ := zhas0 (by omega) q1
      obtain ⟨f, h2, rfl⟩ := zhas0 (by omega) q2
      exact ⟨s, f, ⟨h1, h2⟩, rfl, rfl⟩
theorem zrSh_n {σ : zSt} {S F E K : Nat} {z : Int32} (hN : zN σ S F E K) (hz : zrSh σ z = none) : ∃ c : Nat, c < K ∧ z = nI c := by
  unfold zrSh at hz
  split at hz
  · cases hz
  · rename_i q
    rw [hN.2.2.2.2.2.2.1] at q
    exact zhas0 (by have := hN.2.2.2.2.2.2.2; omega) q
theorem zrCk_n {σ : zSt} {S F E K : Nat} {z : Int32} (hN : zN σ S F E K) (hz : zrCk σ z = none) : ∃ c : Nat, c < S ∧ z = nI c := by
  unfold zrCk at hz
  split at hz
  · cases hz
  · rename_i q
    rw [hN.1] at q
    exact zhas0 (by have := hN.2.1; omega) q
theorem zrWi_n {σ : zSt} {S F E K : Nat} {z w : Int32} (hN : zN σ S F E K) (hz : zrWi σ z w = none) : ∃ c : Nat, c < F ∧ z = nI c := by
  unfold zrWi at hz
  split at hz
  · cases hz
  · rename_i q
    rw [hN.2.2.1] at q
    exact zhas0 (by have := hN.2.2.2.1; omega) q
theorem zrYe_n {m : Int32} (hz : zrYe m = none) : ∃ j : Nat, (1 ≤ j ∧ j ≤ 60) ∧ m = nI j := by
  unfold zrYe at hz
  split at hz
  · cases hz
  · rename_i q
    have h1 : ¬ m < 1 := fun z => q (Or.inl z)
    have h2 : ¬ 60 < m := fun z => q (Or.inr z)
    have h0 : ¬ m < 0 := fun z => h1 (by
      have e1 := Int32.lt_iff_toInt_lt.mp z
      refine Int32.lt_iff_toInt_lt.mpr ?_
      have e2 : (0 : Int32).toInt = 0 := by decide
      have e3 : (1 : Int32).toInt = 1 := by decide
      omega)
    obtain ⟨j, hj, rfl⟩ := nI_of h0
    refine ⟨j, ⟨?_, ?_⟩, rfl⟩
    · exact Nat.le_of_not_lt fun z => h1 ((nI_ltI hj (by decide)).mpr z)
    · exact Nat.le_of_not_lt fun z => h2 ((nI_ltI (by decide) hj).mpr z)
