/-! ===== a river and the row that tells the same ===== -/
theorem zRel.cg {σ : zSt} {S F E K : Nat} {g g' : Nat → Int32} {mm : Nat → Nat} {fl : Nat → Nat → Nat} (hL : zRel σ S F E K g mm fl) (he : ∀ j, j < 229 → g' j = g j) : zRel σ S F E K g' mm fl := by
  have hS6 := hL.S6
  have hF12 := hL.F12
  have hE4 := hL.E4
  have hK3 := hL.K3
  refine ⟨hL.1, ?_, fun s hs => ?_, fun s k hs hk => ?_, fun f hf => ?_, fun e hx => ?_, fun c hc => ?_, hL.2.2.2.2.2.2.2⟩
  · rw [he (0) (by omega), he (1) (by omega), he (2) (by omega), he (3) (by omega), he (4) (by omega), he (179) (by omega), he (216) (by omega), he (225) (by omega)]
    exact hL.sc
  · rw [he (5 + 29 * s) (by omega), he (5 + 29 * s + 1) (by omega), he (5 + 29 * s + 2) (by omega), he (5 + 29 * s + 3) (by omega), he (5 + 29 * s + 4) (by omega)]
    exact hL.st hs
  · have h6 := hL.m6 hs
    rw [he (5 + 29 * s + 5 + 4 * k) (by omega), he (5 + 29 * s + 5 + 4 * k + 1) (by omega), he (5 + 29 * s + 5 + 4 * k + 2) (by omega), he (5 + 29 * s + 5 + 4 * k + 3) (by omega)]
    exact hL.mk hs hk
  · rw [he (180 + 3 * f) (by omega), he (180 + 3 * f + 1) (by omega), he (180 + 3 * f + 2) (by omega)]
    exact hL.fd hf
  · rw [he (217 + 2 * e) (by omega), he (217 + 2 * e + 1) (by omega)]
    exact hL.ep hx
  · rw [he (226 + c) (by omega)]
    exact hL.ch hc
def zTie (σ : zSt) (g : Nat → Int32) (Y : Int) : Prop := ∃ S F E K mm fl, zRel σ S F E K g mm fl ∧ zBnd σ S F E K Y ∧ zDis σ S F
theorem zTie.cg {σ : zSt} {g g' : Nat → Int32} {Y : Int} (h : zTie σ g Y) (he : ∀ j, j < 229 → g' j = g j) : zTie σ g' Y := by
  obtain ⟨S, F, E, K, mm, fl, hL, hB, hD⟩ := h
  exact ⟨S, F, E, K, mm, fl, hL.cg he, hB, hD⟩
theorem zTie.up {σ : zSt} {g : Nat → Int32} {Y Y' : Int} (h : zTie σ g Y) (hY : Y ≤ Y') : zTie σ g Y' := by
  obtain ⟨S, F, E, K, mm, fl, hL, hB, hD⟩ := h
  exact ⟨S, F, E, K, mm, fl, hL, hB.up hY, hD⟩
section ZTI
variable {σ ν : zSt} {S F E K : Nat} {mm : Nat → Nat} {fl : Nat → Nat → Nat} {Y : Int}
theorem zlt_of {n m : Nat} {x : Int32} (h : ¬ nI m ≤ x) (e : x = nI n) (hn : n < 2147483648) (hm : m < 2147483648) : n < m := Nat.lt_of_not_le fun q => h (by rw [e]; exact (nI_leI hm hn).mpr q)
theorem zTie.stone (hL : zRel σ S F E K (ν 1) mm fl) (hB : zBnd σ S F E K Y) (hD : zDis σ S F) {p b h : Int32} (hz : zrSt σ p b h = none) : zTie (zu (zu (zu (zu (zu σ 0 S p) 1 S b) 2 S h) 3 S 0) 13 1 (nI (S + 1))) ((zu (zu (zu (zu (zu (zu ν 1 4 (nI (S + 1))) 1 (5 + 29 * S + 0) p) 1 (5 + 29 * S + 1) b) 1 (5 + 29 * S + 2) h) 1 (5 + 29 * S + 3) 0) 1 (5 + 29 * S + 4) 0) 1) Y := by
  have hS6 := hL.S6
  have hF12 := hL.F12
  unfold zrSt at hz
  split at hz
  · cases hz
  · split at hz
    · cases hz
    · rename_i z1 z2
      have h6 : S < 6 := zlt_of (m := 6) z2 hL.n.1 (by omega) (by decide)
      refine ⟨_, _, _, _, _, _, hL.oStone h6, hB.oStone z1 (fun f hf => hL.off (Nat.le_refl S) h6 (by omega)), hD.mono (fun _ _ _ _ => rfl) (fun s f hs hf hm => ?_)⟩
      have hm2 : zmk σ s f = true := by rw [← hm]; exact zmk_cg rfl
      by_cases e : s = S
      · rw [e, hL.off (Nat.le_refl S) h6 (by omega)] at hm2
        cases hm2
      · exact ⟨by omega, hf, hm2⟩
theorem zTie.flood (hL : zRel σ S F E K (ν 1) mm fl) (hB : zBnd σ S F E K Y) (hD : zDis σ S F) {y c w : Int32} (hz : zrFl σ F y c w = none) : zTie (zu (zu (zu (zu σ 4 F y) 5 F c) 6 F w) 13 2 (nI (F + 1))) ((zu (zu (zu (zu ν 1 (180 + 3 * F) y) 1 (180 + 3 * F + 1) c) 1 (180 + 3 * F + 2) w) 1 179 (nI (F + 1))) 1) Y := by
  have hF12 := hL.F12
  unfold zrFl at hz
  split at hz
  · cases hz
  · split at hz
    · cases hz
    · split at hz
      · cases hz
      · rename_i z1 z0 z2
        have h12 : F < 12 := zlt_of (m := 12) z2 hL.n.2.2.1 (by omega) (by decide)
        refine ⟨_, _, _, _, _, _, hL.oFlood h12, hB.oFlood rfl z1 (fun s hs => hL.F0 hs (Nat.le_refl F) h12), hD.mono (fun _ _ _ _ => rfl) (fun s f hs hf hm => ?_)⟩
        have hm2 : zmk σ s f = true := by rw [← hm]; exact zmk_cg rfl
        by_cases e : f = F
        · rw [e, hL.F0 hs (Nat.le_refl F) h12] at hm2
          cases hm2
        · exact ⟨hs, by omega, hm2⟩
theorem zTie.epoch (hL : zRel σ S F E K (ν 1) mm fl) (hB : zBnd σ S F E K Y) (hD : zDis σ S F) {y a : Int32} (hz : zrEp σ E y a = none) : zTie (ztell σ E y a) ((zu (zu (zu ν 1 216 (nI (if ztix σ E y < E then E else E + 1))) 1 (217 + 2 * ztix σ E y) y) 1 (217 + 2 * ztix σ E y + 1) a) 1) Y ∧ ztell σ E y a 13 3 = nI (if ztix σ E y < E then E else E + 1) := by
  have hE4 := hL.E4
  have hE : σ 13 3 = nI E := hL.n.2.2.2.2.1
  unfold zrEp at hz
  split at hz
  · cases hz
  · split at hz
    · cases hz
    · rename_i z1 z2
      have hy : 0 ≤ y := Int32.not_lt.mp (fun q => z1 (Or.inl (Or.inl q)))
      unfold ztell
      by_cases ht : ztix σ E y < E
      · rw [if_pos ht, if_pos ht]
        exact ⟨⟨_, _, _, _, _, _, hL.oEpocha ht hy, hB.oEpocha ht z1, hD.mono (fun _ _ _ _ => rfl) (fun s f hs hf hm => ⟨hs, hf, by rw [← hm]; exact zmk_cg rfl⟩)⟩, hE⟩
      · have h1 : zfi (fun k => decide (σ 7 k = y)) E < 0 := by
          unfold zfi
          rw [if_neg (show ¬ zff (fun k => decide (σ 7 k = y)) E < E from ht)]
          decide
        have h4 : E < 4 := zlt_of (m := 4) (fun q => z2 ⟨q, h1⟩) hE (by omega) (by decide)
        have e1 : ztix σ E y = E := Nat.le_antisymm (ztix_le σ E y) (Nat.le_of_not_lt ht)
        rw [if_neg ht, if_neg ht, e1, hE, show nI E + 1 = nI (E + 1) from nI_add E 1]
        exact ⟨⟨_, _, _, _, _, _, hL.oEpochb h4 hy, hB.oEpochb h4 z1, hD.mono (fun _ _ _ _ => rfl) (fun s f hs hf hm => ⟨hs, hf, by rw [← hm]; exact zmk_cg rfl⟩)⟩, rfl⟩
theorem zTie.chisel (hL : zRel σ S F E K (ν 1) mm fl) (hB : zBnd σ S F E K Y) (hD : zDis σ S F) (hz : zrCh σ = none) : zTie (zu (zu σ 9 K 20) 13 4 (nI (K + 1))) ((zu (zu ν 1 (226 + K) 20) 1 225 (nI (K + 1))) 1) Y := by
  have hK3 := hL.K3
  unfold zrCh at hz
  split at hz
  · cases hz
  · rename_i z2
    have h3 : K < 3 := zlt_of (m := 3) z2 hL.n.2.2.2.2.2.2.1 (by omega) (by decide)
    exact ⟨_, _, _, _, _, _, hL.oChisel h3, hB.oChisel, hD.mono (fun _ _ _ _ => rfl) (fun s f hs hf hm => ⟨hs, hf, by rw [← hm]; exact zmk_cg rfl⟩)⟩
theorem zTie.cut (hL : zRel σ S F E K (ν 1) mm fl) (hB : zBnd σ S F E K Y) (hD : zDis σ S F) {s f c : Nat} (hs : s < S) (hf : f < F) (hc : c < K) (hmm : mm s < 6) (hz : zrCu σ E (nI s) (nI f) (nI c) = none) : zTie (zcut σ E s f c) ((zu (zu (zu (zu (zu (zu (zu ν 1 (5 + 29 * s + 5 + 4 * mm s) (nI f)) 1 ((5 + 29 * s + 5 + 4 * mm s) + 1) (zread σ E s f)) 1 ((5 + 29 * s + 5 + 4 * mm s) + 2) (σ 9 c / 2 + 1)) 1 ((5 + 29 * s + 5 + 4 * mm s) + 3) (σ 13 0)) 1 (5 + 29 * s + 4) (nI (mm s + 1))) 1 (226 + c) (σ 9 c - σ 2 s)) 1 1 (σ 13 5 + 1)) 1) Y := by
  have hS6 := hL.S6
  have hF12 := hL.F12
  have hK3 := hL.K3
  have hcb := zcutB hL hB hD hs hf hc (zrCu_1 (by omega) (by omega) (by omega) hz)
  obtain ⟨mm', fl', h9⟩ := hL.oCut' (h := zread σ E s f) (dp := σ 9 c / 2 + 1) (yr := σ 13 0) (ed := σ 9 c - σ 2 s) hs hf hc hmm hcb.2.2.2 hcb.2.2.1
  exact ⟨_, _, _, _, _, _, h9, hcb.1, hcb.2.1⟩
theorem zTie.efface (hL : zRel σ S F E K (ν 1) mm fl) (hB : zBnd σ S F E K Y) (hD : zDis σ S F) {s f k : Nat} (hs : s < S) (hf : f < F) (hk : k < mm s) (ef : fl s k = f) : zTie (zu (zu σ 11 (12 * s + f) 0) 13 6 (σ 13 6 + 1)) ((zu (zmdrop ν s k (mm s)) 1 2 (σ 13 6 + 1)) 1) Y := by
  have hF12 := hL.F12
  obtain ⟨mm', fl', h9⟩ := hL.oEff' hs hk ef (σ 13 6 + 1)
  have hb := zeffB hB hD hF12 s f (by omega)
  exact ⟨_, _, _, _, _, _, h9, hb.1, hb.2⟩
theorem zTie.check (hL : zRel σ S F E K (ν 1) mm fl) (hB : zBnd σ S F E K Y) (hD : zDis σ S F) {s : Nat} (hs : s < S) : zTie (zu σ 3 s 0) ((zu ν 1 (5 + 29 * s + 3) 0) 1) Y := ⟨_, _, _, _, _, _, hL.oErr hs, hB.oErr hs (zBet_c 0 (by decide)), hD.mono (fun _ _ _ _ => rfl) (fun s f hs hf hm => ⟨hs, hf, by rw [← hm]; exact zmk_cg rfl⟩)⟩
theorem zTie.sharpen (hL : zRel σ S F E K (ν 1) mm fl) (hB : zBnd σ S F E K Y) (hD : zDis σ S F) {c : Nat} (hc : c < K) : zTie (zu σ 9 c 20) ((zu ν 1 (226 + c) 20) 1) Y := ⟨_, _, _, _, _, _, hL.oSharpen hc, hB.oSharpen, hD.mono (fun _ _ _ _ => rfl) (fun s f hs hf hm => ⟨hs, hf, by rw [← hm]; exact zmk_cg rfl⟩)⟩
theorem zTie.witness (hL : zRel σ S F E K (ν 1) mm fl) (hB : zBnd σ S F E K Y) (hD : zDis σ S F) {f : Nat} {w : Int32} (hf : f < F) (hz : zrWi σ (nI f) w = none) : zTie (zu σ 6 f (σ 6 f + w)) ((zu ν 1 (180 + 3 * f + 2) (σ 6 f + w)) 1) Y := by
  have hF12 := hL.F12
  unfold zrWi at hz
  rw [nI_clamp (by omega)] at hz
  split at hz
  · cases hz
  · split at hz
    · cases hz
    · split at hz
      · cases hz
      · rename_i z1 z2 z3
        exact ⟨_, _, _, _, _, _, hL.oWitness hf, hB.oWitness hf z2 z3, hD.mono (fun _ _ _ _ => rfl) (fun s f hs hf hm => ⟨hs, hf, by rw [← hm]; exact zmk_cg rfl⟩)⟩
theorem zTie.years {g : Nat → Int32} (hB : zBnd σ S F E K Y) (hD : zDis σ S F) {j : Nat} (hj : j ≤ 60) (hY : Y < 2147482000) (h : ∃ mm' fl', zRel (zyrs σ S j).1 S F E K g mm' fl') : zTie (zyrs σ S j).1 g (Y + 60) := by
  obtain ⟨mm', fl', h9⟩ := h
  have hb := zyrsB (S := S) hB hD j (by omega)
  exact ⟨_, _, _, _, _, _, h9, hb.1.up (by omega), hb.2⟩
end ZTI
/-! ===== both worlds ===== -/
/-- where the i-th of the kept rivers stands in the ring -/
def zslt (nx ct i : Nat) : Nat := (nx + 8 - ct + i) % 8
theorem zslt_lt (nx ct i : Nat) : zslt nx ct i < 8 := Nat.mod_lt _ (by decide)
def zWd (ρ : Nat → zSt) (γ μ : zSt) (m : Nat) (Y : Int) : Prop := zTie (ρ 0) (μ 1) Y ∧ (γ 0 0 = μ 0 4 ∧ (¬ γ 0 0 = 0 → zTie (ρ 2) (μ 3) Y)) ∧ (∃ nx ct, zXN γ nx ct ∧ μ 0 5 = nI ct ∧ ∀ i, i < ct → zTie (ρ (3 + zslt nx ct i)) (fun j => μ 2 (229 * i + j)) Y) ∧ (γ 0 4 = μ 0 8 ∧ γ 0 5 = μ 0 9 ∧ γ 0 6 = μ 0 10) ∧ γ 0 1 = μ 0 14 ∧ (∃ n, γ 0 7 = nI n ∧ μ 0 13 = nI n ∧ n ≤ 60 ∧ (∀ j, j < n → γ 1 j = μ 5 j) ∧ ∀ j, j < 60 → narrow FieldType.char (.int (γ 1 j)) = .int (γ 1 j)) ∧ (∃ tx, zBt γ m tx ∧ zTx μ tx ∧ tx.length ≤ 80) ∧ μ 0 6 = 0
section ZWD
variable {ρ : Nat → zSt} {γ μ : zSt} {m : Nat} {Y Y' : Int}
theorem zWd.seven (h : zWd ρ γ μ m Y) (c : Int32) : zWd ρ γ (zu μ 0 7 c) m Y := h
theorem zWd.reff (h : zWd ρ γ μ m Y) (rn rd : Int32) : zWd ρ (zref γ rn rd) (zmref μ rn rd) m Y := by
  obtain ⟨h1, h2, h3, h4, h5, h6, h7, h8⟩ := h
  refine ⟨h1, h2, h3, ⟨rfl, rfl, ?_⟩, h5, h6, h7, h8⟩
  show (0 : Int32) = if μ 0 6 = 0 then 0 else μ 0 11
  rw [if_pos h8]
theorem zWd.row4 {γ9 : zSt} (h : zWd ρ γ μ m Y) (h4 : ∀ r, r ≠ 4 → γ9 r = γ r) : zWd ρ γ9 μ m Y := by
  have e0 := h4 0 (by decide)
  have e1 := h4 1 (by decide)
  have e5 := h4 5 (by decide)
  unfold zWd zXN zBt at *
  rw [e0, e1, e5]
  exact h
end ZWD
