theorem nI_inj {a b : Nat} (ha : a < 2147483648) (hb : b < 2147483648) (h : nI a = nI b) : a = b := by
  rw [← nI_clamp ha, ← nI_clamp hb, h]
section ZWE
variable {ρ : Nat → zSt} {γ μ : zSt} {m : Nat} {Y Y' : Int}
theorem zTold_cg {c c' : Nat → Int32} {n : Nat} (h : ∀ j, j < n → c j = c' j) (p : Nat) : zisd c n p = zisd c' n p := by
  unfold zisd
  by_cases hp : p < n
  · rw [h p hp]
  · exact (decide_eq_false (fun q => hp q.1)).trans (decide_eq_false (fun q => hp q.1)).symm
theorem zlit_cg {c c' : Nat → Int32} {n : Nat} (h : ∀ j, j < n → c j = c' j) (p : Nat) (x : Int32) : zlit c n p x = zlit c' n p x := by
  unfold zlit
  by_cases hp : p < n
  · rw [h p hp]
  · exact (decide_eq_false (fun q => hp q.1)).trans (decide_eq_false (fun q => hp q.1)).symm
theorem znum_cg {c c' : Nat → Int32} {n : Nat} (h : ∀ j, j < n → c j = c' j) (lg : Bool) (p : Nat) : znum c n lg p = znum c' n lg p := by
  unfold znum
  rw [zTold_cg h p, zTold_cg h (p + 1)]
  by_cases h1 : zisd c' n p = true
  · rw [if_pos h1, if_pos h1, h p (zisd_t h1).1]
    by_cases h2 : (lg && zisd c' n (p + 1)) = true
    · have h3 : zisd c' n (p + 1) = true := by
        rw [Bool.and_eq_true] at h2
        exact h2.2
      rw [if_pos h2, if_pos h2, h (p + 1) (zisd_t h3).1]
    · rw [if_neg h2, if_neg h2]
  · rw [if_neg h1, if_neg h1]
theorem zprt_cg {c c' : Nat → Int32} {n : Nat} (h : ∀ j, j < n → c j = c' j) : ∀ (ds : List Nat) (p : Nat) (a : List Int32), zprt c n ds p a = zprt c' n ds p a
  | [], _, _ => rfl
  | d :: ds, p, a => by
    by_cases hd : d = 49 ∨ d = 50
    · rw [zprt, zprt, if_pos hd, if_pos hd, znum_cg h]
      cases znum c' n (decide (d = 50)) p with
      | none => rfl
      | some r => exact zprt_cg h ds r.2 _
    · rw [zprt, zprt, if_neg hd, if_neg hd, zlit_cg h]
      by_cases h1 : zlit c' n p (nI d) = true
      · rw [if_pos h1, if_pos h1]
        exact zprt_cg h ds _ _
      · rw [if_neg h1, if_neg h1]
theorem zcmd_cg {c c' : Nat → Int32} {n : Nat} (h : ∀ j, j < n → c j = c' j) (p : Nat) : zcmd c n p = zcmd c' n p := by
  unfold zcmd
  by_cases hp : p < n
  · rw [h p hp, zprt_cg h]
  · rw [if_neg (fun q => hp q.1), if_neg (fun q => hp q.1)]
theorem zcmd_lt {c : Nat → Int32} {n p q : Nat} {ns : List Int32} (h : zcmd c n p = (true, q, ns)) : p < n := by
  unfold zcmd at h
  split at h
  · rename_i z
    exact z.1
  · cases h
theorem zscan_cg {c c' : Nat → Int32} {n : Nat} (h : ∀ j, j < n → c j = c' j) : ∀ (f p : Nat), zscan c n f p = zscan c' n f p
  | 0, _ => rfl
  | f + 1, p => by
    rw [zscan, zscan, zcmd_cg h]
    rcases hz : zcmd c' n p with ⟨b, q, ns⟩
    cases b with
    | false => rfl
    | true =>
      have hp := zcmd_lt hz
      show (if n ≤ q then _ else _) = (if n ≤ q then _ else _)
      by_cases hq : n ≤ q
      · rw [if_pos hq, if_pos hq, h p hp]
      · rw [if_neg hq, if_neg hq, h q (Nat.lt_of_not_le hq), h p hp, zscan_cg h f (q + 1)]
theorem zslt_8 {nx i : Nat} (hn : nx < 8) (hi : i < 7) : zslt (if nx + 1 < 8 then nx + 1 else 0) 8 i = zslt nx 8 (i + 1) ∧ zslt nx 8 (i + 1) ≠ nx := by
  unfold zslt
  split <;> omega
theorem zslt_k {nx ct i : Nat} (hn : nx < 8) (hc : ct < 8) (hi : i < ct) : zslt (if nx + 1 < 8 then nx + 1 else 0) (ct + 1) i = zslt nx ct i ∧ zslt nx ct i ≠ nx := by
  unfold zslt
  split <;> omega
theorem zslt_n {nx ct : Nat} (hn : nx < 8) (hc : ct < 8) : zslt (if nx + 1 < 8 then nx + 1 else 0) (ct + 1) ct = nx := by
  unfold zslt
  split <;> omega
theorem zslt_u {nx ct i : Nat} (hn : nx < 8) (hc : ct ≤ 8) (hi : i + 1 < ct) : zslt (zlast nx) (ct - 1) i = zslt nx ct i := by
  unfold zslt zlast
  split <;> omega
theorem zslt_l {nx ct : Nat} (hn : nx < 8) (hc : ct ≤ 8) (h0 : 0 < ct) : zslt nx ct (ct - 1) = zlast nx := by
  unfold zslt zlast
  split <;> omega
/-- a change that is carried out -/
theorem zWd.kept {nx ct : Nat} {σ' ν : zSt} (h : zWd ρ γ μ m Y) (hX : zXN γ nx ct) (hT : zTie σ' (ν 1) Y') (hY : Y ≤ Y') (hν : ∀ r, r ≠ 1 → ν r = zmkeep μ 1 ct r) : zWd (zrv (zkeepR ρ nx) 0 σ') (zkeepG γ nx ct) ν m Y' := by
  obtain ⟨h1, h2, ⟨nx9, ct9, hX9, hc5, hr⟩, h4, h5, ⟨n, h6, h7, h8, h9, h10⟩, ⟨tx, t1, t2, t3⟩, h11⟩ := h
  obtain rfl : nx9 = nx := nI_inj (by have := hX9.2.1; omega) (by have := hX.2.1; omega) (hX9.1.symm.trans hX.1)
  obtain rfl : ct9 = ct := nI_inj (by have := hX9.2.2.2; omega) (by have := hX.2.2.2; omega) (hX9.2.2.1.symm.trans hX.2.2.1)
  have hn8 := hX.2.1
  have hc8 := hX.2.2.2
  have e0 := hν 0 (by decide)
  have e2 := hν 2 (by decide)
  have e3 := hν 3 (by decide)
  have e5 := hν 5 (by decide)
  have e6 := hν 6 (by decide)
  rw [zmkeep_r (by decide) (by decide)] at e3 e5 e6
  have hj : ∀ j, j ≠ 5 → j ≠ 7 → ν 0 j = μ 0 j := fun j a b => by rw [e0]; exact zmkeep_j a b
  have hρ : ∀ s, s < 8 → s ≠ nx9 → zrv (zkeepR ρ nx9) 0 σ' (3 + s) = ρ (3 + s) := fun s _ hs => by
    rw [zrv_n (by omega)]
    exact zrv_n (by omega)
  have hρn : zrv (zkeepR ρ nx9) 0 σ' (3 + nx9) = ρ 0 := by
    rw [zrv_n (by omega)]
    exact zrv_s _ _ _
  have hρ2 : zrv (zkeepR ρ nx9) 0 σ' 2 = ρ 2 := by
    rw [zrv_n (by omega)]
    exact zrv_n (by omega)
  refine ⟨by rw [zrv_s]; exact hT, ⟨?_, fun z => ?_⟩, ⟨if nx9 + 1 < 8 then nx9 + 1 else 0, if ct9 < 8 then ct9 + 1 else 8, ⟨rfl, by split <;> omega, rfl, by split <;> omega⟩, ?_, fun i hi => ?_⟩, ⟨?_, ?_, ?_⟩, ?_, ⟨n, h6, by rw [hj 13 (by decide) (by decide)]; exact h7, h8, fun j hj9 => by rw [e5]; exact h9 j hj9, h10⟩, ⟨tx, t1, ⟨by rw [hj 16 (by decide) (by decide)]; exact t2.1, by rw [e6]; exact t2.2.1, t2.2.2⟩, t3⟩, by rw [hj 6 (by decide) (by decide)]; exact h11⟩
  · rw [hj 4 (by decide) (by decide)]; exact h2.1
  · rw [hρ2, e3]; exact (h2.2 z).up hY
  · rw [e0]; exact zmkeep_5 h11
  · by_cases hc : ct9 < 8
    · rw [if_pos hc] at hi ⊢
      by_cases hi2 : i < ct9
      · have hs := zslt_k hn8 hc hi2
        rw [hs.1, hρ _ (zslt_lt _ _ _) hs.2]
        refine ((hr i hi2).up hY).cg (fun j hj9 => ?_)
        rw [e2]
        exact zmkeep_2a h11 hc hi2 hj9
      · obtain rfl : i = ct9 := by omega
        rw [zslt_n hn8 hc, hρn]
        refine (h1.up hY).cg (fun j hj9 => ?_)
        rw [e2]
        exact zmkeep_2b h11 hc hj9
    · obtain rfl : ct9 = 8 := by omega
      rw [if_neg hc] at hi ⊢
      by_cases hi2 : i < 7
      · have hs := zslt_8 hn8 hi2
        rw [hs.1, hρ _ (zslt_lt _ _ _) hs.2]
        refine ((hr (i + 1) (by omega)).up hY).cg (fun j hj9 => ?_)
        rw [e2]
        exact zmkeep_2c h11 hi2 hj9
      · obtain rfl : i = 7 := by omega
        rw [zslt_n (ct := 7) hn8 (by decide), hρn]
        refine (h1.up hY).cg (fun j hj9 => ?_)
        rw [e2]
        exact zmkeep_2d h11 hj9
  · rw [hj 8 (by decide) (by decide)]; exact h4.1
  · rw [hj 9 (by decide) (by decide)]; exact h4.2.1
  · rw [hj 10 (by decide) (by decide)]; exact h4.2.2
  · rw [hj 14 (by decide) (by decide)]; exact h5
theorem zWd.undo {nx ct : Nat} (h : zWd ρ γ μ m Y) (hX : zXN γ nx ct) (h0 : 0 < ct) : zWd (zrv ρ 0 (ρ (3 + zlast nx))) (zu (zu γ 0 2 (nI (zlast nx))) 0 3 (nI (ct - 1))) (zrw (zu (zu μ 0 7 0) 0 5 (nI (ct - 1))) 1 (zcy (μ 1) (μ 2) 0 (229 * (ct - 1)) 229)) m Y := by
  obtain ⟨h1, h2, ⟨nx9, ct9, hX9, hc5, hr⟩, h4, h5, h6, h7, h8⟩ := h
  obtain rfl : nx9 = nx := nI_inj (by have := hX9.2.1; omega) (by have := hX.2.1; omega) (hX9.1.symm.trans hX.1)
  obtain rfl : ct9 = ct := nI_inj (by have := hX9.2.2.2; omega) (by have := hX.2.2.2; omega) (hX9.2.2.1.symm.trans hX.2.2.1)
  have hn8 := hX.2.1
  have hc8 := hX.2.2.2
  have hl8 : zlast nx9 < 8 := by unfold zlast; split <;> omega
  refine ⟨?_, ⟨h2.1, fun z => by rw [zrv_n (by decide)]; exact h2.2 z⟩, ⟨zlast nx9, ct9 - 1, ⟨rfl, hl8, rfl, by omega⟩, rfl, fun i hi => ?_⟩, h4, h5, h6, h7, h8⟩
  · rw [zrv_s]
    have h9 := hr (ct9 - 1) (by omega)
    rw [zslt_l hn8 hc8 h0] at h9
    refine h9.cg (fun j hj => ?_)
    show zcy (μ 1) (μ 2) 0 (229 * (ct9 - 1)) 229 j = _
    unfold zcy
    rw [if_pos (by omega), Nat.sub_zero]
  · rw [zslt_u hn8 hc8 (by omega), zrv_n (by omega)]
    exact hr i (by omega)
theorem zWd.save (h : zWd ρ γ μ m Y) : zWd (zrv ρ 2 (ρ 0)) (zu γ 0 0 1) (zrw (zu (zu μ 0 7 0) 0 4 1) 3 (zcy (μ 3) (μ 1) 0 0 229)) m Y := by
  obtain ⟨h1, h2, ⟨nx9, ct9, hX9, hc5, hr⟩, h4, h5, h6, h7, h8⟩ := h
  refine ⟨by rw [zrv_n (by decide)]; exact h1, ⟨rfl, fun _ => ?_⟩, ⟨nx9, ct9, hX9, hc5, fun i hi => by rw [zrv_n (by omega)]; exact hr i hi⟩, h4, h5, h6, h7, h8⟩
  rw [zrv_s]
  refine h1.cg (fun j hj => ?_)
  show zcy (μ 3) (μ 1) 0 0 229 j = _
  unfold zcy
  rw [if_pos (by omega), Nat.sub_zero, Nat.zero_add]
theorem zWd.restore (h : zWd ρ γ μ m Y) (h0 : ¬ γ 0 0 = 0) : zWd (zrv ρ 0 (ρ 2)) (zu γ 0 3 0) (zu (zrw (zu μ 0 7 0) 1 (zcy (μ 1) (μ 3) 0 0 229)) 0 5 0) m Y := by
  obtain ⟨h1, h2, ⟨nx9, ct9, hX9, hc5, hr⟩, h4, h5, h6, h7, h8⟩ := h
  refine ⟨?_, ⟨h2.1, fun z => by rw [zrv_n (by decide)]; exact h2.2 z⟩, ⟨nx9, 0, ⟨hX9.1, hX9.2.1, rfl, by omega⟩, rfl, fun i hi => absurd hi (Nat.not_lt_zero i)⟩, h4, h5, h6, h7, h8⟩
  rw [zrv_s]
  refine (h2.2 h0).cg (fun j hj => ?_)
  show zcy (μ 1) (μ 3) 0 0 229 j = _
  unfold zcy
  rw [if_pos (by omega), Nat.sub_zero, Nat.zero_add]
theorem zWd.app {n : Nat} {x : Int32} (h : zWd ρ γ μ m Y) (hn : γ 0 7 = nI n) (hn2 : n < 60) (hx : narrow FieldType.char (.int x) = .int x) (hx2 : vp_nar .char x = x) : zWd ρ (zu (zu γ 1 n (vp_nar .char x)) 0 7 (nI (n + 1))) (zu (zu (zu μ 0 7 0) 5 n x) 0 13 (nI (n + 1))) m Y := by
  obtain ⟨h1, h2, h3, h4, h5, ⟨n9, h6, h7, h8, h9, h10⟩, h11, h12⟩ := h
  obtain rfl : n9 = n := nI_inj (by omega) (by omega) (h6.symm.trans hn)
  rw [hx2]
  refine ⟨h1, h2, h3, h4, h5, ⟨n9 + 1, rfl, rfl, by omega, fun j hj => ?_, fun j hj => ?_⟩, h11, h12⟩
  · show zu γ 1 n9 x 1 j = zu (zu μ 0 7 0) 5 n9 x 5 j
    by_cases e : j = n9
    · rw [e, zu_s, zu_s]
    · rw [zu_j e, zu_j e]
      exact h9 j (by omega)
  · show narrow FieldType.char (.int (zu γ 1 n9 x 1 j)) = .int (zu γ 1 n9 x 1 j)
    by_cases e : j = n9
    · rw [e, zu_s]; exact hx
    · rw [zu_j e]; exact h10 j hj
theorem zWd.line {γ1 ν : zSt} {m1 : Nat} {tx : List Nat} (h : zWd ρ γ μ m Y) (a1 : ∀ r, r ≠ 0 → r ≠ 5 → γ1 r = γ r) (a2 : ∀ j, j ≠ 10 → j ≠ 11 → γ1 0 j = γ 0 j) (a3 : zBt γ1 m1 tx) (hW : zWr (zu μ 0 7 0) ν tx) (hl : tx.length ≤ 80) : zWd ρ γ1 ν m1 Y := by
  obtain ⟨h1, h2, ⟨nx9, ct9, hX9, hc5, hr⟩, h4, h5, ⟨n9, h6, h7, h8, h9, h10⟩, h11, h12⟩ := h
  obtain ⟨w1, w2, w3⟩ := hW
  have k : ∀ r, r ≠ 6 → r ≠ 0 → ν r = μ r := fun r a b => (w1 r a b).trans (zu_r b)
  have k0 : ∀ j, j ≠ 16 → j ≠ 7 → ν 0 j = μ 0 j := fun j a b => (w2 j a).trans (zu_j b)
  refine ⟨by rw [k 1 (by decide) (by decide)]; exact h1, ⟨by rw [a2 0 (by decide) (by decide), k0 4 (by decide) (by decide)]; exact h2.1, fun z => ?_⟩, ⟨nx9, ct9, ⟨by rw [a2 2 (by decide) (by decide)]; exact hX9.1, hX9.2.1, by rw [a2 3 (by decide) (by decide)]; exact hX9.2.2.1, hX9.2.2.2⟩, by rw [k0 5 (by decide) (by decide)]; exact hc5, fun i hi => by rw [k 2 (by decide) (by decide)]; exact hr i hi⟩, ⟨?_, ?_, ?_⟩, ?_, ⟨n9, by rw [a2 7 (by decide) (by decide)]; exact h6, by rw [k0 13 (by decide) (by decide)]; exact h7, h8, fun j hj => by rw [a1 1 (by decide) (by decide), k 5 (by decide) (by decide)]; exact h9 j hj, fun j hj => by rw [a1 1 (by decide) (by decide)]; exact h10 j hj⟩, ⟨tx, a3, w3, hl⟩, by rw [k0 6 (by decide) (by decide)]; exact h12⟩
  · rw [a2 0 (by decide) (by decide)] at z
    rw [k 3 (by decide) (by decide)]
    exact h2.2 z
  · rw [a2 4 (by decide) (by decide), k0 8 (by decide) (by decide)]; exact h4.1
  · rw [a2 5 (by decide) (by decide), k0 9 (by decide) (by decide)]; exact h4.2.1
  · rw [a2 6 (by decide) (by decide), k0 10 (by decide) (by decide)]; exact h4.2.2
  · rw [a2 1 (by decide) (by decide), k0 14 (by decide) (by decide)]; exact h5
end ZWE
