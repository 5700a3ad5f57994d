section ZWF
variable {ρ ρ' : Nat → zSt} {γ γ' μ ν δ : zSt} {m : Nat} {Y Y' : Int} {σ : zSt} {S F E K : Nat}
theorem zcutBn (hF12 : F ≤ 12) (hB : zBnd σ S F E K Y) (hD : zDis σ S F) {s f c : Nat} (hs : s < S) (hf : f < F) (hc : c < K) (h : zrCu1 σ E s f c = none) : zBnd (zcut σ E s f c) S F E K Y ∧ zDis (zcut σ E s f c) S F ∧ 0 < σ 9 c / 2 + 1 ∧ ¬ zmk σ s f = true := by
  obtain ⟨h1, h2, h3, h4, h5, h6⟩ := zrCu_i h
  have b9 := hB.2.2.2.1 c hc
  have b2 := (hB.1 s hs).2.2.1
  have bd := zhalf2 b9
  have be : zBet (σ 9 c - σ 2 s) 0 20 := by
    have e4 := Int32.le_iff_toInt_le.mp (Int32.not_lt.mp h4)
    unfold zBet at b9 b2 ⊢
    rw [zsubI (by omega)]
    omega
  have by9 := hB.2.2.2.2.2
  refine ⟨hB.oCut hF12 hs hf bd.2 (zBet_le h3 (by decide) (by decide)) bd.1 ⟨by have := by9.1; omega, by9.2⟩ be, hD.oCut hF12 hs hf bd.2 (fun o ho hm => zatH_n h5 o (by omega) hm), bd.2, h1⟩
theorem zN.nxB (hN : zN σ S F E K) (hB : zBnd σ S F E K Y) (hD : zDis σ S F) (hY : Y < 2147482000) {x : Int32 × List Int32} (hz : zrX σ E x = none) : zBnd (znx σ E S x) S F E K (Y + 60) ∧ zDis (znx σ E S x) S F := by
  have hS6 := hN.2.1
  have hF12 := hN.2.2.2.1
  have hK3 := hN.2.2.2.2.2.2.2
  unfold zrX at hz
  unfold znx
  by_cases q1 : x.1 = 109
  · rw [if_pos q1] at hz ⊢
    obtain ⟨s, f, c, ⟨hs, hf, hc⟩, e1, e2, e3⟩ := zrCu_n hN hz
    rw [e1, e2, e3] at hz ⊢
    rw [nI_clamp (by omega), nI_clamp (by omega), nI_clamp (by omega)]
    have h := zcutBn hF12 hB hD hs hf hc (zrCu_1 (by omega) (by omega) (by omega) hz)
    exact ⟨h.1.up (by omega), h.2.1⟩
  rw [if_neg q1] at hz ⊢
  by_cases q2 : x.1 = 120
  · rw [if_pos q2] at hz ⊢
    obtain ⟨s, f, ⟨hs, hf⟩, e1, e2⟩ := zrEf_n hN hz
    rw [e1, e2, nI_clamp (by omega), nI_clamp (by omega)]
    have h := zeffB hB hD hF12 s f (by omega)
    exact ⟨h.1.up (by omega), h.2⟩
  rw [if_neg q2] at hz ⊢
  by_cases q3 : x.1 = 107
  · rw [if_pos q3] at hz ⊢
    obtain ⟨s, hs, e1⟩ := zrCk_n hN hz
    rw [e1, nI_clamp (by omega)]
    exact ⟨(hB.oErr hs (zBet_c 0 (by decide))).up (by omega), hD.mono (fun _ _ _ _ => by rw [zu_r (by decide)]) (fun s f a b h => ⟨a, b, by rw [← zmk_cg (σ := zu σ 3 _ 0) (zu_r (by decide))]; exact h⟩)⟩
  rw [if_neg q3] at hz ⊢
  by_cases q4 : x.1 = 115
  · rw [if_pos q4] at hz ⊢
    obtain ⟨c, hc, e1⟩ := zrSh_n hN hz
    rw [e1, nI_clamp (by omega)]
    exact ⟨hB.oSharpen.up (by omega), hD.mono (fun _ _ _ _ => by rw [zu_r (by decide)]) (fun s f a b h => ⟨a, b, by rw [← zmk_cg (σ := zu σ 9 _ 20) (zu_r (by decide))]; exact h⟩)⟩
  rw [if_neg q4] at hz ⊢
  by_cases q5 : x.1 = 119
  · rw [if_pos q5] at hz ⊢
    obtain ⟨f, hf, e1⟩ := zrWi_n hN hz
    rw [e1] at hz ⊢
    rw [nI_clamp (by omega)]
    unfold zrWi at hz
    rw [nI_clamp (by omega)] at hz
    split at hz
    · cases hz
    · split at hz
      · cases hz
      · split at hz
        · cases hz
        · rename_i z1 z2 z3
          exact ⟨(hB.oWitness hf z2 z3).up (by omega), hD.mono (fun _ _ _ _ => by rw [zu_r (by decide)]) (fun s f' a b h => ⟨a, b, by rw [← zmk_cg (σ := zu σ 6 _ _) (zu_r (by decide))]; exact h⟩)⟩
  rw [if_neg q5] at hz ⊢
  obtain ⟨j, ⟨hj1, hj2⟩, e1⟩ := zrYe_n hz
  rw [e1, nI_clamp (by omega)]
  have h := zyrsB (S := S) hB hD j (by omega)
  exact ⟨h.1.up (by omega), h.2⟩
theorem zrunB : ∀ (l : List (Int32 × List Int32)) {σ σ' : zSt} {Y : Int} {i : Nat}, zN σ S F E K → zBnd σ S F E K Y → zDis σ S F → Y + 60 * (l.length : Int) < 2147482000 → zrun σ E S l i = (none, σ') → zBnd σ' S F E K (Y + 60 * (l.length : Int)) ∧ zDis σ' S F
  | [], σ, σ', Y, i, _, hB, hD, _, h => by
    have e : σ = σ' := congrArg Prod.snd h
    rw [← e]
    exact ⟨hB.up (by simp), hD⟩
  | x :: l, σ, σ', Y, i, hN, hB, hD, hY, h => by
    rw [zrun] at h
    cases hz : zrX σ E x with
    | some r =>
      rw [hz] at h
      cases h
    | none =>
      rw [hz] at h
      rw [List.length_cons] at hY ⊢
      have hb := hN.nxB hB hD (by omega) hz
      have h9 := zrunB l (zN_nx hN x) hb.1 hb.2 (by omega) h
      exact ⟨h9.1.up (by omega), h9.2⟩
theorem zmkeep_cg {κ κ' : zSt} {r r' ct : Nat} (h6 : κ 0 6 = 0) (he : ∀ j, j < 229 → κ r j = κ' r' j) (hr : ∀ q, q ≠ 1 → κ q = κ' q) : ∀ q, q ≠ 1 → zmkeep κ r ct q = zmkeep κ' r' ct q := by
  intro q hq
  have h6' : κ' 0 6 = 0 := by rw [← hr 0 (by decide)]; exact h6
  unfold zmkeep
  rw [if_pos h6, if_pos h6']
  by_cases q0 : q = 0
  · subst q0
    funext j
    show zu _ 0 5 _ 0 j = zu _ 0 5 _ 0 j
    by_cases j5 : j = 5
    · rw [j5, zu_s, zu_s]
    · rw [zu_j j5, zu_j j5]
      show zu κ 0 7 0 0 j = zu κ' 0 7 0 0 j
      by_cases j7 : j = 7
      · rw [j7, zu_s, zu_s]
      · rw [zu_j j7, zu_j j7, hr 0 (by decide)]
  · by_cases q2 : q = 2
    · subst q2
      rw [zu_r (by decide), zu_r (by decide)]
      funext j
      show zcy _ _ _ 0 229 j = zcy _ _ _ 0 229 j
      rw [hr 2 (by decide)]
      unfold zcy
      by_cases hj : 229 * (if ct < 8 then ct else 7) ≤ j ∧ j < 229 * (if ct < 8 then ct else 7) + 229
      · rw [if_pos hj, if_pos hj]
        exact he _ (by omega)
      · rw [if_neg hj, if_neg hj]
    · rw [zu_r q0, zu_r q0, zrw_n q2, zrw_n q2, zu_r q0, zu_r q0]
      exact hr q hq
theorem zWd.told (h : zWd ρ γ μ m Y) (hρ : ∀ r, r ≠ 1 → ρ' r = ρ r) (hK : zKp μ ν) (h1 : ∀ j, j < 229 → ν 1 j = μ 1 j) (r1 : γ' 0 4 = ν 0 8 ∧ γ' 0 5 = ν 0 9 ∧ γ' 0 6 = ν 0 10) (h13 : ν 0 13 = 0) (h6 : ν 0 6 = 0) (h14 : γ' 0 1 = ν 0 14) (hγ : ∀ r, r ≠ 0 → r ≠ 2 → r ≠ 3 → γ' r = γ r) (g0 : γ' 0 0 = γ 0 0 ∧ γ' 0 2 = γ 0 2 ∧ γ' 0 3 = γ 0 3 ∧ γ' 0 7 = 0 ∧ γ' 0 10 = γ 0 10) : zWd ρ' γ' ν m Y := by
  obtain ⟨a1, a2, ⟨nx9, ct9, hX9, hc5, hr⟩, a4, a5, ⟨n9, b6, b7, b8, b9, b10⟩, ⟨tx, t1, t2, t3⟩, a8⟩ := h
  obtain ⟨k2, k3, k6, k04, k05, k016⟩ := hK
  refine ⟨by rw [hρ 0 (by decide)]; exact a1.cg h1, ⟨by rw [g0.1, k04]; exact a2.1, fun z => ?_⟩, ⟨nx9, ct9, ⟨by rw [g0.2.1]; exact hX9.1, hX9.2.1, by rw [g0.2.2.1]; exact hX9.2.2.1, hX9.2.2.2⟩, by rw [k05]; exact hc5, fun i hi => by rw [hρ _ (by omega), k2]; exact hr i hi⟩, r1, h14, ⟨0, g0.2.2.2.1, h13, by omega, fun j hj => absurd hj (Nat.not_lt_zero j), fun j hj => by rw [hγ 1 (by decide) (by decide) (by decide)]; exact b10 j hj⟩, ⟨tx, ⟨t1.1, by rw [hγ 5 (by decide) (by decide) (by decide)]; exact t1.2.1, by rw [g0.2.2.2.2]; exact t1.2.2.1, t1.2.2.2.1, by rw [hγ 5 (by decide) (by decide) (by decide)]; exact t1.2.2.2.2.1, t1.2.2.2.2.2⟩, ⟨by rw [k016]; exact t2.1, by rw [k6]; exact t2.2.1, t2.2.2⟩, t3⟩, h6⟩
  rw [hρ 2 (by decide), k3]
  rw [g0.1] at z
  exact a2.2 z
theorem zWd.cmdF {q : Nat} (h : zWd ρ γ μ m Y) (hδ : zTs γ δ) (hK : zKp μ ν) (hR : zRs μ ν) (h1 : ν 1 = μ 1) (h6 : ν 0 6 = 0) (h13 : ν 0 13 = 0) (h14 : ν 0 14 = nI q) : zWd ρ (zu (zu δ 0 1 (nI q)) 0 7 0) ν m Y := by
  have d := hδ.2
  refine h.told (fun _ _ => rfl) hK (fun j _ => by rw [h1]) ⟨?_, ?_, ?_⟩ h13 h6 h14.symm (fun r a b c => ?_) ⟨d 0 (by decide) (by decide), d 2 (by decide) (by decide), d 3 (by decide) (by decide), rfl, d 10 (by decide) (by decide)⟩
  · rw [hR.1, ← h.2.2.2.1.1]; exact d 4 (by decide) (by decide)
  · rw [hR.2.1, ← h.2.2.2.1.2.1]; exact d 5 (by decide) (by decide)
  · rw [hR.2.2, ← h.2.2.2.1.2.2]; exact d 6 (by decide) (by decide)
  · rw [zu_r a, zu_r a]; exact hδ.1 r a b c
theorem zWd.cmdR {rn rd : Int32} {i : Nat} (h : zWd ρ γ μ m Y) (hρ : ∀ r, r ≠ 1 → ρ' r = ρ r) (hδ : zTs γ δ) (hK : zCmR μ ν rn rd i) : zWd ρ' (zu (zref (zu (zu δ 0 1 (-1)) 0 7 0) rn rd) 0 6 (nI i)) ν m Y := by
  have d := hδ.2
  obtain ⟨k1, k2, k3, k4, k5, k6, k7, k8, k9⟩ := hK
  refine h.told hρ k2 k1 ⟨k5.symm, k6.symm, k7.symm⟩ k8 k3 k9.symm (fun r a b c => ?_) ⟨d 0 (by decide) (by decide), d 2 (by decide) (by decide), d 3 (by decide) (by decide), rfl, d 10 (by decide) (by decide)⟩
  unfold zref
  rw [zu_r a, zu_r a, zu_r a, zu_r a, zu_r a, zu_r a]
  exact hδ.1 r a b c
theorem zWd.cmdO {nx ct : Nat} {σ' κ : zSt} (h : zWd ρ γ μ m Y) (hX : zXN γ nx ct) (hδ : zTs γ δ) (hK : zCmO μ κ) (hT : zTie σ' (κ 1) Y') (hY : Y ≤ Y') : zWd (zrv (zkeepR (zrv ρ 1 σ') nx) 0 σ') (zkeepG (zu (zu δ 0 1 (-1)) 0 7 0) nx ct) (zmkeep κ 4 ct) m Y' := by
  have d := hδ.2
  obtain ⟨k1, k2, k3, k4, k5, k6⟩ := hK
  have h9 : zWd (zrv ρ 1 σ') (zu (zu δ 0 1 (-1)) 0 7 0) (zrw κ 1 (μ 1)) m Y := by
    refine h.told (fun r hr => zrv_n hr) ⟨k3.1, k3.2.1, k3.2.2.1, k3.2.2.2.1, k3.2.2.2.2.1, k3.2.2.2.2.2⟩ (fun _ _ => rfl) ⟨?_, ?_, ?_⟩ k5 k1 k6.symm (fun r a b c => ?_) ⟨d 0 (by decide) (by decide), d 2 (by decide) (by decide), d 3 (by decide) (by decide), rfl, d 10 (by decide) (by decide)⟩
    · show δ 0 4 = κ 0 8
      rw [k4.1, ← h.2.2.2.1.1]; exact d 4 (by decide) (by decide)
    · show δ 0 5 = κ 0 9
      rw [k4.2.1, ← h.2.2.2.1.2.1]; exact d 5 (by decide) (by decide)
    · show δ 0 6 = κ 0 10
      rw [k4.2.2, ← h.2.2.2.1.2.2]; exact d 6 (by decide) (by decide)
    · rw [zu_r a, zu_r a]; exact hδ.1 r a b c
  refine h9.kept (nx := nx) (ct := ct) ⟨(d 2 (by decide) (by decide)).trans hX.1, hX.2.1, (d 3 (by decide) (by decide)).trans hX.2.2.1, hX.2.2.2⟩ (by rw [zmkeep_r (by decide) (by decide)]; exact hT) hY (zmkeep_cg k1 (fun j hj => k2 j hj) (fun q hq => (zrw_n hq).symm))
/-- at the beginning -/
theorem zWd.start : zWd (fun _ => zz0) zg0 (zu zm0 1 0 100) 16 100 := by
  refine ⟨⟨0, 0, 0, 0, fun _ => 0, fun _ _ => 0, ⟨⟨rfl, by decide, rfl, by decide, rfl, by decide, rfl, by decide⟩, ⟨rfl, rfl, rfl, rfl, rfl, rfl, rfl, rfl⟩, fun s hs => absurd hs (Nat.not_lt_zero s), fun s k hs => absurd hs (Nat.not_lt_zero s), fun s hs => absurd hs (Nat.not_lt_zero s), fun s hs => absurd hs (Nat.not_lt_zero s), fun s hs => absurd hs (Nat.not_lt_zero s), fun s k k' hs => absurd hs (Nat.not_lt_zero s), fun s k hs => absurd hs (Nat.not_lt_zero s), fun s f _ _ _ => ?_, fun s hs => absurd hs (Nat.not_lt_zero s)⟩, ⟨fun s hs => absurd hs (Nat.not_lt_zero s), fun s hs => absurd hs (Nat.not_lt_zero s), fun s hs => absurd hs (Nat.not_lt_zero s), fun s hs => absurd hs (Nat.not_lt_zero s), fun s k hs => absurd hs (Nat.not_lt_zero s), ?_⟩, fun s f o hs => absurd hs (Nat.not_lt_zero s)⟩, ⟨rfl, fun z => absurd rfl z⟩, ⟨0, 0, ⟨rfl, by decide, rfl, by decide⟩, rfl, fun i hi => absurd hi (Nat.not_lt_zero i)⟩, ⟨rfl, rfl, rfl⟩, rfl, ⟨0, rfl, rfl, by decide, fun j hj => absurd hj (Nat.not_lt_zero j), fun j _ => rfl⟩, ⟨[], ⟨by decide, fun i _ => rfl, rfl, by decide, fun i hi => absurd hi (Nat.not_lt_zero i), fun c hc => absurd hc List.not_mem_nil⟩, ⟨rfl, fun i hi => absurd hi (Nat.not_lt_zero i), fun c hc => absurd hc List.not_mem_nil⟩, by decide⟩, rfl⟩
  · unfold zmk
    rfl
  · exact zBet_c _ (by decide)
end ZWF
