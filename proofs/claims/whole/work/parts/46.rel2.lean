theorem zDis.mono {σ τ : zSt} {S F S' F' : Nat} (h : zDis σ S F) (h10 : ∀ s f, s < S' → f < F' → τ 10 (12 * s + f) = σ 10 (12 * s + f)) (hm : ∀ s f, s < S' → f < F' → zmk τ s f = true → s < S ∧ f < F ∧ zmk σ s f = true) : zDis τ S' F' := by
  intro s f o hs hf ho h1 h2 he
  obtain ⟨a1, a2, a3⟩ := hm s f hs hf h1
  obtain ⟨b1, b2, b3⟩ := hm s o hs ho h2
  rw [h10 s f hs hf, h10 s o hs ho] at he
  exact h s f o a1 a2 b2 a3 b3 he
theorem zRel.oCut {σ : zSt} {S F E K : Nat} {mm : Nat → Nat} {fl : Nat → Nat → Nat} {ν : zSt} (hL : zRel σ S F E K (ν 1) mm fl) {s0 f0 c0 : Nat} {h dp yr ed : Int32} {mm' : Nat → Nat} {fl' : Nat → Nat → Nat} (hs0 : s0 < S) (hf0 : f0 < F) (hc0 : c0 < K) (hm : mm s0 < 6) (hmk : ¬ zmk σ s0 f0 = true) (hdp : 0 < dp) (hm1 : mm' s0 = mm s0 + 1) (hm2 : ∀ s, s ≠ s0 → mm' s = mm s) (hf1 : fl' s0 (mm s0) = f0) (hf2 : ∀ s k, (s = s0 → k < mm s0) → fl' s k = fl s k) : zRel (zu (zu (zu (zu (zu σ 10 (12 * s0 + f0) h) 11 (12 * s0 + f0) dp) 12 (12 * s0 + f0) yr) 13 5 (σ 13 5 + 1)) 9 c0 ed) (S) (F) (E) (K) ((zu (zu (zu (zu (zu (zu (zu ν 1 (5 + 29 * s0 + 5 + 4 * mm s0) (nI f0)) 1 ((5 + 29 * s0 + 5 + 4 * mm s0) + 1) h) 1 ((5 + 29 * s0 + 5 + 4 * mm s0) + 2) dp) 1 ((5 + 29 * s0 + 5 + 4 * mm s0) + 3) yr) 1 (5 + 29 * s0 + 4) (nI (mm s0 + 1))) 1 (226 + c0) ed) 1 1 (σ 13 5 + 1)) 1) (mm') (fl') := by
  have hS6 := hL.S6
  have hF12 := hL.F12
  have hE4 := hL.E4
  have hK3 := hL.K3
  have hn := hL.n
  have hc := hL.sc
  have h00 : True := trivial
  have hz : ∀ s f, f < 12 → zmk (zu (zu (zu (zu (zu σ 10 (12 * s0 + f0) h) 11 (12 * s0 + f0) dp) 12 (12 * s0 + f0) yr) 13 5 (σ 13 5 + 1)) 9 c0 ed) s f = (if s = s0 ∧ f = f0 then true else zmk σ s f) := fun s f hf => by
    unfold zmk
    by_cases e : s = s0 ∧ f = f0
    · rw [if_pos e]
      obtain ⟨e1, e2⟩ := e
      exact decide_eq_true (by (try simp (disch := omega) only [zuN, zuE]) <;> exact hdp)
    · rw [if_neg e]
      (try simp (disch := omega) only [zuN, zuE]) <;> rfl
  refine ⟨⟨by (try simp (disch := omega) only [zuN, zuE, if_pos, if_neg]) <;> exact hn.1, hn.2.1, by (try simp (disch := omega) only [zuN, zuE, if_pos, if_neg]) <;> exact hn.2.2.1, hn.2.2.2.1, by (try simp (disch := omega) only [zuN, zuE, if_pos, if_neg]) <;> exact hn.2.2.2.2.1, hn.2.2.2.2.2.1, by (try simp (disch := omega) only [zuN, zuE, if_pos, if_neg]) <;> exact hn.2.2.2.2.2.2.1, hn.2.2.2.2.2.2.2⟩, ⟨by (try simp (disch := omega) only [zuN, zuE, if_pos, if_neg]) <;> exact hc.1, by (try simp (disch := omega) only [zuN, zuE, if_pos, if_neg]) <;> exact rfl, by (try simp (disch := omega) only [zuN, zuE, if_pos, if_neg]) <;> exact hc.2.2.1, by (try simp (disch := omega) only [zuN, zuE, if_pos, if_neg]) <;> exact hc.2.2.2.1, by (try simp (disch := omega) only [zuN, zuE, if_pos, if_neg]) <;> exact hc.2.2.2.2.1, by (try simp (disch := omega) only [zuN, zuE, if_pos, if_neg]) <;> exact hc.2.2.2.2.2.1, by (try simp (disch := omega) only [zuN, zuE, if_pos, if_neg]) <;> exact hc.2.2.2.2.2.2.1, by (try simp (disch := omega) only [zuN, zuE, if_pos, if_neg]) <;> exact hc.2.2.2.2.2.2.2⟩, ?_, ?_, ?_, ?_, ?_, ?_, ?_, ?_, ?_⟩
  · intro s hs
    by_cases e9 : s = s0
    · rw [e9]
      have h9 := hL.st hs0
      rw [hm1]
      exact ⟨by (try simp (disch := omega) only [zuN, zuE, if_pos, if_neg]) <;> exact h9.1, by (try simp (disch := omega) only [zuN, zuE, if_pos, if_neg]) <;> exact h9.2.1, by (try simp (disch := omega) only [zuN, zuE, if_pos, if_neg]) <;> exact h9.2.2.1, by (try simp (disch := omega) only [zuN, zuE, if_pos, if_neg]) <;> exact h9.2.2.2.1, by (try simp (disch := omega) only [zuN, zuE, if_pos, if_neg]) <;> exact rfl, by omega⟩
    · have h9 := hL.st hs
      rw [hm2 s e9]
      exact ⟨by (try simp (disch := omega) only [zuN, zuE, if_pos, if_neg]) <;> exact h9.1, by (try simp (disch := omega) only [zuN, zuE, if_pos, if_neg]) <;> exact h9.2.1, by (try simp (disch := omega) only [zuN, zuE, if_pos, if_neg]) <;> exact h9.2.2.1, by (try simp (disch := omega) only [zuN, zuE, if_pos, if_neg]) <;> exact h9.2.2.2.1, by (try simp (disch := omega) only [zuN, zuE, if_pos, if_neg]) <;> exact h9.2.2.2.2.1, h9.2.2.2.2.2⟩
  · intro s k hs hk
    by_cases e : s = s0
    · rw [e] at hk ⊢
      rw [hm1] at hk
      by_cases e2 : k = mm s0
      · rw [e2, hf1]
        exact ⟨hf0, by (try simp (disch := omega) only [zuN, zuE, if_pos, if_neg]) <;> exact rfl, by (try simp (disch := omega) only [zuN, zuE, if_pos, if_neg]) <;> exact rfl, by (try simp (disch := omega) only [zuN, zuE, if_pos, if_neg]) <;> exact rfl, by (try simp (disch := omega) only [zuN, zuE, if_pos, if_neg]) <;> exact rfl⟩
      · rw [hf2 s0 k (fun _ => by omega)]
        have h9 := hL.mk hs0 (show k < mm s0 by omega)
        have hne : fl s0 k ≠ f0 := fun q => hmk ((hL.on hs0 (show f0 < 12 by omega)).mpr ⟨k, by omega, q⟩)
        exact ⟨h9.1, by (try simp (disch := omega) only [zuN, zuE, if_pos, if_neg]) <;> exact h9.2.1, by (try simp (disch := omega) only [zuN, zuE, if_pos, if_neg]) <;> exact h9.2.2.1, by (try simp (disch := omega) only [zuN, zuE, if_pos, if_neg]) <;> exact h9.2.2.2.1, by (try simp (disch := omega) only [zuN, zuE, if_pos, if_neg]) <;> exact h9.2.2.2.2⟩
    · rw [hm2 s e] at hk
      rw [hf2 s k (fun q => absurd q e)]
      have h9 := hL.mk hs hk
      have h8 := hL.m6 hs
      have h7 := h9.1
      exact ⟨h9.1, by (try simp (disch := omega) only [zuN, zuE, if_pos, if_neg]) <;> exact h9.2.1, by (try simp (disch := omega) only [zuN, zuE, if_pos, if_neg]) <;> exact h9.2.2.1, by (try simp (disch := omega) only [zuN, zuE, if_pos, if_neg]) <;> exact h9.2.2.2.1, by (try simp (disch := omega) only [zuN, zuE, if_pos, if_neg]) <;> exact h9.2.2.2.2⟩
  · intro f hf
    have h9 := hL.fd hf
    exact ⟨by (try simp (disch := omega) only [zuN, zuE, if_pos, if_neg]) <;> exact h9.1, by (try simp (disch := omega) only [zuN, zuE, if_pos, if_neg]) <;> exact h9.2.1, by (try simp (disch := omega) only [zuN, zuE, if_pos, if_neg]) <;> exact h9.2.2⟩
  · intro e he
    have h9 := hL.ep he
    exact ⟨by (try simp (disch := omega) only [zuN, zuE, if_pos, if_neg]) <;> exact h9.1, by (try simp (disch := omega) only [zuN, zuE, if_pos, if_neg]) <;> exact h9.2⟩
  · intro c hc9
    by_cases e9 : c = c0
    · rw [e9]
      exact by (try simp (disch := omega) only [zuN, zuE, if_pos, if_neg]) <;> exact rfl
    · have h9 := hL.ch hc9
      exact by (try simp (disch := omega) only [zuN, zuE, if_pos, if_neg]) <;> exact h9
  · intro s k k' hs hk hk' e
    by_cases q : s = s0
    · rw [q] at hk hk' e
      rw [hm1] at hk hk'
      by_cases e1 : k = mm s0
      · by_cases e2 : k' = mm s0
        · omega
        · rw [e1, hf1, hf2 s0 k' (fun _ => by omega)] at e
          exact absurd ((hL.on hs0 (show f0 < 12 by omega)).mpr ⟨k', by omega, e.symm⟩) hmk
      · rw [hf2 s0 k (fun _ => by omega)] at e
        by_cases e2 : k' = mm s0
        · rw [e2, hf1] at e
          exact absurd ((hL.on hs0 (show f0 < 12 by omega)).mpr ⟨k, by omega, e⟩) hmk
        · rw [hf2 s0 k' (fun _ => by omega)] at e
          exact hL.inj hs0 (by omega) (by omega) e
    · rw [hm2 s q] at hk hk'
      rw [hf2 s k (fun z => absurd z q), hf2 s k' (fun z => absurd z q)] at e
      exact hL.inj hs hk hk' e
  · intro s f hs hf
    rw [hz s f hf]
    by_cases q : s = s0
    · rw [q, hm1]
      by_cases q2 : f = f0
      · rw [if_pos ⟨rfl, q2⟩]
        exact ⟨fun _ => ⟨mm s0, by omega, hf1.trans q2.symm⟩, fun _ => rfl⟩
      · rw [if_neg (fun z => q2 z.2), hL.on hs0 hf]
        constructor
        · rintro ⟨k, hk, e⟩
          exact ⟨k, by omega, (hf2 s0 k (fun _ => hk)).trans e⟩
        · rintro ⟨k, hk, e⟩
          have e1 : k ≠ mm s0 := fun z => q2 (by rw [← e, z, hf1])
          exact ⟨k, by omega, (hf2 s0 k (fun _ => by omega)).symm.trans e⟩
    · rw [if_neg (fun z => q z.1), hL.on hs hf, hm2 s q]
      constructor
      · rintro ⟨k, hk, e⟩
        exact ⟨k, hk, (hf2 s k (fun z => absurd z q)).trans e⟩
      · rintro ⟨k, hk, e⟩
        exact ⟨k, hk, (hf2 s k (fun z => absurd z q)).symm.trans e⟩
  · intro s f hs h6 hf
    rw [hz s f hf, if_neg (fun z => by omega)]
    exact hL.off hs h6 hf
  · intro e he
    exact by (try simp (disch := omega) only [zuN, zuE, if_pos, if_neg]) <;> exact hL.ep0 he
theorem zBnd.oCut {σ : zSt} {S F E K : Nat} {Y : Int} (hB : zBnd σ S F E K Y) {s0 f0 c0 : Nat} {h dp yr ed : Int32} (hf12 : F ≤ 12) (hs0 : s0 < S) (hf0 : f0 < F) (hdp : 0 < dp) (b1 : zBet h 0 99) (b2 : zBet dp 1 11) (b3 : zBet yr 0 Y) (b4 : zBet ed 0 20) : zBnd (zu (zu (zu (zu (zu σ 10 (12 * s0 + f0) h) 11 (12 * s0 + f0) dp) 12 (12 * s0 + f0) yr) 13 5 (σ 13 5 + 1)) 9 c0 ed) (S) (F) (E) (K) (Y) := by
  have hz : ∀ s f, f < 12 → zmk (zu (zu (zu (zu (zu σ 10 (12 * s0 + f0) h) 11 (12 * s0 + f0) dp) 12 (12 * s0 + f0) yr) 13 5 (σ 13 5 + 1)) 9 c0 ed) s f = (if s = s0 ∧ f = f0 then true else zmk σ s f) := fun s f hf => by
    unfold zmk
    by_cases e : s = s0 ∧ f = f0
    · rw [if_pos e]
      obtain ⟨e1, e2⟩ := e
      exact decide_eq_true (by (try simp (disch := omega) only [zuN, zuE]) <;> exact hdp)
    · rw [if_neg e]
      (try simp (disch := omega) only [zuN, zuE]) <;> rfl
  refine ⟨?_, ?_, ?_, ?_, ?_, ?_⟩
  · intro s hs
    have h9 := hB.1 s hs
    exact ⟨by (try simp (disch := omega) only [zuN, zuE, if_pos, if_neg]) <;> exact h9.1, by (try simp (disch := omega) only [zuN, zuE, if_pos, if_neg]) <;> exact h9.2.1, by (try simp (disch := omega) only [zuN, zuE, if_pos, if_neg]) <;> exact h9.2.2.1, by (try simp (disch := omega) only [zuN, zuE, if_pos, if_neg]) <;> exact h9.2.2.2⟩
  · intro f hf
    have h9 := hB.2.1 f hf
    exact ⟨by (try simp (disch := omega) only [zuN, zuE, if_pos, if_neg]) <;> exact h9.1, by (try simp (disch := omega) only [zuN, zuE, if_pos, if_neg]) <;> exact h9.2.1, by (try simp (disch := omega) only [zuN, zuE, if_pos, if_neg]) <;> exact h9.2.2⟩
  · intro e he
    have h9 := hB.2.2.1 e he
    exact ⟨by (try simp (disch := omega) only [zuN, zuE, if_pos, if_neg]) <;> exact h9.1, by (try simp (disch := omega) only [zuN, zuE, if_pos, if_neg]) <;> exact h9.2⟩
  · intro c hc9
    by_cases e9 : c = c0
    · rw [e9]
      exact by (try simp (disch := omega) only [zuN, zuE, if_pos, if_neg]) <;> exact b4
    · have h9 := hB.2.2.2.1 c hc9
      exact by (try simp (disch := omega) only [zuN, zuE, if_pos, if_neg]) <;> exact h9
  · intro s f hs hf hm
    rw [hz s f (by omega)] at hm
    by_cases e : s = s0 ∧ f = f0
    · obtain ⟨e1, e2⟩ := e
      exact ⟨by (try simp (disch := omega) only [zuN, zuE, if_pos, if_neg]) <;> exact b1, by (try simp (disch := omega) only [zuN, zuE, if_pos, if_neg]) <;> exact b2, by (try simp (disch := omega) only [zuN, zuE, if_pos, if_neg]) <;> exact b3⟩
    · rw [if_neg e] at hm
      have h9 := hB.2.2.2.2.1 s f hs hf hm
      exact ⟨by (try simp (disch := omega) only [zuN, zuE, if_pos, if_neg]) <;> exact h9.1, by (try simp (disch := omega) only [zuN, zuE, if_pos, if_neg]) <;> exact h9.2.1, by (try simp (disch := omega) only [zuN, zuE, if_pos, if_neg]) <;> exact h9.2.2⟩
  · have h9 := hB.2.2.2.2.2
    exact by (try simp (disch := omega) only [zuN, zuE, if_pos, if_neg]) <;> exact h9
theorem zDis.oCut {σ : zSt} {S F : Nat} (hD : zDis σ S F) {s0 f0 c0 : Nat} {h dp yr ed : Int32} (hf12 : F ≤ 12) (hs0 : s0 < S) (hf0 : f0 < F) (hdp : 0 < dp) (hno : ∀ f, f < F → zmk σ s0 f = true → σ 10 (12 * s0 + f) ≠ h) : zDis (zu (zu (zu (zu (zu σ 10 (12 * s0 + f0) h) 11 (12 * s0 + f0) dp) 12 (12 * s0 + f0) yr) 13 5 (σ 13 5 + 1)) 9 c0 ed) S F := by
  have hz : ∀ s f, f < 12 → zmk (zu (zu (zu (zu (zu σ 10 (12 * s0 + f0) h) 11 (12 * s0 + f0) dp) 12 (12 * s0 + f0) yr) 13 5 (σ 13 5 + 1)) 9 c0 ed) s f = (if s = s0 ∧ f = f0 then true else zmk σ s f) := fun s f hf => by
    unfold zmk
    by_cases e : s = s0 ∧ f = f0
    · rw [if_pos e]
      obtain ⟨e1, e2⟩ := e
      exact decide_eq_true (by (try simp (disch := omega) only [zuN, zuE]) <;> exact hdp)
    · rw [if_neg e]
      (try simp (disch := omega) only [zuN, zuE]) <;> rfl
  have h10 : ∀ s f, f < 12 → ¬ (s = s0 ∧ f = f0) → (zu (zu (zu (zu (zu σ 10 (12 * s0 + f0) h) 11 (12 * s0 + f0) dp) 12 (12 * s0 + f0) yr) 13 5 (σ 13 5 + 1)) 9 c0 ed) 10 (12 * s + f) = σ 10 (12 * s + f) := fun s f hf e => by (try simp (disch := omega) only [zuN, zuE]) <;> rfl
  have h1x : (zu (zu (zu (zu (zu σ 10 (12 * s0 + f0) h) 11 (12 * s0 + f0) dp) 12 (12 * s0 + f0) yr) 13 5 (σ 13 5 + 1)) 9 c0 ed) 10 (12 * s0 + f0) = h := by (try simp (disch := omega) only [zuN, zuE]) <;> rfl
  intro s f o hs hf ho h1 h2 he
  rw [hz s f (by omega)] at h1
  rw [hz s o (by omega)] at h2
  by_cases e1 : s = s0 ∧ f = f0
  · by_cases e2 : s = s0 ∧ o = f0
    · omega
    · rw [if_neg e2] at h2
      rw [h10 s o (by omega) e2, e1.1, e1.2, h1x] at he
      rw [e1.1] at h2
      exact absurd he.symm (hno o ho h2)
  · rw [if_neg e1] at h1
    by_cases e2 : s = s0 ∧ o = f0
    · rw [h10 s f (by omega) e1, e2.1, e2.2, h1x] at he
      rw [e2.1] at h1
      exact absurd he (hno f hf h1)
    · rw [if_neg e2] at h2
      rw [h10 s f (by omega) e1, h10 s o (by omega) e2] at he
      exact hD s f o hs hf ho h1 h2 he
theorem zRel.dec {σ : zSt} {S F E K : Nat} {mm : Nat → Nat} {fl : Nat → Nat → Nat} {ν : zSt} (hL : zRel σ S F E K (ν 1) mm fl) {s0 k0 : Nat} {x : Int32} (hs0 : s0 < S) (hk0 : k0 < mm s0) (hx : 0 < x) : zRel (zu σ 11 (12 * s0 + fl s0 k0) x) (S) (F) (E) (K) ((zu ν 1 (5 + 29 * s0 + 5 + 4 * k0 + 2) x) 1) (mm) (fl) := by
  have hS6 := hL.S6
  have hF12 := hL.F12
  have hE4 := hL.E4
  have hK3 := hL.K3
  have hn := hL.n
  have hc := hL.sc
  have hm6 := hL.m6 hs0
  have hf0 := (hL.mk hs0 hk0).1
  have hz : ∀ s f, f < 12 → zmk (zu σ 11 (12 * s0 + fl s0 k0) x) s f = zmk σ s f := fun s f hf => by
    by_cases e : s = s0 ∧ f = fl s0 k0
    · obtain ⟨e1, e2⟩ := e
      rw [e1, e2, (hL.on hs0 (show fl s0 k0 < 12 by omega)).mpr ⟨k0, hk0, rfl⟩]
      unfold zmk
      exact decide_eq_true (by (try simp (disch := omega) only [zuN, zuE]) <;> exact hx)
    · unfold zmk
      (try simp (disch := omega) only [zuN, zuE]) <;> rfl
  refine ⟨⟨by (try simp (disch := omega) only [zuN, zuE, if_pos, if_neg]) <;> exact hn.1, hn.2.1, by (try simp (disch := omega) only [zuN, zuE, if_pos, if_neg]) <;> exact hn.2.2.1, hn.2.2.2.1, by (try simp (disch := omega) only [zuN, zuE, if_pos, if_neg]) <;> exact hn.2.2.2.2.1, hn.2.2.2.2.2.1, by (try simp (disch := omega) only [zuN, zuE, if_pos, if_neg]) <;> exact hn.2.2.2.2.2.2.1, hn.2.2.2.2.2.2.2⟩, ⟨by (try simp (disch := omega) only [zuN, zuE, if_pos, if_neg]) <;> exact hc.1, by (try simp (disch := omega) only [zuN, zuE, if_pos, if_neg]) <;> exact hc.2.1, by (try simp (disch := omega) only [zuN, zuE, if_pos, if_neg]) <;> exact hc.2.2.1, by (try simp (disch := omega) only [zuN, zuE, if_pos, if_neg]) <;> exact hc.2.2.2.1, by (try simp (disch := omega) only [zuN, zuE, if_pos, if_neg]) <;> exact hc.2.2.2.2.1, by (try simp (disch := omega) only [zuN, zuE, if_pos, if_neg]) <;> exact hc.2.2.2.2.2.1, by (try simp (disch := omega) only [zuN, zuE, if_pos, if_neg]) <;> exact hc.2.2.2.2.2.2.1, by (try simp (disch := omega) only [zuN, zuE, if_pos, if_neg]) <;> exact hc.2.2.2.2.2.2.2⟩, ?_, ?_, ?_, ?_, ?_, ?_, ?_, ?_, ?_⟩
  · intro s hs
    have h9 := hL.st hs
    exact ⟨by (try simp (disch := omega) only [zuN, zuE, if_pos, if_neg]) <;> exact h9.1, by (try simp (disch := omega) only [zuN, zuE, if_pos, if_neg]) <;> exact h9.2.1, by (try simp (disch := omega) only [zuN, zuE, if_pos, if_neg]) <;> exact h9.2.2.1, by (try simp (disch := omega) only [zuN, zuE, if_pos, if_neg]) <;> exact h9.2.2.2.1, by (try simp (disch := omega) only [zuN, zuE, if_pos, if_neg]) <;> exact h9.2.2.2.2.1, h9.2.2.2.2.2⟩
  · intro s k hs hk
    have h9 := hL.mk hs hk
    have h8 := hL.m6 hs
    have h7 := h9.1
    by_cases e : s = s0
    · rw [e] at hk h9 h7 ⊢
      by_cases e2 : k = k0
      · rw [e2] at h9 ⊢
        exact ⟨h9.1, by (try simp (disch := omega) only [zuN, zuE, if_pos, if_neg]) <;> exact h9.2.1, by (try simp (disch := omega) only [zuN, zuE, if_pos, if_neg]) <;> exact h9.2.2.1, by (try simp (disch := omega) only [zuN, zuE, if_pos, if_neg]) <;> exact rfl, by (try simp (disch := omega) only [zuN, zuE, if_pos, if_neg]) <;> exact h9.2.2.2.2⟩
      · have hne : fl s0 k ≠ fl s0 k0 := fun q => e2 (hL.inj hs0 hk hk0 q)
        exact ⟨h9.1, by (try simp (disch := omega) only [zuN, zuE, if_pos, if_neg]) <;> exact h9.2.1, by (try simp (disch := omega) only [zuN, zuE, if_pos, if_neg]) <;> exact h9.2.2.1, by (try simp (disch := omega) only [zuN, zuE, if_pos, if_neg]) <;> exact h9.2.2.2.1, by (try simp (disch := omega) only [zuN, zuE, if_pos, if_neg]) <;> exact h9.2.2.2.2⟩
    · exact ⟨h9.1, by (try simp (disch := omega) only [zuN, zuE, if_pos, if_neg]) <;> exact h9.2.1, by (try simp (disch := omega) only [zuN, zuE, if_pos, if_neg]) <;> exact h9.2.2.1, by (try simp (disch := omega) only [zuN, zuE, if_pos, if_neg]) <;> exact h9.2.2.2.1, by (try simp (disch := omega) only [zuN, zuE, if_pos, if_neg]) <;> exact h9.2.2.2.2⟩
  · intro f hf
    have h9 := hL.fd hf
    exact ⟨by (try simp (disch := omega) only [zuN, zuE, if_pos, if_neg]) <;> exact h9.1, by (try simp (disch := omega) only [zuN, zuE, if_pos, if_neg]) <;> exact h9.2.1, by (try simp (disch := omega) only [zuN, zuE, if_pos, if_neg]) <;> exact h9.2.2⟩
  · intro e he
    have h9 := hL.ep he
    exact ⟨by (try simp (disch := omega) only [zuN, zuE, if_pos, if_neg]) <;> exact h9.1, by (try simp (disch := omega) only [zuN, zuE, if_pos, if_neg]) <;> exact h9.2⟩
  · intro c hc9
    have h9 := hL.ch hc9
    exact by (try simp (disch := omega) only [zuN, zuE, if_pos, if_neg]) <;> exact h9
  · intro s k k' hs hk hk' e
    exact hL.inj hs hk hk' e
  · intro s f hs hf
    rw [hz s f hf]
    exact hL.on hs hf
  · intro s f hs h6 hf
    rw [hz s f hf]
    exact hL.off hs h6 hf
  · intro e he
    exact by (try simp (disch := omega) only [zuN, zuE, if_pos, if_neg]) <;> exact hL.ep0 he
theorem zRel.drop {σ : zSt} {S F E K : Nat} {mm : Nat → Nat} {fl : Nat → Nat → Nat} {ν : zSt} (hL : zRel σ S F E K (ν 1) mm fl) {s0 k0 : Nat} {mm' : Nat → Nat} {fl' : Nat → Nat → Nat} (hs0 : s0 < S) (hk0 : k0 < mm s0) {ν' : zSt} (hg : ∀ j, j ≠ 5 + 29 * s0 + 5 + 4 * k0 + 2 → ν' 1 j = ν 1 j) (hm1 : mm' s0 = mm s0 - 1) (hm2 : ∀ s, s ≠ s0 → mm' s = mm s) (hf1 : ∀ j, j < k0 → fl' s0 j = fl s0 j) (hf2 : ∀ j, k0 ≤ j → fl' s0 j = fl s0 (j + 1)) (hf3 : ∀ s j, s ≠ s0 → fl' s j = fl s j) : zRel (zu σ 11 (12 * s0 + fl s0 k0) 0) (S) (F) (E) (K) (zmdrop ν' s0 k0 (mm s0) 1) (mm') (fl') := by
  have hS6 := hL.S6
  have hF12 := hL.F12
  have hE4 := hL.E4
  have hK3 := hL.K3
  have hn := hL.n
  have hc := hL.sc
  have hm6 := hL.m6 hs0
  have hf0 := (hL.mk hs0 hk0).1
  obtain ⟨g9, hg9⟩ : ∃ g9 : Nat → Int32, g9 = zmdrop ν' s0 k0 (mm s0) 1 := ⟨_, rfl⟩
  rw [← hg9]
  have hA : ∀ j, (j < 5 + 29 * s0 + 4 ∨ 5 + 29 * s0 + 5 + 4 * (mm s0 - 1) ≤ j ∨ (5 + 29 * s0 + 4 < j ∧ j < 5 + 29 * s0 + 5 + 4 * k0)) → j ≠ 5 + 29 * s0 + 5 + 4 * k0 + 2 → g9 j = ν 1 j := fun j h1 h2 => by
    rw [hg9, zmdrop, zu_j (show j ≠ 5 + 29 * s0 + 4 by omega), zrw_s, zdp, if_neg (by omega), hg j h2]
  have hB : ∀ j, 5 + 29 * s0 + 5 + 4 * k0 ≤ j → j < 5 + 29 * s0 + 5 + 4 * (mm s0 - 1) → g9 j = ν 1 (j + 4) := fun j h1 h2 => by
    rw [hg9, zmdrop, zu_j (show j ≠ 5 + 29 * s0 + 4 by omega), zrw_s, zdp, if_pos ⟨h1, h2⟩, hg (j + 4) (by omega)]
  have hC : g9 (5 + 29 * s0 + 4) = nI (mm s0 - 1) := by
    rw [hg9, zmdrop, zu_s]
  have hz : ∀ s f, f < 12 → zmk (zu σ 11 (12 * s0 + fl s0 k0) 0) s f = (if s = s0 ∧ f = fl s0 k0 then false else zmk σ s f) := fun s f hf => by
    unfold zmk
    by_cases e : s = s0 ∧ f = fl s0 k0
    · rw [if_pos e]
      obtain ⟨e1, e2⟩ := e
      (try simp (disch := omega) only [zuN, zuE]) <;> rfl
    · rw [if_neg e]
      (try simp (disch := omega) only [zuN, zuE]) <;> rfl
  refine ⟨⟨by (try simp (disch := omega) only [zuN, zuE, if_pos, if_neg]) <;> exact hn.1, hn.2.1, by (try simp (disch := omega) only [zuN, zuE, if_pos, if_neg]) <;> exact hn.2.2.1, hn.2.2.2.1, by (try simp (disch := omega) only [zuN, zuE, if_pos, if_neg]) <;> exact hn.2.2.2.2.1, hn.2.2.2.2.2.1, by (try simp (disch := omega) only [zuN, zuE, if_pos, if_neg]) <;> exact hn.2.2.2.2.2.2.1, hn.2.2.2.2.2.2.2⟩, ⟨by (try simp (disch := omega) only [zuN, zuE, hA]) <;> exact hc.1, by (try simp (disch := omega) only [zuN, zuE, hA]) <;> exact hc.2.1, by (try simp (disch := omega) only [zuN, zuE, hA]) <;> exact hc.2.2.1, by (try simp (disch := omega) only [zuN, zuE, hA]) <;> exact hc.2.2.2.1, by (try simp (disch := omega) only [zuN, zuE, hA]) <;> exact hc.2.2.2.2.1, by (try simp (disch := omega) only [zuN, zuE, hA]) <;> exact hc.2.2.2.2.2.1, by (try simp (disch := omega) only [zuN, zuE, hA]) <;> exact hc.2.2.2.2.2.2.1, by (try simp (disch := omega) only [zuN, zuE, hA]) <;> exact hc.2.2.2.2.2.2.2⟩, ?_, ?_, ?_, ?_, ?_, ?_, ?_, ?_, ?_⟩
  · intro s hs
    by_cases e9 : s = s0
    · rw [e9]
      have h9 := hL.st hs0
      rw [hm1]
      exact ⟨by (try simp (disch := omega) only [zuN, zuE, hA]) <;> exact h9.1, by (try simp (disch := omega) only [zuN, zuE, hA]) <;> exact h9.2.1, by (try simp (disch := omega) only [zuN, zuE, hA]) <;> exact h9.2.2.1, by (try simp (disch := omega) only [zuN, zuE, hA]) <;> exact h9.2.2.2.1, hC, by omega⟩
    · have h9 := hL.st hs
      rw [hm2 s e9]
      exact ⟨by (try simp (disch := omega) only [zuN, zuE, hA]) <;> exact h9.1, by (try simp (disch := omega) only [zuN, zuE, hA]) <;> exact h9.2.1, by (try simp (disch := omega) only [zuN, zuE, hA]) <;> exact h9.2.2.1, by (try simp (disch := omega) only [zuN, zuE, hA]) <;> exact h9.2.2.2.1, by (try simp (disch := omega) only [zuN, zuE, hA]) <;> exact h9.2.2.2.2.1, h9.2.2.2.2.2⟩
  · intro s k hs hk
    by_cases e : s = s0
    · rw [e] at hk ⊢
      rw [hm1] at hk
      by_cases e2 : k < k0
      · rw [hf1 k e2]
        have h9 := hL.mk hs0 (show k < mm s0 by omega)
        have hne : fl s0 k ≠ fl s0 k0 := fun q => by have := hL.inj hs0 (show k < mm s0 by omega) hk0 q; omega
        exact ⟨h9.1, by (try simp (disch := omega) only [zuN, zuE, hA]) <;> exact h9.2.1, by (try simp (disch := omega) only [zuN, zuE, hA]) <;> exact h9.2.2.1, by (try simp (disch := omega) only [zuN, zuE, hA]) <;> exact h9.2.2.2.1, by (try simp (disch := omega) only [zuN, zuE, hA]) <;> exact h9.2.2.2.2⟩
      · rw [hf2 k (by omega)]
        have h9 := hL.mk hs0 (show k + 1 < mm s0 by omega)
        have hne : fl s0 (k + 1) ≠ fl s0 k0 := fun q => by have := hL.inj hs0 (show k + 1 < mm s0 by omega) hk0 q; omega
        exact ⟨h9.1, (hB (5 + 29 * s0 + 5 + 4 * k) (by omega) (by omega)).trans ((congrArg (ν 1) (by omega)).trans (h9.2.1)), (hB (5 + 29 * s0 + 5 + 4 * k + 1) (by omega) (by omega)).trans ((congrArg (ν 1) (by omega)).trans (h9.2.2.1.trans (by (try simp (disch := omega) only [zuN, zuE, if_pos, if_neg]) <;> exact rfl))), (hB (5 + 29 * s0 + 5 + 4 * k + 2) (by omega) (by omega)).trans ((congrArg (ν 1) (by omega)).trans (h9.2.2.2.1.trans (by (try simp (disch := omega) only [zuN, zuE, if_pos, if_neg]) <;> exact rfl))), (hB (5 + 29 * s0 + 5 + 4 * k + 3) (by omega) (by omega)).trans ((congrArg (ν 1) (by omega)).trans (h9.2.2.2.2.trans (by (try simp (disch := omega) only [zuN, zuE, if_pos, if_neg]) <;> exact rfl)))⟩
    · rw [hm2 s e] at hk
      rw [hf3 s k e]
      have h9 := hL.mk hs hk
      have h8 := hL.m6 hs
      have h7 := h9.1
      exact ⟨h9.1, by (try simp (disch := omega) only [zuN, zuE, hA]) <;> exact h9.2.1, by (try simp (disch := omega) only [zuN, zuE, hA]) <;> exact h9.2.2.1, by (try simp (disch := omega) only [zuN, zuE, hA]) <;> exact h9.2.2.2.1, by (try simp (disch := omega) only [zuN, zuE, hA]) <;> exact h9.2.2.2.2⟩
  · intro f hf
    have h9 := hL.fd hf
    exact ⟨by (try simp (disch := omega) only [zuN, zuE, hA]) <;> exact h9.1, by (try simp (disch := omega) only [zuN, zuE, hA]) <;> exact h9.2.1, by (try simp (disch := omega) only [zuN, zuE, hA]) <;> exact h9.2.2⟩
  · intro e he
    have h9 := hL.ep he
    exact ⟨by (try simp (disch := omega) only [zuN, zuE, hA]) <;> exact h9.1, by (try simp (disch := omega) only [zuN, zuE, hA]) <;> exact h9.2⟩
  · intro c hc9
    have h9 := hL.ch hc9
    exact by (try simp (disch := omega) only [zuN, zuE, hA]) <;> exact h9
  · intro s k k' hs hk hk' e
    by_cases q : s = s0
    · rw [q] at hk hk' e
      rw [hm1] at hk hk'
      by_cases e1 : k < k0
      · rw [hf1 k e1] at e
        by_cases e2 : k' < k0
        · rw [hf1 k' e2] at e
          exact hL.inj hs0 (by omega) (by omega) e
        · rw [hf2 k' (by omega)] at e
          have := hL.inj hs0 (show k < mm s0 by omega) (show k' + 1 < mm s0 by omega) e
          omega
      · rw [hf2 k (by omega)] at e
        by_cases e2 : k' < k0
        · rw [hf1 k' e2] at e
          have := hL.inj hs0 (show k + 1 < mm s0 by omega) (show k' < mm s0 by omega) e
          omega
        · rw [hf2 k' (by omega)] at e
          have := hL.inj hs0 (show k + 1 < mm s0 by omega) (show k' + 1 < mm s0 by omega) e
          omega
    · rw [hm2 s q] at hk hk'
      rw [hf3 s k q, hf3 s k' q] at e
      exact hL.inj hs hk hk' e
  · intro s f hs hf
    rw [hz s f hf]
    by_cases q : s = s0
    · rw [q, hm1]
      by_cases q2 : f = fl s0 k0
      · rw [if_pos ⟨rfl, q2⟩]
        constructor
        · intro z
          exact absurd z (by decide)
        · rintro ⟨k, hk, e⟩
          by_cases e1 : k < k0
          · rw [hf1 k e1] at e
            have := hL.inj hs0 (show k < mm s0 by omega) hk0 (e.trans q2)
            omega
          · rw [hf2 k (by omega)] at e
            have := hL.inj hs0 (show k + 1 < mm s0 by omega) hk0 (e.trans q2)
            omega
      · rw [if_neg (fun z => q2 z.2), hL.on hs0 hf]
        constructor
        · rintro ⟨k, hk, e⟩
          by_cases e1 : k < k0
          · exact ⟨k, by omega, (hf1 k e1).trans e⟩
          · have e2 : k ≠ k0 := fun z => q2 (by rw [← e, z])
            refine ⟨k - 1, by omega, ?_⟩
            rw [hf2 (k - 1) (by omega), show k - 1 + 1 = k by omega]
            exact e
        · rintro ⟨k, hk, e⟩
          by_cases e1 : k < k0
          · exact ⟨k, by omega, (hf1 k e1).symm.trans e⟩
          · exact ⟨k + 1, by omega, (hf2 k (by omega)).symm.trans e⟩
    · rw [if_neg (fun z => q z.1), hL.on hs hf, hm2 s q]
      constructor
      · rintro ⟨k, hk, e⟩
        exact ⟨k, hk, (hf3 s k q).trans e⟩
      · rintro ⟨k, hk, e⟩
        exact ⟨k, hk, (hf3 s k q).symm.trans e⟩
  · intro s f hs h6 hf
    rw [hz s f hf, if_neg (fun z => by omega)]
    exact hL.off hs h6 hf
  · intro e he
    exact by (try simp (disch := omega) only [zuN, zuE, if_pos, if_neg]) <;> exact hL.ep0 he
