/-! ===== what the changes keep ===== -/
theorem zuN {σ : zSt} {r j r' j' : Nat} {x : Int32} (h : ¬ (r' = r ∧ j' = j)) : zu σ r j x r' j' = σ r' j' := if_neg h
theorem zuE {σ : zSt} {r j r' j' : Nat} {x : Int32} (h1 : r' = r) (h2 : j' = j) : zu σ r j x r' j' = x := if_pos ⟨h1, h2⟩
theorem zmk_cg {σ τ : zSt} {s f : Nat} (h : σ 11 = τ 11) : zmk σ s f = zmk τ s f := by
  unfold zmk
  rw [h]
theorem zRel.F0 {σ : zSt} {S F E K : Nat} {g : Nat → Int32} {mm : Nat → Nat} {fl : Nat → Nat → Nat} (hL : zRel σ S F E K g mm fl) {s f : Nat} (hs : s < S) (hf : F ≤ f) (h12 : f < 12) : zmk σ s f = false := by
  refine zbf (fun q => ?_)
  obtain ⟨k, hk, e⟩ := (hL.on hs h12).mp q
  have := (hL.mk hs hk).1
  omega
theorem zBet_n (n : Nat) (a b : Int) (hn : n < 2147483648) (h1 : a ≤ n) (h2 : (n : Int) ≤ b) : zBet (nI n) a b := by
  unfold zBet
  rw [nI_toInt hn]
  exact ⟨h1, h2⟩
theorem zBet_le {x a b : Int32} {m n : Int} (h : ¬ (x < a ∨ b < x)) (ha : a.toInt = m) (hb : b.toInt = n) : zBet x m n := by
  have h1 := Int32.le_iff_toInt_le.mp (Int32.not_lt.mp (fun q => h (Or.inl q)))
  have h2 := Int32.le_iff_toInt_le.mp (Int32.not_lt.mp (fun q => h (Or.inr q)))
  exact ⟨by omega, by omega⟩
theorem zBet_c {a b : Int} (x : Int32) (h : a ≤ x.toInt ∧ x.toInt ≤ b) : zBet x a b := h
theorem zBet_up {x : Int32} {a b c : Int} (h : zBet x a b) (hc : b ≤ c) : zBet x a c := ⟨h.1, by have := h.2; omega⟩
theorem zRel.oStone {σ : zSt} {S F E K : Nat} {mm : Nat → Nat} {fl : Nat → Nat → Nat} {ν : zSt} (hL : zRel σ S F E K (ν 1) mm fl) (hS : S < 6) {p b h : Int32} : zRel (zu (zu (zu (zu (zu σ 0 S p) 1 S b) 2 S h) 3 S 0) 13 1 (nI (S + 1))) (S + 1) (F) (E) (K) ((zu (zu (zu (zu (zu (zu ν 1 4 (nI (S + 1))) 1 (5 + 29 * S + 0) p) 1 (5 + 29 * S + 1) b) 1 (5 + 29 * S + 2) h) 1 (5 + 29 * S + 3) 0) 1 (5 + 29 * S + 4) 0) 1) (fun s => if s = S then 0 else mm s) (fl) := by
  have hS6 := hL.S6
  have hF12 := hL.F12
  have hE4 := hL.E4
  have hK3 := hL.K3
  have hn := hL.n
  have hc := hL.sc
  have h11 : (zu (zu (zu (zu (zu σ 0 S p) 1 S b) 2 S h) 3 S 0) 13 1 (nI (S + 1))) 11 = σ 11 := by (try simp (disch := omega) only [zu_r]) <;> rfl
  have hz : ∀ s f, zmk (zu (zu (zu (zu (zu σ 0 S p) 1 S b) 2 S h) 3 S 0) 13 1 (nI (S + 1))) s f = zmk σ s f := fun s f => zmk_cg h11
  refine ⟨⟨by (try simp (disch := omega) only [zuN, zuE, if_pos, if_neg]) <;> exact rfl, (by omega), by (try simp (disch := omega) only [zuN, zuE, if_pos, if_neg]) <;> exact hn.2.2.1, hn.2.2.2.1, by (try simp (disch := omega) only [zuN, zuE, if_pos, if_neg]) <;> exact hn.2.2.2.2.1, hn.2.2.2.2.2.1, by (try simp (disch := omega) only [zuN, zuE, if_pos, if_neg]) <;> exact hn.2.2.2.2.2.2.1, hn.2.2.2.2.2.2.2⟩, ⟨by (try simp (disch := omega) only [zuN, zuE, if_pos, if_neg]) <;> exact hc.1, by (try simp (disch := omega) only [zuN, zuE, if_pos, if_neg]) <;> exact hc.2.1, by (try simp (disch := omega) only [zuN, zuE, if_pos, if_neg]) <;> exact hc.2.2.1, by (try simp (disch := omega) only [zuN, zuE, if_pos, if_neg]) <;> exact hc.2.2.2.1, by (try simp (disch := omega) only [zuN, zuE, if_pos, if_neg]) <;> exact rfl, by (try simp (disch := omega) only [zuN, zuE, if_pos, if_neg]) <;> exact hc.2.2.2.2.2.1, by (try simp (disch := omega) only [zuN, zuE, if_pos, if_neg]) <;> exact hc.2.2.2.2.2.2.1, by (try simp (disch := omega) only [zuN, zuE, if_pos, if_neg]) <;> exact hc.2.2.2.2.2.2.2⟩, ?_, ?_, ?_, ?_, ?_, ?_, ?_, ?_, ?_⟩
  · intro s hs
    by_cases e9 : s = S
    · rw [e9]
      exact ⟨by (try simp (disch := omega) only [zuN, zuE, if_pos, if_neg]) <;> exact rfl, by (try simp (disch := omega) only [zuN, zuE, if_pos, if_neg]) <;> exact rfl, by (try simp (disch := omega) only [zuN, zuE, if_pos, if_neg]) <;> exact rfl, by (try simp (disch := omega) only [zuN, zuE, if_pos, if_neg]) <;> exact rfl, by (try simp (disch := omega) only [zuN, zuE, if_pos, if_neg]) <;> exact rfl, by show (if S = S then 0 else mm S) ≤ 6; rw [if_pos rfl]; omega⟩
    · have h9 := hL.st (show s < S by omega)
      exact ⟨by (try simp (disch := omega) only [zuN, zuE, if_pos, if_neg]) <;> exact h9.1, by (try simp (disch := omega) only [zuN, zuE, if_pos, if_neg]) <;> exact h9.2.1, by (try simp (disch := omega) only [zuN, zuE, if_pos, if_neg]) <;> exact h9.2.2.1, by (try simp (disch := omega) only [zuN, zuE, if_pos, if_neg]) <;> exact h9.2.2.2.1, by (try simp (disch := omega) only [zuN, zuE, if_pos, if_neg]) <;> exact h9.2.2.2.2.1, by show (if s = S then 0 else mm s) ≤ 6; rw [if_neg e9]; exact h9.2.2.2.2.2⟩
  · intro s k hs hk
    have e9 : s ≠ S := fun e => by
      have hk : k < (if s = S then 0 else mm s) := hk
      rw [if_pos e] at hk
      omega
    have hk : k < mm s := by
      have hk : k < (if s = S then 0 else mm s) := hk
      rw [if_neg e9] at hk
      exact hk
    have h9 := hL.mk (show s < S by omega) hk
    have h8 := hL.m6 (show s < S by omega)
    exact ⟨h9.1, by (try simp (disch := omega) only [zuN, zuE, if_pos, if_neg]) <;> exact h9.2.1, by (try simp (disch := omega) only [zuN, zuE, if_pos, if_neg]) <;> exact h9.2.2.1, by (try simp (disch := omega) only [zuN, zuE, if_pos, if_neg]) <;> exact h9.2.2.2.1, by (try simp (disch := omega) only [zuN, zuE, if_pos, if_neg]) <;> exact h9.2.2.2.2⟩
  · intro f hf
    have h9 := hL.fd hf
    exact ⟨by (try simp (disch := omega) only [zuN, zuE, if_pos, if_neg]) <;> exact h9.1, by (try simp (disch := omega) only [zuN, zuE, if_pos, if_neg]) <;> exact h9.2.1, by (try simp (disch := omega) only [zuN, zuE, if_pos, if_neg]) <;> exact h9.2.2⟩
  · intro e he
    have h9 := hL.ep he
    exact ⟨by (try simp (disch := omega) only [zuN, zuE, if_pos, if_neg]) <;> exact h9.1, by (try simp (disch := omega) only [zuN, zuE, if_pos, if_neg]) <;> exact h9.2⟩
  · intro c hc9
    have h9 := hL.ch hc9
    exact by (try simp (disch := omega) only [zuN, zuE, if_pos, if_neg]) <;> exact h9
  · intro s k k' hs hk hk' e
    have e9 : s ≠ S := fun e => by
      have hk : k < (if s = S then 0 else mm s) := hk
      rw [if_pos e] at hk
      omega
    have hk : k < mm s := by
      have hk : k < (if s = S then 0 else mm s) := hk
      rw [if_neg e9] at hk
      exact hk
    have hk' : k' < mm s := by
      have hk' : k' < (if s = S then 0 else mm s) := hk'
      rw [if_neg e9] at hk'
      exact hk'
    exact hL.inj (show s < S by omega) hk hk' e
  · intro s f hs hf
    rw [hz]
    by_cases e9 : s = S
    · rw [e9]
      rw [hL.off (Nat.le_refl S) hS hf]
      constructor
      · intro q
        exact absurd q (by decide)
      · rintro ⟨k, hk, _⟩
        have hk : k < (if S = S then 0 else mm S) := hk
        rw [if_pos rfl] at hk
        omega
    · have h9 := hL.on (show s < S by omega) hf
      show zmk σ s f = true ↔ ∃ k, k < (if s = S then 0 else mm s) ∧ fl s k = f
      rw [if_neg e9]
      exact h9
  · intro s f hs h6 hf
    rw [hz]
    exact hL.off (by omega) h6 hf
  · intro e he
    exact by (try simp (disch := omega) only [zuN, zuE, if_pos, if_neg]) <;> exact hL.ep0 he
theorem zBnd.oStone {σ : zSt} {S F E K : Nat} {Y : Int} (hB : zBnd σ S F E K Y) {p b h : Int32} (h3 : ¬ ((p < 0 ∨ 50 < p) ∨ (b < 0 ∨ 30 < b) ∨ (h < 1 ∨ 5 < h))) (hoff : ∀ f, f < F → zmk σ S f = false) : zBnd (zu (zu (zu (zu (zu σ 0 S p) 1 S b) 2 S h) 3 S 0) 13 1 (nI (S + 1))) (S + 1) (F) (E) (K) (Y) := by
  have hz : ∀ s f, zmk (zu (zu (zu (zu (zu σ 0 S p) 1 S b) 2 S h) 3 S 0) 13 1 (nI (S + 1))) s f = zmk σ s f := fun s f => zmk_cg (by (try simp (disch := omega) only [zu_r]) <;> rfl)
  refine ⟨?_, ?_, ?_, ?_, ?_, ?_⟩
  · intro s hs
    by_cases e9 : s = S
    · rw [e9]
      exact ⟨by (try simp (disch := omega) only [zuN, zuE, if_pos, if_neg]) <;> exact zBet_le (fun q => h3 (Or.inl q)) (by decide) (by decide), by (try simp (disch := omega) only [zuN, zuE, if_pos, if_neg]) <;> exact zBet_le (fun q => h3 (Or.inr (Or.inl q))) (by decide) (by decide), by (try simp (disch := omega) only [zuN, zuE, if_pos, if_neg]) <;> exact zBet_le (fun q => h3 (Or.inr (Or.inr q))) (by decide) (by decide), by (try simp (disch := omega) only [zuN, zuE, if_pos, if_neg]) <;> exact zBet_c 0 (by decide)⟩
    · have h9 := hB.1 s (by omega)
      exact ⟨by (try simp (disch := omega) only [zuN, zuE, if_pos, if_neg]) <;> exact h9.1, by (try simp (disch := omega) only [zuN, zuE, if_pos, if_neg]) <;> exact h9.2.1, by (try simp (disch := omega) only [zuN, zuE, if_pos, if_neg]) <;> exact h9.2.2.1, by (try simp (disch := omega) only [zuN, zuE, if_pos, if_neg]) <;> exact h9.2.2.2⟩
  · intro f hf
    have h9 := hB.2.1 f hf
    exact ⟨by (try simp (disch := omega) only [zuN, zuE, if_pos, if_neg]) <;> exact h9.1, by (try simp (disch := omega) only [zuN, zuE, if_pos, if_neg]) <;> exact h9.2.1, by (try simp (disch := omega) only [zuN, zuE, if_pos, if_neg]) <;> exact h9.2.2⟩
  · intro e he
    have h9 := hB.2.2.1 e he
    exact ⟨by (try simp (disch := omega) only [zuN, zuE, if_pos, if_neg]) <;> exact h9.1, by (try simp (disch := omega) only [zuN, zuE, if_pos, if_neg]) <;> exact h9.2⟩
  · intro c hc
    have h9 := hB.2.2.2.1 c hc
    exact by (try simp (disch := omega) only [zuN, zuE, if_pos, if_neg]) <;> exact h9
  · intro s f hs hf hm
    rw [hz] at hm
    have e9 : s ≠ S := fun q => by rw [q, hoff f hf] at hm; exact absurd hm (by decide)
    have h9 := hB.2.2.2.2.1 s f (by omega) hf hm
    exact ⟨by (try simp (disch := omega) only [zuN, zuE, if_pos, if_neg]) <;> exact h9.1, by (try simp (disch := omega) only [zuN, zuE, if_pos, if_neg]) <;> exact h9.2.1, by (try simp (disch := omega) only [zuN, zuE, if_pos, if_neg]) <;> exact h9.2.2⟩
  · have h9 := hB.2.2.2.2.2
    exact by (try simp (disch := omega) only [zuN, zuE, if_pos, if_neg]) <;> exact h9
theorem zRel.oFlood {σ : zSt} {S F E K : Nat} {mm : Nat → Nat} {fl : Nat → Nat → Nat} {ν : zSt} (hL : zRel σ S F E K (ν 1) mm fl) (hF : F < 12) {y c w : Int32} : zRel (zu (zu (zu (zu σ 4 F y) 5 F c) 6 F w) 13 2 (nI (F + 1))) (S) (F + 1) (E) (K) ((zu (zu (zu (zu ν 1 (180 + 3 * F) y) 1 (180 + 3 * F + 1) c) 1 (180 + 3 * F + 2) w) 1 179 (nI (F + 1))) 1) (mm) (fl) := by
  have hS6 := hL.S6
  have hF12 := hL.F12
  have hE4 := hL.E4
  have hK3 := hL.K3
  have hn := hL.n
  have hc := hL.sc
  have h11 : (zu (zu (zu (zu σ 4 F y) 5 F c) 6 F w) 13 2 (nI (F + 1))) 11 = σ 11 := by (try simp (disch := omega) only [zu_r]) <;> rfl
  have hz : ∀ s f, zmk (zu (zu (zu (zu σ 4 F y) 5 F c) 6 F w) 13 2 (nI (F + 1))) s f = zmk σ s f := fun s f => zmk_cg h11
  refine ⟨⟨by (try simp (disch := omega) only [zuN, zuE, if_pos, if_neg]) <;> exact hn.1, hn.2.1, by (try simp (disch := omega) only [zuN, zuE, if_pos, if_neg]) <;> exact rfl, (by omega), by (try simp (disch := omega) only [zuN, zuE, if_pos, if_neg]) <;> exact hn.2.2.2.2.1, hn.2.2.2.2.2.1, by (try simp (disch := omega) only [zuN, zuE, if_pos, if_neg]) <;> exact hn.2.2.2.2.2.2.1, hn.2.2.2.2.2.2.2⟩, ⟨by (try simp (disch := omega) only [zuN, zuE, if_pos, if_neg]) <;> exact hc.1, by (try simp (disch := omega) only [zuN, zuE, if_pos, if_neg]) <;> exact hc.2.1, by (try simp (disch := omega) only [zuN, zuE, if_pos, if_neg]) <;> exact hc.2.2.1, by (try simp (disch := omega) only [zuN, zuE, if_pos, if_neg]) <;> exact hc.2.2.2.1, by (try simp (disch := omega) only [zuN, zuE, if_pos, if_neg]) <;> exact hc.2.2.2.2.1, by (try simp (disch := omega) only [zuN, zuE, if_pos, if_neg]) <;> exact rfl, by (try simp (disch := omega) only [zuN, zuE, if_pos, if_neg]) <;> exact hc.2.2.2.2.2.2.1, by (try simp (disch := omega) only [zuN, zuE, if_pos, if_neg]) <;> exact hc.2.2.2.2.2.2.2⟩, ?_, ?_, ?_, ?_, ?_, ?_, ?_, ?_, ?_⟩
  · intro s hs
    have h9 := hL.st hs
    exact ⟨by (try simp (disch := omega) only [zuN, zuE, if_pos, if_neg]) <;> exact h9.1, by (try simp (disch := omega) only [zuN, zuE, if_pos, if_neg]) <;> exact h9.2.1, by (try simp (disch := omega) only [zuN, zuE, if_pos, if_neg]) <;> exact h9.2.2.1, by (try simp (disch := omega) only [zuN, zuE, if_pos, if_neg]) <;> exact h9.2.2.2.1, by (try simp (disch := omega) only [zuN, zuE, if_pos, if_neg]) <;> exact h9.2.2.2.2.1, h9.2.2.2.2.2⟩
  · intro s k hs hk
    have h9 := hL.mk hs hk
    have h8 := hL.m6 hs
    exact ⟨by have := h9.1; omega, by (try simp (disch := omega) only [zuN, zuE, if_pos, if_neg]) <;> exact h9.2.1, by (try simp (disch := omega) only [zuN, zuE, if_pos, if_neg]) <;> exact h9.2.2.1, by (try simp (disch := omega) only [zuN, zuE, if_pos, if_neg]) <;> exact h9.2.2.2.1, by (try simp (disch := omega) only [zuN, zuE, if_pos, if_neg]) <;> exact h9.2.2.2.2⟩
  · intro f hf
    by_cases e9 : f = F
    · rw [e9]
      exact ⟨by (try simp (disch := omega) only [zuN, zuE, if_pos, if_neg]) <;> exact rfl, by (try simp (disch := omega) only [zuN, zuE, if_pos, if_neg]) <;> exact rfl, by (try simp (disch := omega) only [zuN, zuE, if_pos, if_neg]) <;> exact rfl⟩
    · have h9 := hL.fd (show f < F by omega)
      exact ⟨by (try simp (disch := omega) only [zuN, zuE, if_pos, if_neg]) <;> exact h9.1, by (try simp (disch := omega) only [zuN, zuE, if_pos, if_neg]) <;> exact h9.2.1, by (try simp (disch := omega) only [zuN, zuE, if_pos, if_neg]) <;> exact h9.2.2⟩
  · intro e he
    have h9 := hL.ep he
    exact ⟨by (try simp (disch := omega) only [zuN, zuE, if_pos, if_neg]) <;> exact h9.1, by (try simp (disch := omega) only [zuN, zuE, if_pos, if_neg]) <;> exact h9.2⟩
  · intro c hc9
    have h9 := hL.ch hc9
    exact by (try simp (disch := omega) only [zuN, zuE, if_pos, if_neg]) <;> exact h9
  · intro s k k' hs hk hk' e
    exact hL.inj hs hk hk' e
  · intro s f hs hf
    rw [hz]
    exact hL.on hs hf
  · intro s f hs h6 hf
    rw [hz]
    exact hL.off hs h6 hf
  · intro e he
    exact by (try simp (disch := omega) only [zuN, zuE, if_pos, if_neg]) <;> exact hL.ep0 he
theorem zBnd.oFlood {σ : zSt} {S F E K : Nat} {Y : Int} (hB : zBnd σ S F E K Y) (hY : σ 13 0 = σ 13 0) {y c w : Int32} (h3 : ¬ ((y < 0 ∨ σ 13 0 < y) ∨ (c < 1 ∨ 99 < c) ∨ (w < 0 ∨ 99 < w))) (hoff : ∀ s, s < S → zmk σ s F = false) : zBnd (zu (zu (zu (zu σ 4 F y) 5 F c) 6 F w) 13 2 (nI (F + 1))) (S) (F + 1) (E) (K) (Y) := by
  have hz : ∀ s f, zmk (zu (zu (zu (zu σ 4 F y) 5 F c) 6 F w) 13 2 (nI (F + 1))) s f = zmk σ s f := fun s f => zmk_cg (by (try simp (disch := omega) only [zu_r]) <;> rfl)
  refine ⟨?_, ?_, ?_, ?_, ?_, ?_⟩
  · intro s hs
    have h9 := hB.1 s hs
    exact ⟨by (try simp (disch := omega) only [zuN, zuE, if_pos, if_neg]) <;> exact h9.1, by (try simp (disch := omega) only [zuN, zuE, if_pos, if_neg]) <;> exact h9.2.1, by (try simp (disch := omega) only [zuN, zuE, if_pos, if_neg]) <;> exact h9.2.2.1, by (try simp (disch := omega) only [zuN, zuE, if_pos, if_neg]) <;> exact h9.2.2.2⟩
  · intro f hf
    by_cases e9 : f = F
    · rw [e9]
      exact ⟨by (try simp (disch := omega) only [zuN, zuE, if_pos, if_neg]) <;> exact zBet_up (zBet_le (n := (σ 13 0).toInt) (fun q => h3 (Or.inl q)) (by decide) rfl) hB.2.2.2.2.2.2, by (try simp (disch := omega) only [zuN, zuE, if_pos, if_neg]) <;> exact zBet_le (fun q => h3 (Or.inr (Or.inl q))) (by decide) (by decide), by (try simp (disch := omega) only [zuN, zuE, if_pos, if_neg]) <;> exact zBet_le (fun q => h3 (Or.inr (Or.inr q))) (by decide) (by decide)⟩
    · have h9 := hB.2.1 f (by omega)
      exact ⟨by (try simp (disch := omega) only [zuN, zuE, if_pos, if_neg]) <;> exact h9.1, by (try simp (disch := omega) only [zuN, zuE, if_pos, if_neg]) <;> exact h9.2.1, by (try simp (disch := omega) only [zuN, zuE, if_pos, if_neg]) <;> exact h9.2.2⟩
  · intro e he
    have h9 := hB.2.2.1 e he
    exact ⟨by (try simp (disch := omega) only [zuN, zuE, if_pos, if_neg]) <;> exact h9.1, by (try simp (disch := omega) only [zuN, zuE, if_pos, if_neg]) <;> exact h9.2⟩
  · intro c hc
    have h9 := hB.2.2.2.1 c hc
    exact by (try simp (disch := omega) only [zuN, zuE, if_pos, if_neg]) <;> exact h9
  · intro s f hs hf hm
    rw [hz] at hm
    have e9 : f ≠ F := fun q => by rw [q, hoff s hs] at hm; exact absurd hm (by decide)
    have h9 := hB.2.2.2.2.1 s f hs (by omega) hm
    exact ⟨by (try simp (disch := omega) only [zuN, zuE, if_pos, if_neg]) <;> exact h9.1, by (try simp (disch := omega) only [zuN, zuE, if_pos, if_neg]) <;> exact h9.2.1, by (try simp (disch := omega) only [zuN, zuE, if_pos, if_neg]) <;> exact h9.2.2⟩
  · have h9 := hB.2.2.2.2.2
    exact by (try simp (disch := omega) only [zuN, zuE, if_pos, if_neg]) <;> exact h9
theorem zRel.oChisel {σ : zSt} {S F E K : Nat} {mm : Nat → Nat} {fl : Nat → Nat → Nat} {ν : zSt} (hL : zRel σ S F E K (ν 1) mm fl) (hK : K < 3) : zRel (zu (zu σ 9 K 20) 13 4 (nI (K + 1))) (S) (F) (E) (K + 1) ((zu (zu ν 1 (226 + K) 20) 1 225 (nI (K + 1))) 1) (mm) (fl) := by
  have hS6 := hL.S6
  have hF12 := hL.F12
  have hE4 := hL.E4
  have hK3 := hL.K3
  have hn := hL.n
  have hc := hL.sc
  have h11 : (zu (zu σ 9 K 20) 13 4 (nI (K + 1))) 11 = σ 11 := by (try simp (disch := omega) only [zu_r]) <;> rfl
  have hz : ∀ s f, zmk (zu (zu σ 9 K 20) 13 4 (nI (K + 1))) s f = zmk σ s f := fun s f => zmk_cg h11
  refine ⟨⟨by (try simp (disch := omega) only [zuN, zuE, if_pos, if_neg]) <;> exact hn.1, hn.2.1, by (try simp (disch := omega) only [zuN, zuE, if_pos, if_neg]) <;> exact hn.2.2.1, hn.2.2.2.1, by (try simp (disch := omega) only [zuN, zuE, if_pos, if_neg]) <;> exact hn.2.2.2.2.1, hn.2.2.2.2.2.1, by (try simp (disch := omega) only [zuN, zuE, if_pos, if_neg]) <;> exact rfl, (by omega)⟩, ⟨by (try simp (disch := omega) only [zuN, zuE, if_pos, if_neg]) <;> exact hc.1, by (try simp (disch := omega) only [zuN, zuE, if_pos, if_neg]) <;> exact hc.2.1, by (try simp (disch := omega) only [zuN, zuE, if_pos, if_neg]) <;> exact hc.2.2.1, by (try simp (disch := omega) only [zuN, zuE, if_pos, if_neg]) <;> exact hc.2.2.2.1, by (try simp (disch := omega) only [zuN, zuE, if_pos, if_neg]) <;> exact hc.2.2.2.2.1, by (try simp (disch := omega) only [zuN, zuE, if_pos, if_neg]) <;> exact hc.2.2.2.2.2.1, by (try simp (disch := omega) only [zuN, zuE, if_pos, if_neg]) <;> exact hc.2.2.2.2.2.2.1, by (try simp (disch := omega) only [zuN, zuE, if_pos, if_neg]) <;> exact rfl⟩, ?_, ?_, ?_, ?_, ?_, ?_, ?_, ?_, ?_⟩
  · intro s hs
    have h9 := hL.st hs
    exact ⟨by (try simp (disch := omega) only [zuN, zuE, if_pos, if_neg]) <;> exact h9.1, by (try simp (disch := omega) only [zuN, zuE, if_pos, if_neg]) <;> exact h9.2.1, by (try simp (disch := omega) only [zuN, zuE, if_pos, if_neg]) <;> exact h9.2.2.1, by (try simp (disch := omega) only [zuN, zuE, if_pos, if_neg]) <;> exact h9.2.2.2.1, by (try simp (disch := omega) only [zuN, zuE, if_pos, if_neg]) <;> exact h9.2.2.2.2.1, h9.2.2.2.2.2⟩
  · intro s k hs hk
    have h9 := hL.mk hs hk
    have h8 := hL.m6 hs
    exact ⟨by have := h9.1; omega, by (try simp (disch := omega) only [zuN, zuE, if_pos, if_neg]) <;> exact h9.2.1, by (try simp (disch := omega) only [zuN, zuE, if_pos, if_neg]) <;> exact h9.2.2.1, by (try simp (disch := omega) only [zuN, zuE, if_pos, if_neg]) <;> exact h9.2.2.2.1, by (try simp (disch := omega) only [zuN, zuE, if_pos, if_neg]) <;> exact h9.2.2.2.2⟩
  · intro f hf
    have h9 := hL.fd hf
    exact ⟨by (try simp (disch := omega) only [zuN, zuE, if_pos, if_neg]) <;> exact h9.1, by (try simp (disch := omega) only [zuN, zuE, if_pos, if_neg]) <;> exact h9.2.1, by (try simp (disch := omega) only [zuN, zuE, if_pos, if_neg]) <;> exact h9.2.2⟩
  · intro e he
    have h9 := hL.ep he
    exact ⟨by (try simp (disch := omega) only [zuN, zuE, if_pos, if_neg]) <;> exact h9.1, by (try simp (disch := omega) only [zuN, zuE, if_pos, if_neg]) <;> exact h9.2⟩
  · intro c hc9
    by_cases e9 : c = K
    · rw [e9]
      exact by (try simp (disch := omega) only [zuN, zuE, if_pos, if_neg]) <;> exact rfl
    · have h9 := hL.ch (show c < K by omega)
      exact by (try simp (disch := omega) only [zuN, zuE, if_pos, if_neg]) <;> exact h9
  · intro s k k' hs hk hk' e
    exact hL.inj hs hk hk' e
  · intro s f hs hf
    rw [hz]
    exact hL.on hs hf
  · intro s f hs h6 hf
    rw [hz]
    exact hL.off hs h6 hf
  · intro e he
    exact by (try simp (disch := omega) only [zuN, zuE, if_pos, if_neg]) <;> exact hL.ep0 he
theorem zBnd.oChisel {σ : zSt} {S F E K : Nat} {Y : Int} (hB : zBnd σ S F E K Y)  : zBnd (zu (zu σ 9 K 20) 13 4 (nI (K + 1))) (S) (F) (E) (K + 1) (Y) := by
  have hz : ∀ s f, zmk (zu (zu σ 9 K 20) 13 4 (nI (K + 1))) s f = zmk σ s f := fun s f => zmk_cg (by (try simp (disch := omega) only [zu_r]) <;> rfl)
  refine ⟨?_, ?_, ?_, ?_, ?_, ?_⟩
  · intro s hs
    have h9 := hB.1 s hs
    exact ⟨by (try simp (disch := omega) only [zuN, zuE, if_pos, if_neg]) <;> exact h9.1, by (try simp (disch := omega) only [zuN, zuE, if_pos, if_neg]) <;> exact h9.2.1, by (try simp (disch := omega) only [zuN, zuE, if_pos, if_neg]) <;> exact h9.2.2.1, by (try simp (disch := omega) only [zuN, zuE, if_pos, if_neg]) <;> exact h9.2.2.2⟩
  · intro f hf
    have h9 := hB.2.1 f hf
    exact ⟨by (try simp (disch := omega) only [zuN, zuE, if_pos, if_neg]) <;> exact h9.1, by (try simp (disch := omega) only [zuN, zuE, if_pos, if_neg]) <;> exact h9.2.1, by (try simp (disch := omega) only [zuN, zuE, if_pos, if_neg]) <;> exact h9.2.2⟩
  · intro e he
    have h9 := hB.2.2.1 e he
    exact ⟨by (try simp (disch := omega) only [zuN, zuE, if_pos, if_neg]) <;> exact h9.1, by (try simp (disch := omega) only [zuN, zuE, if_pos, if_neg]) <;> exact h9.2⟩
  · intro c hc9
    by_cases e9 : c = K
    · rw [e9]
      exact by (try simp (disch := omega) only [zuN, zuE, if_pos, if_neg]) <;> exact zBet_c 20 (by decide)
    · have h9 := hB.2.2.2.1 c (by omega)
      exact by (try simp (disch := omega) only [zuN, zuE, if_pos, if_neg]) <;> exact h9
  · intro s f hs hf hm
    rw [hz] at hm
    have h9 := hB.2.2.2.2.1 s f hs hf hm
    exact ⟨by (try simp (disch := omega) only [zuN, zuE, if_pos, if_neg]) <;> exact h9.1, by (try simp (disch := omega) only [zuN, zuE, if_pos, if_neg]) <;> exact h9.2.1, by (try simp (disch := omega) only [zuN, zuE, if_pos, if_neg]) <;> exact h9.2.2⟩
  · have h9 := hB.2.2.2.2.2
    exact by (try simp (disch := omega) only [zuN, zuE, if_pos, if_neg]) <;> exact h9
theorem zRel.oSharpen {σ : zSt} {S F E K : Nat} {mm : Nat → Nat} {fl : Nat → Nat → Nat} {ν : zSt} (hL : zRel σ S F E K (ν 1) mm fl) {c0 : Nat} (hc0 : c0 < K) : zRel (zu σ 9 c0 20) (S) (F) (E) (K) ((zu ν 1 (226 + c0) 20) 1) (mm) (fl) := by
  have hS6 := hL.S6
  have hF12 := hL.F12
  have hE4 := hL.E4
  have hK3 := hL.K3
  have hn := hL.n
  have hc := hL.sc
  have h11 : (zu σ 9 c0 20) 11 = σ 11 := by (try simp (disch := omega) only [zu_r]) <;> rfl
  have hz : ∀ s f, zmk (zu σ 9 c0 20) s f = zmk σ s f := fun s f => zmk_cg h11
  refine ⟨⟨by (try simp (disch := omega) only [zuN, zuE, if_pos, if_neg]) <;> exact hn.1, hn.2.1, by (try simp (disch := omega) only [zuN, zuE, if_pos, if_neg]) <;> exact hn.2.2.1, hn.2.2.2.1, by (try simp (disch := omega) only [zuN, zuE, if_pos, if_neg]) <;> exact hn.2.2.2.2.1, hn.2.2.2.2.2.1, by (try simp (disch := omega) only [zuN, zuE, if_pos, if_neg]) <;> exact hn.2.2.2.2.2.2.1, hn.2.2.2.2.2.2.2⟩, ⟨by (try simp (disch := omega) only [zuN, zuE, if_pos, if_neg]) <;> exact hc.1, by (try simp (disch := omega) only [zuN, zuE, if_pos, if_neg]) <;> exact hc.2.1, by (try simp (disch := omega) only [zuN, zuE, if_pos, if_neg]) <;> exact hc.2.2.1, by (try simp (disch := omega) only [zuN, zuE, if_pos, if_neg]) <;> exact hc.2.2.2.1, by (try simp (disch := omega) only [zuN, zuE, if_pos, if_neg]) <;> exact hc.2.2.2.2.1, by (try simp (disch := omega) only [zuN, zuE, if_pos, if_neg]) <;> exact hc.2.2.2.2.2.1, by (try simp (disch := omega) only [zuN, zuE, if_pos, if_neg]) <;> exact hc.2.2.2.2.2.2.1, by (try simp (disch := omega) only [zuN, zuE, if_pos, if_neg]) <;> exact hc.2.2.2.2.2.2.2⟩, ?_, ?_, ?_, ?_, ?_, ?_, ?_, ?_, ?_⟩
  · intro s hs
    have h9 := hL.st hs
    exact ⟨by (try simp (disch := omega) only [zuN, zuE, if_pos, if_neg]) <;> exact h9.1, by (try simp (disch := omega) only [zuN, zuE, if_pos, if_neg]) <;> exact h9.2.1, by (try simp (disch := omega) only [zuN, zuE, if_pos, if_neg]) <;> exact h9.2.2.1, by (try simp (disch := omega) only [zuN, zuE, if_pos, if_neg]) <;> exact h9.2.2.2.1, by (try simp (disch := omega) only [zuN, zuE, if_pos, if_neg]) <;> exact h9.2.2.2.2.1, h9.2.2.2.2.2⟩
  · intro s k hs hk
    have h9 := hL.mk hs hk
    have h8 := hL.m6 hs
    exact ⟨by have := h9.1; omega, by (try simp (disch := omega) only [zuN, zuE, if_pos, if_neg]) <;> exact h9.2.1, by (try simp (disch := omega) only [zuN, zuE, if_pos, if_neg]) <;> exact h9.2.2.1, by (try simp (disch := omega) only [zuN, zuE, if_pos, if_neg]) <;> exact h9.2.2.2.1, by (try simp (disch := omega) only [zuN, zuE, if_pos, if_neg]) <;> exact h9.2.2.2.2⟩
  · intro f hf
    have h9 := hL.fd hf
    exact ⟨by (try simp (disch := omega) only [zuN, zuE, if_pos, if_neg]) <;> exact h9.1, by (try simp (disch := omega) only [zuN, zuE, if_pos, if_neg]) <;> exact h9.2.1, by (try simp (disch := omega) only [zuN, zuE, if_pos, if_neg]) <;> exact h9.2.2⟩
  · intro e he
    have h9 := hL.ep he
    exact ⟨by (try simp (disch := omega) only [zuN, zuE, if_pos, if_neg]) <;> exact h9.1, by (try simp (disch := omega) only [zuN, zuE, if_pos, if_neg]) <;> exact h9.2⟩
  · intro c hc9
    by_cases e9 : c = c0
    · rw [e9]
      exact by (try simp (disch := omega) only [zuN, zuE, if_pos, if_neg]) <;> exact rfl
    · have h9 := hL.ch hc9
      exact by (try simp (disch := omega) only [zuN, zuE, if_pos, if_neg]) <;> exact h9
  · intro s k k' hs hk hk' e
    exact hL.inj hs hk hk' e
  · intro s f hs hf
    rw [hz]
    exact hL.on hs hf
  · intro s f hs h6 hf
    rw [hz]
    exact hL.off hs h6 hf
  · intro e he
    exact by (try simp (disch := omega) only [zuN, zuE, if_pos, if_neg]) <;> exact hL.ep0 he
theorem zBnd.oSharpen {σ : zSt} {S F E K : Nat} {Y : Int} (hB : zBnd σ S F E K Y) {c0 : Nat} : zBnd (zu σ 9 c0 20) (S) (F) (E) (K) (Y) := by
  have hz : ∀ s f, zmk (zu σ 9 c0 20) s f = zmk σ s f := fun s f => zmk_cg (by (try simp (disch := omega) only [zu_r]) <;> rfl)
  refine ⟨?_, ?_, ?_, ?_, ?_, ?_⟩
  · intro s hs
    have h9 := hB.1 s hs
    exact ⟨by (try simp (disch := omega) only [zuN, zuE, if_pos, if_neg]) <;> exact h9.1, by (try simp (disch := omega) only [zuN, zuE, if_pos, if_neg]) <;> exact h9.2.1, by (try simp (disch := omega) only [zuN, zuE, if_pos, if_neg]) <;> exact h9.2.2.1, by (try simp (disch := omega) only [zuN, zuE, if_pos, if_neg]) <;> exact h9.2.2.2⟩
  · intro f hf
    have h9 := hB.2.1 f hf
    exact ⟨by (try simp (disch := omega) only [zuN, zuE, if_pos, if_neg]) <;> exact h9.1, by (try simp (disch := omega) only [zuN, zuE, if_pos, if_neg]) <;> exact h9.2.1, by (try simp (disch := omega) only [zuN, zuE, if_pos, if_neg]) <;> exact h9.2.2⟩
  · intro e he
    have h9 := hB.2.2.1 e he
    exact ⟨by (try simp (disch := omega) only [zuN, zuE, if_pos, if_neg]) <;> exact h9.1, by (try simp (disch := omega) only [zuN, zuE, if_pos, if_neg]) <;> exact h9.2⟩
  · intro c hc9
    by_cases e9 : c = c0
    · rw [e9]
      exact by (try simp (disch := omega) only [zuN, zuE, if_pos, if_neg]) <;> exact zBet_c 20 (by decide)
    · have h9 := hB.2.2.2.1 c hc9
      exact by (try simp (disch := omega) only [zuN, zuE, if_pos, if_neg]) <;> exact h9
  · intro s f hs hf hm
    rw [hz] at hm
    have h9 := hB.2.2.2.2.1 s f hs hf hm
    exact ⟨by (try simp (disch := omega) only [zuN, zuE, if_pos, if_neg]) <;> exact h9.1, by (try simp (disch := omega) only [zuN, zuE, if_pos, if_neg]) <;> exact h9.2.1, by (try simp (disch := omega) only [zuN, zuE, if_pos, if_neg]) <;> exact h9.2.2⟩
  · have h9 := hB.2.2.2.2.2
    exact by (try simp (disch := omega) only [zuN, zuE, if_pos, if_neg]) <;> exact h9
theorem zRel.oErr {σ : zSt} {S F E K : Nat} {mm : Nat → Nat} {fl : Nat → Nat → Nat} {ν : zSt} (hL : zRel σ S F E K (ν 1) mm fl) {s0 : Nat} {x : Int32} (hs0 : s0 < S) : zRel (zu σ 3 s0 x) (S) (F) (E) (K) ((zu ν 1 (5 + 29 * s0 + 3) x) 1) (mm) (fl) := by
  have hS6 := hL.S6
  have hF12 := hL.F12
  have hE4 := hL.E4
  have hK3 := hL.K3
  have hn := hL.n
  have hc := hL.sc
  have h11 : (zu σ 3 s0 x) 11 = σ 11 := by (try simp (disch := omega) only [zu_r]) <;> rfl
  have hz : ∀ s f, zmk (zu σ 3 s0 x) s f = zmk σ s f := fun s f => zmk_cg h11
  refine ⟨⟨by (try simp (disch := omega) only [zuN, zuE, if_pos, if_neg]) <;> exact hn.1, hn.2.1, by (try simp (disch := omega) only [zuN, zuE, if_pos, if_neg]) <;> exact hn.2.2.1, hn.2.2.2.1, by (try simp (disch := omega) only [zuN, zuE, if_pos, if_neg]) <;> exact hn.2.2.2.2.1, hn.2.2.2.2.2.1, by (try simp (disch := omega) only [zuN, zuE, if_pos, if_neg]) <;> exact hn.2.2.2.2.2.2.1, hn.2.2.2.2.2.2.2⟩, ⟨by (try simp (disch := omega) only [zuN, zuE, if_pos, if_neg]) <;> exact hc.1, by (try simp (disch := omega) only [zuN, zuE, if_pos, if_neg]) <;> exact hc.2.1, by (try simp (disch := omega) only [zuN, zuE, if_pos, if_neg]) <;> exact hc.2.2.1, by (try simp (disch := omega) only [zuN, zuE, if_pos, if_neg]) <;> exact hc.2.2.2.1, by (try simp (disch := omega) only [zuN, zuE, if_pos, if_neg]) <;> exact hc.2.2.2.2.1, by (try simp (disch := omega) only [zuN, zuE, if_pos, if_neg]) <;> exact hc.2.2.2.2.2.1, by (try simp (disch := omega) only [zuN, zuE, if_pos, if_neg]) <;> exact hc.2.2.2.2.2.2.1, by (try simp (disch := omega) only [zuN, zuE, if_pos, if_neg]) <;> exact hc.2.2.2.2.2.2.2⟩, ?_, ?_, ?_, ?_, ?_, ?_, ?_, ?_, ?_⟩
  · intro s hs
    by_cases e9 : s = s0
    · rw [e9]
      have h9 := hL.st hs0
      exact ⟨by (try simp (disch := omega) only [zuN, zuE, if_pos, if_neg]) <;> exact h9.1, by (try simp (disch := omega) only [zuN, zuE, if_pos, if_neg]) <;> exact h9.2.1, by (try simp (disch := omega) only [zuN, zuE, if_pos, if_neg]) <;> exact h9.2.2.1, by (try simp (disch := omega) only [zuN, zuE, if_pos, if_neg]) <;> exact rfl, by (try simp (disch := omega) only [zuN, zuE, if_pos, if_neg]) <;> exact h9.2.2.2.2.1, h9.2.2.2.2.2⟩
    · have h9 := hL.st hs
      exact ⟨by (try simp (disch := omega) only [zuN, zuE, if_pos, if_neg]) <;> exact h9.1, by (try simp (disch := omega) only [zuN, zuE, if_pos, if_neg]) <;> exact h9.2.1, by (try simp (disch := omega) only [zuN, zuE, if_pos, if_neg]) <;> exact h9.2.2.1, by (try simp (disch := omega) only [zuN, zuE, if_pos, if_neg]) <;> exact h9.2.2.2.1, by (try simp (disch := omega) only [zuN, zuE, if_pos, if_neg]) <;> exact h9.2.2.2.2.1, h9.2.2.2.2.2⟩
  · intro s k hs hk
    have h9 := hL.mk hs hk
    have h8 := hL.m6 hs
    exact ⟨by have := h9.1; omega, by (try simp (disch := omega) only [zuN, zuE, if_pos, if_neg]) <;> exact h9.2.1, by (try simp (disch := omega) only [zuN, zuE, if_pos, if_neg]) <;> exact h9.2.2.1, by (try simp (disch := omega) only [zuN, zuE, if_pos, if_neg]) <;> exact h9.2.2.2.1, by (try simp (disch := omega) only [zuN, zuE, if_pos, if_neg]) <;> exact h9.2.2.2.2⟩
  · intro f hf
    have h9 := hL.fd hf
    exact ⟨by (try simp (disch := omega) only [zuN, zuE, if_pos, if_neg]) <;> exact h9.1, by (try simp (disch := omega) only [zuN, zuE, if_pos, if_neg]) <;> exact h9.2.1, by (try simp (disch := omega) only [zuN, zuE, if_pos, if_neg]) <;> exact h9.2.2⟩
  · intro e he
    have h9 := hL.ep he
    exact ⟨by (try simp (disch := omega) only [zuN, zuE, if_pos, if_neg]) <;> exact h9.1, by (try simp (disch := omega) only [zuN, zuE, if_pos, if_neg]) <;> exact h9.2⟩
  · intro c hc9
    have h9 := hL.ch hc9
    exact by (try simp (disch := omega) only [zuN, zuE, if_pos, if_neg]) <;> exact h9
  · intro s k k' hs hk hk' e
    exact hL.inj hs hk hk' e
  · intro s f hs hf
    rw [hz]
    exact hL.on hs hf
  · intro s f hs h6 hf
    rw [hz]
    exact hL.off hs h6 hf
  · intro e he
    exact by (try simp (disch := omega) only [zuN, zuE, if_pos, if_neg]) <;> exact hL.ep0 he
theorem zBnd.oErr {σ : zSt} {S F E K : Nat} {Y : Int} (hB : zBnd σ S F E K Y) {s0 : Nat} {x : Int32} (hs0 : s0 < S) (hx : zBet x (-9) 9) : zBnd (zu σ 3 s0 x) (S) (F) (E) (K) (Y) := by
  have hz : ∀ s f, zmk (zu σ 3 s0 x) s f = zmk σ s f := fun s f => zmk_cg (by (try simp (disch := omega) only [zu_r]) <;> rfl)
  refine ⟨?_, ?_, ?_, ?_, ?_, ?_⟩
  · intro s hs
    by_cases e9 : s = s0
    · rw [e9]
      have h9 := hB.1 s0 hs0
      exact ⟨by (try simp (disch := omega) only [zuN, zuE, if_pos, if_neg]) <;> exact h9.1, by (try simp (disch := omega) only [zuN, zuE, if_pos, if_neg]) <;> exact h9.2.1, by (try simp (disch := omega) only [zuN, zuE, if_pos, if_neg]) <;> exact h9.2.2.1, by (try simp (disch := omega) only [zuN, zuE, if_pos, if_neg]) <;> exact hx⟩
    · have h9 := hB.1 s hs
      exact ⟨by (try simp (disch := omega) only [zuN, zuE, if_pos, if_neg]) <;> exact h9.1, by (try simp (disch := omega) only [zuN, zuE, if_pos, if_neg]) <;> exact h9.2.1, by (try simp (disch := omega) only [zuN, zuE, if_pos, if_neg]) <;> exact h9.2.2.1, by (try simp (disch := omega) only [zuN, zuE, if_pos, if_neg]) <;> exact h9.2.2.2⟩
  · intro f hf
    have h9 := hB.2.1 f hf
    exact ⟨by (try simp (disch := omega) only [zuN, zuE, if_pos, if_neg]) <;> exact h9.1, by (try simp (disch := omega) only [zuN, zuE, if_pos, if_neg]) <;> exact h9.2.1, by (try simp (disch := omega) only [zuN, zuE, if_pos, if_neg]) <;> exact h9.2.2⟩
  · intro e he
    have h9 := hB.2.2.1 e he
    exact ⟨by (try simp (disch := omega) only [zuN, zuE, if_pos, if_neg]) <;> exact h9.1, by (try simp (disch := omega) only [zuN, zuE, if_pos, if_neg]) <;> exact h9.2⟩
  · intro c hc
    have h9 := hB.2.2.2.1 c hc
    exact by (try simp (disch := omega) only [zuN, zuE, if_pos, if_neg]) <;> exact h9
  · intro s f hs hf hm
    rw [hz] at hm
    have h9 := hB.2.2.2.2.1 s f hs hf hm
    exact ⟨by (try simp (disch := omega) only [zuN, zuE, if_pos, if_neg]) <;> exact h9.1, by (try simp (disch := omega) only [zuN, zuE, if_pos, if_neg]) <;> exact h9.2.1, by (try simp (disch := omega) only [zuN, zuE, if_pos, if_neg]) <;> exact h9.2.2⟩
  · have h9 := hB.2.2.2.2.2
    exact by (try simp (disch := omega) only [zuN, zuE, if_pos, if_neg]) <;> exact h9
theorem zRel.oWitness {σ : zSt} {S F E K : Nat} {mm : Nat → Nat} {fl : Nat → Nat → Nat} {ν : zSt} (hL : zRel σ S F E K (ν 1) mm fl) {f0 : Nat} (hf0 : f0 < F) {w : Int32} : zRel (zu σ 6 f0 (σ 6 f0 + w)) (S) (F) (E) (K) ((zu ν 1 (180 + 3 * f0 + 2) (σ 6 f0 + w)) 1) (mm) (fl) := by
  have hS6 := hL.S6
  have hF12 := hL.F12
  have hE4 := hL.E4
  have hK3 := hL.K3
  have hn := hL.n
  have hc := hL.sc
  have h11 : (zu σ 6 f0 (σ 6 f0 + w)) 11 = σ 11 := by (try simp (disch := omega) only [zu_r]) <;> rfl
  have hz : ∀ s f, zmk (zu σ 6 f0 (σ 6 f0 + w)) s f = zmk σ s f := fun s f => zmk_cg h11
  refine ⟨⟨by (try simp (disch := omega) only [zuN, zuE, if_pos, if_neg]) <;> exact hn.1, hn.2.1, by (try simp (disch := omega) only [zuN, zuE, if_pos, if_neg]) <;> exact hn.2.2.1, hn.2.2.2.1, by (try simp (disch := omega) only [zuN, zuE, if_pos, if_neg]) <;> exact hn.2.2.2.2.1, hn.2.2.2.2.2.1, by (try simp (disch := omega) only [zuN, zuE, if_pos, if_neg]) <;> exact hn.2.2.2.2.2.2.1, hn.2.2.2.2.2.2.2⟩, ⟨by (try simp (disch := omega) only [zuN, zuE, if_pos, if_neg]) <;> exact hc.1, by (try simp (disch := omega) only [zuN, zuE, if_pos, if_neg]) <;> exact hc.2.1, by (try simp (disch := omega) only [zuN, zuE, if_pos, if_neg]) <;> exact hc.2.2.1, by (try simp (disch := omega) only [zuN, zuE, if_pos, if_neg]) <;> exact hc.2.2.2.1, by (try simp (disch := omega) only [zuN, zuE, if_pos, if_neg]) <;> exact hc.2.2.2.2.1, by (try simp (disch := omega) only [zuN, zuE, if_pos, if_neg]) <;> exact hc.2.2.2.2.2.1, by (try simp (disch := omega) only [zuN, zuE, if_pos, if_neg]) <;> exact hc.2.2.2.2.2.2.1, by (try simp (disch := omega) only [zuN, zuE, if_pos, if_neg]) <;> exact hc.2.2.2.2.2.2.2⟩, ?_, ?_, ?_, ?_, ?_, ?_, ?_, ?_, ?_⟩
  · intro s hs
    have h9 := hL.st hs
    exact ⟨by (try simp (disch := omega) only [zuN, zuE, if_pos, if_neg]) <;> exact h9.1, by (try simp (disch := omega) only [zuN, zuE, if_pos, if_neg]) <;> exact h9.2.1, by (try simp (disch := omega) only [zuN, zuE, if_pos, if_neg]) <;> exact h9.2.2.1, by (try simp (disch := omega) only [zuN, zuE, if_pos, if_neg]) <;> exact h9.2.2.2.1, by (try simp (disch := omega) only [zuN, zuE, if_pos, if_neg]) <;> exact h9.2.2.2.2.1, h9.2.2.2.2.2⟩
  · intro s k hs hk
    have h9 := hL.mk hs hk
    have h8 := hL.m6 hs
    exact ⟨by have := h9.1; omega, by (try simp (disch := omega) only [zuN, zuE, if_pos, if_neg]) <;> exact h9.2.1, by (try simp (disch := omega) only [zuN, zuE, if_pos, if_neg]) <;> exact h9.2.2.1, by (try simp (disch := omega) only [zuN, zuE, if_pos, if_neg]) <;> exact h9.2.2.2.1, by (try simp (disch := omega) only [zuN, zuE, if_pos, if_neg]) <;> exact h9.2.2.2.2⟩
  · intro f hf
    by_cases e9 : f = f0
    · rw [e9]
      have h9 := hL.fd hf0
      exact ⟨by (try simp (disch := omega) only [zuN, zuE, if_pos, if_neg]) <;> exact h9.1, by (try simp (disch := omega) only [zuN, zuE, if_pos, if_neg]) <;> exact h9.2.1, by (try simp (disch := omega) only [zuN, zuE, if_pos, if_neg]) <;> exact rfl⟩
    · have h9 := hL.fd hf
      exact ⟨by (try simp (disch := omega) only [zuN, zuE, if_pos, if_neg]) <;> exact h9.1, by (try simp (disch := omega) only [zuN, zuE, if_pos, if_neg]) <;> exact h9.2.1, by (try simp (disch := omega) only [zuN, zuE, if_pos, if_neg]) <;> exact h9.2.2⟩
  · intro e he
    have h9 := hL.ep he
    exact ⟨by (try simp (disch := omega) only [zuN, zuE, if_pos, if_neg]) <;> exact h9.1, by (try simp (disch := omega) only [zuN, zuE, if_pos, if_neg]) <;> exact h9.2⟩
  · intro c hc9
    have h9 := hL.ch hc9
    exact by (try simp (disch := omega) only [zuN, zuE, if_pos, if_neg]) <;> exact h9
  · intro s k k' hs hk hk' e
    exact hL.inj hs hk hk' e
  · intro s f hs hf
    rw [hz]
    exact hL.on hs hf
  · intro s f hs h6 hf
    rw [hz]
    exact hL.off hs h6 hf
  · intro e he
    exact by (try simp (disch := omega) only [zuN, zuE, if_pos, if_neg]) <;> exact hL.ep0 he
theorem zBnd.oWitness {σ : zSt} {S F E K : Nat} {Y : Int} (hB : zBnd σ S F E K Y) {f0 : Nat} (hf0 : f0 < F) {w : Int32} (h1 : ¬ (w < 1 ∨ 9 < w)) (h2 : ¬ 99 < σ 6 f0 + w) : zBnd (zu σ 6 f0 (σ 6 f0 + w)) (S) (F) (E) (K) (Y) := by
  have hz : ∀ s f, zmk (zu σ 6 f0 (σ 6 f0 + w)) s f = zmk σ s f := fun s f => zmk_cg (by (try simp (disch := omega) only [zu_r]) <;> rfl)
  refine ⟨?_, ?_, ?_, ?_, ?_, ?_⟩
  · intro s hs
    have h9 := hB.1 s hs
    exact ⟨by (try simp (disch := omega) only [zuN, zuE, if_pos, if_neg]) <;> exact h9.1, by (try simp (disch := omega) only [zuN, zuE, if_pos, if_neg]) <;> exact h9.2.1, by (try simp (disch := omega) only [zuN, zuE, if_pos, if_neg]) <;> exact h9.2.2.1, by (try simp (disch := omega) only [zuN, zuE, if_pos, if_neg]) <;> exact h9.2.2.2⟩
  · intro f hf
    by_cases e9 : f = f0
    · rw [e9]
      have h9 := hB.2.1 f0 hf0
      have hw : zBet w 1 9 := zBet_le h1 (by decide) (by decide)
      have hx : zBet (σ 6 f0 + w) 0 99 := by
        have e1 := h9.2.2
        have e2 := Int32.le_iff_toInt_le.mp (Int32.not_lt.mp h2)
        have e3 : (99 : Int32).toInt = 99 := by decide
        unfold zBet at e1 hw ⊢
        rw [zaddI (by omega)] at e2 ⊢
        omega
      exact ⟨by (try simp (disch := omega) only [zuN, zuE, if_pos, if_neg]) <;> exact h9.1, by (try simp (disch := omega) only [zuN, zuE, if_pos, if_neg]) <;> exact h9.2.1, by (try simp (disch := omega) only [zuN, zuE, if_pos, if_neg]) <;> exact hx⟩
    · have h9 := hB.2.1 f hf
      exact ⟨by (try simp (disch := omega) only [zuN, zuE, if_pos, if_neg]) <;> exact h9.1, by (try simp (disch := omega) only [zuN, zuE, if_pos, if_neg]) <;> exact h9.2.1, by (try simp (disch := omega) only [zuN, zuE, if_pos, if_neg]) <;> exact h9.2.2⟩
  · intro e he
    have h9 := hB.2.2.1 e he
    exact ⟨by (try simp (disch := omega) only [zuN, zuE, if_pos, if_neg]) <;> exact h9.1, by (try simp (disch := omega) only [zuN, zuE, if_pos, if_neg]) <;> exact h9.2⟩
  · intro c hc
    have h9 := hB.2.2.2.1 c hc
    exact by (try simp (disch := omega) only [zuN, zuE, if_pos, if_neg]) <;> exact h9
  · intro s f hs hf hm
    rw [hz] at hm
    have h9 := hB.2.2.2.2.1 s f hs hf hm
    exact ⟨by (try simp (disch := omega) only [zuN, zuE, if_pos, if_neg]) <;> exact h9.1, by (try simp (disch := omega) only [zuN, zuE, if_pos, if_neg]) <;> exact h9.2.1, by (try simp (disch := omega) only [zuN, zuE, if_pos, if_neg]) <;> exact h9.2.2⟩
  · have h9 := hB.2.2.2.2.2
    exact by (try simp (disch := omega) only [zuN, zuE, if_pos, if_neg]) <;> exact h9
theorem zRel.oNum0 {σ : zSt} {S F E K : Nat} {mm : Nat → Nat} {fl : Nat → Nat → Nat} {ν : zSt} (hL : zRel σ S F E K (ν 1) mm fl) {x : Int32} : zRel (zu σ 13 0 x) (S) (F) (E) (K) ((zu ν 1 0 x) 1) (mm) (fl) := by
  have hS6 := hL.S6
  have hF12 := hL.F12
  have hE4 := hL.E4
  have hK3 := hL.K3
  have hn := hL.n
  have hc := hL.sc
  have h11 : (zu σ 13 0 x) 11 = σ 11 := by (try simp (disch := omega) only [zu_r]) <;> rfl
  have hz : ∀ s f, zmk (zu σ 13 0 x) s f = zmk σ s f := fun s f => zmk_cg h11
  refine ⟨⟨by (try simp (disch := omega) only [zuN, zuE, if_pos, if_neg]) <;> exact hn.1, hn.2.1, by (try simp (disch := omega) only [zuN, zuE, if_pos, if_neg]) <;> exact hn.2.2.1, hn.2.2.2.1, by (try simp (disch := omega) only [zuN, zuE, if_pos, if_neg]) <;> exact hn.2.2.2.2.1, hn.2.2.2.2.2.1, by (try simp (disch := omega) only [zuN, zuE, if_pos, if_neg]) <;> exact hn.2.2.2.2.2.2.1, hn.2.2.2.2.2.2.2⟩, ⟨by (try simp (disch := omega) only [zuN, zuE, if_pos, if_neg]) <;> exact rfl, by (try simp (disch := omega) only [zuN, zuE, if_pos, if_neg]) <;> exact hc.2.1, by (try simp (disch := omega) only [zuN, zuE, if_pos, if_neg]) <;> exact hc.2.2.1, by (try simp (disch := omega) only [zuN, zuE, if_pos, if_neg]) <;> exact hc.2.2.2.1, by (try simp (disch := omega) only [zuN, zuE, if_pos, if_neg]) <;> exact hc.2.2.2.2.1, by (try simp (disch := omega) only [zuN, zuE, if_pos, if_neg]) <;> exact hc.2.2.2.2.2.1, by (try simp (disch := omega) only [zuN, zuE, if_pos, if_neg]) <;> exact hc.2.2.2.2.2.2.1, by (try simp (disch := omega) only [zuN, zuE, if_pos, if_neg]) <;> exact hc.2.2.2.2.2.2.2⟩, ?_, ?_, ?_, ?_, ?_, ?_, ?_, ?_, ?_⟩
  · intro s hs
    have h9 := hL.st hs
    exact ⟨by (try simp (disch := omega) only [zuN, zuE, if_pos, if_neg]) <;> exact h9.1, by (try simp (disch := omega) only [zuN, zuE, if_pos, if_neg]) <;> exact h9.2.1, by (try simp (disch := omega) only [zuN, zuE, if_pos, if_neg]) <;> exact h9.2.2.1, by (try simp (disch := omega) only [zuN, zuE, if_pos, if_neg]) <;> exact h9.2.2.2.1, by (try simp (disch := omega) only [zuN, zuE, if_pos, if_neg]) <;> exact h9.2.2.2.2.1, h9.2.2.2.2.2⟩
  · intro s k hs hk
    have h9 := hL.mk hs hk
    have h8 := hL.m6 hs
    exact ⟨by have := h9.1; omega, by (try simp (disch := omega) only [zuN, zuE, if_pos, if_neg]) <;> exact h9.2.1, by (try simp (disch := omega) only [zuN, zuE, if_pos, if_neg]) <;> exact h9.2.2.1, by (try simp (disch := omega) only [zuN, zuE, if_pos, if_neg]) <;> exact h9.2.2.2.1, by (try simp (disch := omega) only [zuN, zuE, if_pos, if_neg]) <;> exact h9.2.2.2.2⟩
  · intro f hf
    have h9 := hL.fd hf
    exact ⟨by (try simp (disch := omega) only [zuN, zuE, if_pos, if_neg]) <;> exact h9.1, by (try simp (disch := omega) only [zuN, zuE, if_pos, if_neg]) <;> exact h9.2.1, by (try simp (disch := omega) only [zuN, zuE, if_pos, if_neg]) <;> exact h9.2.2⟩
  · intro e he
    have h9 := hL.ep he
    exact ⟨by (try simp (disch := omega) only [zuN, zuE, if_pos, if_neg]) <;> exact h9.1, by (try simp (disch := omega) only [zuN, zuE, if_pos, if_neg]) <;> exact h9.2⟩
  · intro c hc9
    have h9 := hL.ch hc9
    exact by (try simp (disch := omega) only [zuN, zuE, if_pos, if_neg]) <;> exact h9
  · intro s k k' hs hk hk' e
    exact hL.inj hs hk hk' e
  · intro s f hs hf
    rw [hz]
    exact hL.on hs hf
  · intro s f hs h6 hf
    rw [hz]
    exact hL.off hs h6 hf
  · intro e he
    exact by (try simp (disch := omega) only [zuN, zuE, if_pos, if_neg]) <;> exact hL.ep0 he
theorem zRel.oNum5 {σ : zSt} {S F E K : Nat} {mm : Nat → Nat} {fl : Nat → Nat → Nat} {ν : zSt} (hL : zRel σ S F E K (ν 1) mm fl) {x : Int32} : zRel (zu σ 13 5 x) (S) (F) (E) (K) ((zu ν 1 1 x) 1) (mm) (fl) := by
  have hS6 := hL.S6
  have hF12 := hL.F12
  have hE4 := hL.E4
  have hK3 := hL.K3
  have hn := hL.n
  have hc := hL.sc
  have h11 : (zu σ 13 5 x) 11 = σ 11 := by (try simp (disch := omega) only [zu_r]) <;> rfl
  have hz : ∀ s f, zmk (zu σ 13 5 x) s f = zmk σ s f := fun s f => zmk_cg h11
  refine ⟨⟨by (try simp (disch := omega) only [zuN, zuE, if_pos, if_neg]) <;> exact hn.1, hn.2.1, by (try simp (disch := omega) only [zuN, zuE, if_pos, if_neg]) <;> exact hn.2.2.1, hn.2.2.2.1, by (try simp (disch := omega) only [zuN, zuE, if_pos, if_neg]) <;> exact hn.2.2.2.2.1, hn.2.2.2.2.2.1, by (try simp (disch := omega) only [zuN, zuE, if_pos, if_neg]) <;> exact hn.2.2.2.2.2.2.1, hn.2.2.2.2.2.2.2⟩, ⟨by (try simp (disch := omega) only [zuN, zuE, if_pos, if_neg]) <;> exact hc.1, by (try simp (disch := omega) only [zuN, zuE, if_pos, if_neg]) <;> exact rfl, by (try simp (disch := omega) only [zuN, zuE, if_pos, if_neg]) <;> exact hc.2.2.1, by (try simp (disch := omega) only [zuN, zuE, if_pos, if_neg]) <;> exact hc.2.2.2.1, by (try simp (disch := omega) only [zuN, zuE, if_pos, if_neg]) <;> exact hc.2.2.2.2.1, by (try simp (disch := omega) only [zuN, zuE, if_pos, if_neg]) <;> exact hc.2.2.2.2.2.1, by (try simp (disch := omega) only [zuN, zuE, if_pos, if_neg]) <;> exact hc.2.2.2.2.2.2.1, by (try simp (disch := omega) only [zuN, zuE, if_pos, if_neg]) <;> exact hc.2.2.2.2.2.2.2⟩, ?_, ?_, ?_, ?_, ?_, ?_, ?_, ?_, ?_⟩
  · intro s hs
    have h9 := hL.st hs
    exact ⟨by (try simp (disch := omega) only [zuN, zuE, if_pos, if_neg]) <;> exact h9.1, by (try simp (disch := omega) only [zuN, zuE, if_pos, if_neg]) <;> exact h9.2.1, by (try simp (disch := omega) only [zuN, zuE, if_pos, if_neg]) <;> exact h9.2.2.1, by (try simp (disch := omega) only [zuN, zuE, if_pos, if_neg]) <;> exact h9.2.2.2.1, by (try simp (disch := omega) only [zuN, zuE, if_pos, if_neg]) <;> exact h9.2.2.2.2.1, h9.2.2.2.2.2⟩
  · intro s k hs hk
    have h9 := hL.mk hs hk
    have h8 := hL.m6 hs
    exact ⟨by have := h9.1; omega, by (try simp (disch := omega) only [zuN, zuE, if_pos, if_neg]) <;> exact h9.2.1, by (try simp (disch := omega) only [zuN, zuE, if_pos, if_neg]) <;> exact h9.2.2.1, by (try simp (disch := omega) only [zuN, zuE, if_pos, if_neg]) <;> exact h9.2.2.2.1, by (try simp (disch := omega) only [zuN, zuE, if_pos, if_neg]) <;> exact h9.2.2.2.2⟩
  · intro f hf
    have h9 := hL.fd hf
    exact ⟨by (try simp (disch := omega) only [zuN, zuE, if_pos, if_neg]) <;> exact h9.1, by (try simp (disch := omega) only [zuN, zuE, if_pos, if_neg]) <;> exact h9.2.1, by (try simp (disch := omega) only [zuN, zuE, if_pos, if_neg]) <;> exact h9.2.2⟩
  · intro e he
    have h9 := hL.ep he
    exact ⟨by (try simp (disch := omega) only [zuN, zuE, if_pos, if_neg]) <;> exact h9.1, by (try simp (disch := omega) only [zuN, zuE, if_pos, if_neg]) <;> exact h9.2⟩
  · intro c hc9
    have h9 := hL.ch hc9
    exact by (try simp (disch := omega) only [zuN, zuE, if_pos, if_neg]) <;> exact h9
  · intro s k k' hs hk hk' e
    exact hL.inj hs hk hk' e
  · intro s f hs hf
    rw [hz]
    exact hL.on hs hf
  · intro s f hs h6 hf
    rw [hz]
    exact hL.off hs h6 hf
  · intro e he
    exact by (try simp (disch := omega) only [zuN, zuE, if_pos, if_neg]) <;> exact hL.ep0 he
theorem zRel.oNum6 {σ : zSt} {S F E K : Nat} {mm : Nat → Nat} {fl : Nat → Nat → Nat} {ν : zSt} (hL : zRel σ S F E K (ν 1) mm fl) {x : Int32} : zRel (zu σ 13 6 x) (S) (F) (E) (K) ((zu ν 1 2 x) 1) (mm) (fl) := by
  have hS6 := hL.S6
  have hF12 := hL.F12
  have hE4 := hL.E4
  have hK3 := hL.K3
  have hn := hL.n
  have hc := hL.sc
  have h11 : (zu σ 13 6 x) 11 = σ 11 := by (try simp (disch := omega) only [zu_r]) <;> rfl
  have hz : ∀ s f, zmk (zu σ 13 6 x) s f = zmk σ s f := fun s f => zmk_cg h11
  refine ⟨⟨by (try simp (disch := omega) only [zuN, zuE, if_pos, if_neg]) <;> exact hn.1, hn.2.1, by (try simp (disch := omega) only [zuN, zuE, if_pos, if_neg]) <;> exact hn.2.2.1, hn.2.2.2.1, by (try simp (disch := omega) only [zuN, zuE, if_pos, if_neg]) <;> exact hn.2.2.2.2.1, hn.2.2.2.2.2.1, by (try simp (disch := omega) only [zuN, zuE, if_pos, if_neg]) <;> exact hn.2.2.2.2.2.2.1, hn.2.2.2.2.2.2.2⟩, ⟨by (try simp (disch := omega) only [zuN, zuE, if_pos, if_neg]) <;> exact hc.1, by (try simp (disch := omega) only [zuN, zuE, if_pos, if_neg]) <;> exact hc.2.1, by (try simp (disch := omega) only [zuN, zuE, if_pos, if_neg]) <;> exact rfl, by (try simp (disch := omega) only [zuN, zuE, if_pos, if_neg]) <;> exact hc.2.2.2.1, by (try simp (disch := omega) only [zuN, zuE, if_pos, if_neg]) <;> exact hc.2.2.2.2.1, by (try simp (disch := omega) only [zuN, zuE, if_pos, if_neg]) <;> exact hc.2.2.2.2.2.1, by (try simp (disch := omega) only [zuN, zuE, if_pos, if_neg]) <;> exact hc.2.2.2.2.2.2.1, by (try simp (disch := omega) only [zuN, zuE, if_pos, if_neg]) <;> exact hc.2.2.2.2.2.2.2⟩, ?_, ?_, ?_, ?_, ?_, ?_, ?_, ?_, ?_⟩
  · intro s hs
    have h9 := hL.st hs
    exact ⟨by (try simp (disch := omega) only [zuN, zuE, if_pos, if_neg]) <;> exact h9.1, by (try simp (disch := omega) only [zuN, zuE, if_pos, if_neg]) <;> exact h9.2.1, by (try simp (disch := omega) only [zuN, zuE, if_pos, if_neg]) <;> exact h9.2.2.1, by (try simp (disch := omega) only [zuN, zuE, if_pos, if_neg]) <;> exact h9.2.2.2.1, by (try simp (disch := omega) only [zuN, zuE, if_pos, if_neg]) <;> exact h9.2.2.2.2.1, h9.2.2.2.2.2⟩
  · intro s k hs hk
    have h9 := hL.mk hs hk
    have h8 := hL.m6 hs
    exact ⟨by have := h9.1; omega, by (try simp (disch := omega) only [zuN, zuE, if_pos, if_neg]) <;> exact h9.2.1, by (try simp (disch := omega) only [zuN, zuE, if_pos, if_neg]) <;> exact h9.2.2.1, by (try simp (disch := omega) only [zuN, zuE, if_pos, if_neg]) <;> exact h9.2.2.2.1, by (try simp (disch := omega) only [zuN, zuE, if_pos, if_neg]) <;> exact h9.2.2.2.2⟩
  · intro f hf
    have h9 := hL.fd hf
    exact ⟨by (try simp (disch := omega) only [zuN, zuE, if_pos, if_neg]) <;> exact h9.1, by (try simp (disch := omega) only [zuN, zuE, if_pos, if_neg]) <;> exact h9.2.1, by (try simp (disch := omega) only [zuN, zuE, if_pos, if_neg]) <;> exact h9.2.2⟩
  · intro e he
    have h9 := hL.ep he
    exact ⟨by (try simp (disch := omega) only [zuN, zuE, if_pos, if_neg]) <;> exact h9.1, by (try simp (disch := omega) only [zuN, zuE, if_pos, if_neg]) <;> exact h9.2⟩
  · intro c hc9
    have h9 := hL.ch hc9
    exact by (try simp (disch := omega) only [zuN, zuE, if_pos, if_neg]) <;> exact h9
  · intro s k k' hs hk hk' e
    exact hL.inj hs hk hk' e
  · intro s f hs hf
    rw [hz]
    exact hL.on hs hf
  · intro s f hs h6 hf
    rw [hz]
    exact hL.off hs h6 hf
  · intro e he
    exact by (try simp (disch := omega) only [zuN, zuE, if_pos, if_neg]) <;> exact hL.ep0 he
theorem zRel.oNum7 {σ : zSt} {S F E K : Nat} {mm : Nat → Nat} {fl : Nat → Nat → Nat} {ν : zSt} (hL : zRel σ S F E K (ν 1) mm fl) {x : Int32} : zRel (zu σ 13 7 x) (S) (F) (E) (K) ((zu ν 1 3 x) 1) (mm) (fl) := by
  have hS6 := hL.S6
  have hF12 := hL.F12
  have hE4 := hL.E4
  have hK3 := hL.K3
  have hn := hL.n
  have hc := hL.sc
  have h11 : (zu σ 13 7 x) 11 = σ 11 := by (try simp (disch := omega) only [zu_r]) <;> rfl
  have hz : ∀ s f, zmk (zu σ 13 7 x) s f = zmk σ s f := fun s f => zmk_cg h11
  refine ⟨⟨by (try simp (disch := omega) only [zuN, zuE, if_pos, if_neg]) <;> exact hn.1, hn.2.1, by (try simp (disch := omega) only [zuN, zuE, if_pos, if_neg]) <;> exact hn.2.2.1, hn.2.2.2.1, by (try simp (disch := omega) only [zuN, zuE, if_pos, if_neg]) <;> exact hn.2.2.2.2.1, hn.2.2.2.2.2.1, by (try simp (disch := omega) only [zuN, zuE, if_pos, if_neg]) <;> exact hn.2.2.2.2.2.2.1, hn.2.2.2.2.2.2.2⟩, ⟨by (try simp (disch := omega) only [zuN, zuE, if_pos, if_neg]) <;> exact hc.1, by (try simp (disch := omega) only [zuN, zuE, if_pos, if_neg]) <;> exact hc.2.1, by (try simp (disch := omega) only [zuN, zuE, if_pos, if_neg]) <;> exact hc.2.2.1, by (try simp (disch := omega) only [zuN, zuE, if_pos, if_neg]) <;> exact rfl, by (try simp (disch := omega) only [zuN, zuE, if_pos, if_neg]) <;> exact hc.2.2.2.2.1, by (try simp (disch := omega) only [zuN, zuE, if_pos, if_neg]) <;> exact hc.2.2.2.2.2.1, by (try simp (disch := omega) only [zuN, zuE, if_pos, if_neg]) <;> exact hc.2.2.2.2.2.2.1, by (try simp (disch := omega) only [zuN, zuE, if_pos, if_neg]) <;> exact hc.2.2.2.2.2.2.2⟩, ?_, ?_, ?_, ?_, ?_, ?_, ?_, ?_, ?_⟩
  · intro s hs
    have h9 := hL.st hs
    exact ⟨by (try simp (disch := omega) only [zuN, zuE, if_pos, if_neg]) <;> exact h9.1, by (try simp (disch := omega) only [zuN, zuE, if_pos, if_neg]) <;> exact h9.2.1, by (try simp (disch := omega) only [zuN, zuE, if_pos, if_neg]) <;> exact h9.2.2.1, by (try simp (disch := omega) only [zuN, zuE, if_pos, if_neg]) <;> exact h9.2.2.2.1, by (try simp (disch := omega) only [zuN, zuE, if_pos, if_neg]) <;> exact h9.2.2.2.2.1, h9.2.2.2.2.2⟩
  · intro s k hs hk
    have h9 := hL.mk hs hk
    have h8 := hL.m6 hs
    exact ⟨by have := h9.1; omega, by (try simp (disch := omega) only [zuN, zuE, if_pos, if_neg]) <;> exact h9.2.1, by (try simp (disch := omega) only [zuN, zuE, if_pos, if_neg]) <;> exact h9.2.2.1, by (try simp (disch := omega) only [zuN, zuE, if_pos, if_neg]) <;> exact h9.2.2.2.1, by (try simp (disch := omega) only [zuN, zuE, if_pos, if_neg]) <;> exact h9.2.2.2.2⟩
  · intro f hf
    have h9 := hL.fd hf
    exact ⟨by (try simp (disch := omega) only [zuN, zuE, if_pos, if_neg]) <;> exact h9.1, by (try simp (disch := omega) only [zuN, zuE, if_pos, if_neg]) <;> exact h9.2.1, by (try simp (disch := omega) only [zuN, zuE, if_pos, if_neg]) <;> exact h9.2.2⟩
  · intro e he
    have h9 := hL.ep he
    exact ⟨by (try simp (disch := omega) only [zuN, zuE, if_pos, if_neg]) <;> exact h9.1, by (try simp (disch := omega) only [zuN, zuE, if_pos, if_neg]) <;> exact h9.2⟩
  · intro c hc9
    have h9 := hL.ch hc9
    exact by (try simp (disch := omega) only [zuN, zuE, if_pos, if_neg]) <;> exact h9
  · intro s k k' hs hk hk' e
    exact hL.inj hs hk hk' e
  · intro s f hs hf
    rw [hz]
    exact hL.on hs hf
  · intro s f hs h6 hf
    rw [hz]
    exact hL.off hs h6 hf
  · intro e he
    exact by (try simp (disch := omega) only [zuN, zuE, if_pos, if_neg]) <;> exact hL.ep0 he
theorem ztix_le (σ : zSt) (E : Nat) (y : Int32) : ztix σ E y ≤ E := zff_le _ _
theorem zRel.oEpocha {σ : zSt} {S F E K : Nat} {mm : Nat → Nat} {fl : Nat → Nat → Nat} {ν : zSt} (hL : zRel σ S F E K (ν 1) mm fl) {t : Nat} (ht : t < E) {y a : Int32} (hy : 0 ≤ y) : zRel (zu (zu σ 7 t y) 8 t a) (S) (F) (E) (K) ((zu (zu (zu ν 1 216 (nI (E))) 1 (217 + 2 * t) y) 1 (217 + 2 * t + 1) a) 1) (mm) (fl) := by
  have hS6 := hL.S6
  have hF12 := hL.F12
  have hE4 := hL.E4
  have hK3 := hL.K3
  have hn := hL.n
  have hc := hL.sc
  have h11 : (zu (zu σ 7 t y) 8 t a) 11 = σ 11 := by (try simp (disch := omega) only [zu_r]) <;> rfl
  have hz : ∀ s f, zmk (zu (zu σ 7 t y) 8 t a) s f = zmk σ s f := fun s f => zmk_cg h11
  refine ⟨⟨by (try simp (disch := omega) only [zuN, zuE, if_pos, if_neg]) <;> exact hn.1, hn.2.1, by (try simp (disch := omega) only [zuN, zuE, if_pos, if_neg]) <;> exact hn.2.2.1, hn.2.2.2.1, by (try simp (disch := omega) only [zuN, zuE, if_pos, if_neg]) <;> exact hn.2.2.2.2.1, hn.2.2.2.2.2.1, by (try simp (disch := omega) only [zuN, zuE, if_pos, if_neg]) <;> exact hn.2.2.2.2.2.2.1, hn.2.2.2.2.2.2.2⟩, ⟨by (try simp (disch := omega) only [zuN, zuE, if_pos, if_neg]) <;> exact hc.1, by (try simp (disch := omega) only [zuN, zuE, if_pos, if_neg]) <;> exact hc.2.1, by (try simp (disch := omega) only [zuN, zuE, if_pos, if_neg]) <;> exact hc.2.2.1, by (try simp (disch := omega) only [zuN, zuE, if_pos, if_neg]) <;> exact hc.2.2.2.1, by (try simp (disch := omega) only [zuN, zuE, if_pos, if_neg]) <;> exact hc.2.2.2.2.1, by (try simp (disch := omega) only [zuN, zuE, if_pos, if_neg]) <;> exact hc.2.2.2.2.2.1, by (try simp (disch := omega) only [zuN, zuE, if_pos, if_neg]) <;> exact rfl, by (try simp (disch := omega) only [zuN, zuE, if_pos, if_neg]) <;> exact hc.2.2.2.2.2.2.2⟩, ?_, ?_, ?_, ?_, ?_, ?_, ?_, ?_, ?_⟩
  · intro s hs
    have h9 := hL.st hs
    exact ⟨by (try simp (disch := omega) only [zuN, zuE, if_pos, if_neg]) <;> exact h9.1, by (try simp (disch := omega) only [zuN, zuE, if_pos, if_neg]) <;> exact h9.2.1, by (try simp (disch := omega) only [zuN, zuE, if_pos, if_neg]) <;> exact h9.2.2.1, by (try simp (disch := omega) only [zuN, zuE, if_pos, if_neg]) <;> exact h9.2.2.2.1, by (try simp (disch := omega) only [zuN, zuE, if_pos, if_neg]) <;> exact h9.2.2.2.2.1, h9.2.2.2.2.2⟩
  · intro s k hs hk
    have h9 := hL.mk hs hk
    have h8 := hL.m6 hs
    exact ⟨by have := h9.1; omega, by (try simp (disch := omega) only [zuN, zuE, if_pos, if_neg]) <;> exact h9.2.1, by (try simp (disch := omega) only [zuN, zuE, if_pos, if_neg]) <;> exact h9.2.2.1, by (try simp (disch := omega) only [zuN, zuE, if_pos, if_neg]) <;> exact h9.2.2.2.1, by (try simp (disch := omega) only [zuN, zuE, if_pos, if_neg]) <;> exact h9.2.2.2.2⟩
  · intro f hf
    have h9 := hL.fd hf
    exact ⟨by (try simp (disch := omega) only [zuN, zuE, if_pos, if_neg]) <;> exact h9.1, by (try simp (disch := omega) only [zuN, zuE, if_pos, if_neg]) <;> exact h9.2.1, by (try simp (disch := omega) only [zuN, zuE, if_pos, if_neg]) <;> exact h9.2.2⟩
  · intro e he
    by_cases e9 : e = t
    · rw [e9]
      exact ⟨by (try simp (disch := omega) only [zuN, zuE, if_pos, if_neg]) <;> exact rfl, by (try simp (disch := omega) only [zuN, zuE, if_pos, if_neg]) <;> exact rfl⟩
    · have h9 := hL.ep (show e < E by omega)
      exact ⟨by (try simp (disch := omega) only [zuN, zuE, if_pos, if_neg]) <;> exact h9.1, by (try simp (disch := omega) only [zuN, zuE, if_pos, if_neg]) <;> exact h9.2⟩
  · intro c hc9
    have h9 := hL.ch hc9
    exact by (try simp (disch := omega) only [zuN, zuE, if_pos, if_neg]) <;> exact h9
  · intro s k k' hs hk hk' e
    exact hL.inj hs hk hk' e
  · intro s f hs hf
    rw [hz]
    exact hL.on hs hf
  · intro s f hs h6 hf
    rw [hz]
    exact hL.off hs h6 hf
  · intro e he
    by_cases e9 : e = t
    · rw [e9]
      exact by (try simp (disch := omega) only [zuN, zuE, if_pos, if_neg]) <;> exact hy
    · exact by (try simp (disch := omega) only [zuN, zuE, if_pos, if_neg]) <;> exact hL.ep0 (show e < E by omega)
theorem zBnd.oEpocha {σ : zSt} {S F E K : Nat} {Y : Int} (hB : zBnd σ S F E K Y) {t : Nat} (ht : t < E) {y a : Int32} (h3 : ¬ ((y < 0 ∨ 999 < y) ∨ (a < -9 ∨ 9 < a))) : zBnd (zu (zu σ 7 t y) 8 t a) (S) (F) (E) (K) (Y) := by
  have hz : ∀ s f, zmk (zu (zu σ 7 t y) 8 t a) s f = zmk σ s f := fun s f => zmk_cg (by (try simp (disch := omega) only [zu_r]) <;> rfl)
  refine ⟨?_, ?_, ?_, ?_, ?_, ?_⟩
  · intro s hs
    have h9 := hB.1 s hs
    exact ⟨by (try simp (disch := omega) only [zuN, zuE, if_pos, if_neg]) <;> exact h9.1, by (try simp (disch := omega) only [zuN, zuE, if_pos, if_neg]) <;> exact h9.2.1, by (try simp (disch := omega) only [zuN, zuE, if_pos, if_neg]) <;> exact h9.2.2.1, by (try simp (disch := omega) only [zuN, zuE, if_pos, if_neg]) <;> exact h9.2.2.2⟩
  · intro f hf
    have h9 := hB.2.1 f hf
    exact ⟨by (try simp (disch := omega) only [zuN, zuE, if_pos, if_neg]) <;> exact h9.1, by (try simp (disch := omega) only [zuN, zuE, if_pos, if_neg]) <;> exact h9.2.1, by (try simp (disch := omega) only [zuN, zuE, if_pos, if_neg]) <;> exact h9.2.2⟩
  · intro e he
    by_cases e9 : e = t
    · rw [e9]
      exact ⟨by (try simp (disch := omega) only [zuN, zuE, if_pos, if_neg]) <;> exact zBet_le (fun q => h3 (Or.inl q)) (by decide) (by decide), by (try simp (disch := omega) only [zuN, zuE, if_pos, if_neg]) <;> exact zBet_le (fun q => h3 (Or.inr q)) (by decide) (by decide)⟩
    · have h9 := hB.2.2.1 e (by omega)
      exact ⟨by (try simp (disch := omega) only [zuN, zuE, if_pos, if_neg]) <;> exact h9.1, by (try simp (disch := omega) only [zuN, zuE, if_pos, if_neg]) <;> exact h9.2⟩
  · intro c hc
    have h9 := hB.2.2.2.1 c hc
    exact by (try simp (disch := omega) only [zuN, zuE, if_pos, if_neg]) <;> exact h9
  · intro s f hs hf hm
    rw [hz] at hm
    have h9 := hB.2.2.2.2.1 s f hs hf hm
    exact ⟨by (try simp (disch := omega) only [zuN, zuE, if_pos, if_neg]) <;> exact h9.1, by (try simp (disch := omega) only [zuN, zuE, if_pos, if_neg]) <;> exact h9.2.1, by (try simp (disch := omega) only [zuN, zuE, if_pos, if_neg]) <;> exact h9.2.2⟩
  · have h9 := hB.2.2.2.2.2
    exact by (try simp (disch := omega) only [zuN, zuE, if_pos, if_neg]) <;> exact h9
theorem zRel.oEpochb {σ : zSt} {S F E K : Nat} {mm : Nat → Nat} {fl : Nat → Nat → Nat} {ν : zSt} (hL : zRel σ S F E K (ν 1) mm fl) (ht : E < 4) {y a : Int32} (hy : 0 ≤ y) : zRel (zu (zu (zu σ 13 3 (nI (E + 1))) 7 E y) 8 E a) (S) (F) (E + 1) (K) ((zu (zu (zu ν 1 216 (nI (E + 1))) 1 (217 + 2 * E) y) 1 (217 + 2 * E + 1) a) 1) (mm) (fl) := by
  have hS6 := hL.S6
  have hF12 := hL.F12
  have hE4 := hL.E4
  have hK3 := hL.K3
  have hn := hL.n
  have hc := hL.sc
  have h11 : (zu (zu (zu σ 13 3 (nI (E + 1))) 7 E y) 8 E a) 11 = σ 11 := by (try simp (disch := omega) only [zu_r]) <;> rfl
  have hz : ∀ s f, zmk (zu (zu (zu σ 13 3 (nI (E + 1))) 7 E y) 8 E a) s f = zmk σ s f := fun s f => zmk_cg h11
  refine ⟨⟨by (try simp (disch := omega) only [zuN, zuE, if_pos, if_neg]) <;> exact hn.1, hn.2.1, by (try simp (disch := omega) only [zuN, zuE, if_pos, if_neg]) <;> exact hn.2.2.1, hn.2.2.2.1, by (try simp (disch := omega) only [zuN, zuE, if_pos, if_neg]) <;> exact rfl, (by omega), by (try simp (disch := omega) only [zuN, zuE, if_pos, if_neg]) <;> exact hn.2.2.2.2.2.2.1, hn.2.2.2.2.2.2.2⟩, ⟨by (try simp (disch := omega) only [zuN, zuE, if_pos, if_neg]) <;> exact hc.1, by (try simp (disch := omega) only [zuN, zuE, if_pos, if_neg]) <;> exact hc.2.1, by (try simp (disch := omega) only [zuN, zuE, if_pos, if_neg]) <;> exact hc.2.2.1, by (try simp (disch := omega) only [zuN, zuE, if_pos, if_neg]) <;> exact hc.2.2.2.1, by (try simp (disch := omega) only [zuN, zuE, if_pos, if_neg]) <;> exact hc.2.2.2.2.1, by (try simp (disch := omega) only [zuN, zuE, if_pos, if_neg]) <;> exact hc.2.2.2.2.2.1, by (try simp (disch := omega) only [zuN, zuE, if_pos, if_neg]) <;> exact rfl, by (try simp (disch := omega) only [zuN, zuE, if_pos, if_neg]) <;> exact hc.2.2.2.2.2.2.2⟩, ?_, ?_, ?_, ?_, ?_, ?_, ?_, ?_, ?_⟩
  · intro s hs
    have h9 := hL.st hs
    exact ⟨by (try simp (disch := omega) only [zuN, zuE, if_pos, if_neg]) <;> exact h9.1, by (try simp (disch := omega) only [zuN, zuE, if_pos, if_neg]) <;> exact h9.2.1, by (try simp (disch := omega) only [zuN, zuE, if_pos, if_neg]) <;> exact h9.2.2.1, by (try simp (disch := omega) only [zuN, zuE, if_pos, if_neg]) <;> exact h9.2.2.2.1, by (try simp (disch := omega) only [zuN, zuE, if_pos, if_neg]) <;> exact h9.2.2.2.2.1, h9.2.2.2.2.2⟩
  · intro s k hs hk
    have h9 := hL.mk hs hk
    have h8 := hL.m6 hs
    exact ⟨by have := h9.1; omega, by (try simp (disch := omega) only [zuN, zuE, if_pos, if_neg]) <;> exact h9.2.1, by (try simp (disch := omega) only [zuN, zuE, if_pos, if_neg]) <;> exact h9.2.2.1, by (try simp (disch := omega) only [zuN, zuE, if_pos, if_neg]) <;> exact h9.2.2.2.1, by (try simp (disch := omega) only [zuN, zuE, if_pos, if_neg]) <;> exact h9.2.2.2.2⟩
  · intro f hf
    have h9 := hL.fd hf
    exact ⟨by (try simp (disch := omega) only [zuN, zuE, if_pos, if_neg]) <;> exact h9.1, by (try simp (disch := omega) only [zuN, zuE, if_pos, if_neg]) <;> exact h9.2.1, by (try simp (disch := omega) only [zuN, zuE, if_pos, if_neg]) <;> exact h9.2.2⟩
  · intro e he
    by_cases e9 : e = E
    · rw [e9]
      exact ⟨by (try simp (disch := omega) only [zuN, zuE, if_pos, if_neg]) <;> exact rfl, by (try simp (disch := omega) only [zuN, zuE, if_pos, if_neg]) <;> exact rfl⟩
    · have h9 := hL.ep (show e < E by omega)
      exact ⟨by (try simp (disch := omega) only [zuN, zuE, if_pos, if_neg]) <;> exact h9.1, by (try simp (disch := omega) only [zuN, zuE, if_pos, if_neg]) <;> exact h9.2⟩
  · intro c hc9
    have h9 := hL.ch hc9
    exact by (try simp (disch := omega) only [zuN, zuE, if_pos, if_neg]) <;> exact h9
  · intro s k k' hs hk hk' e
    exact hL.inj hs hk hk' e
  · intro s f hs hf
    rw [hz]
    exact hL.on hs hf
  · intro s f hs h6 hf
    rw [hz]
    exact hL.off hs h6 hf
  · intro e he
    by_cases e9 : e = E
    · rw [e9]
      exact by (try simp (disch := omega) only [zuN, zuE, if_pos, if_neg]) <;> exact hy
    · exact by (try simp (disch := omega) only [zuN, zuE, if_pos, if_neg]) <;> exact hL.ep0 (show e < E by omega)
theorem zBnd.oEpochb {σ : zSt} {S F E K : Nat} {Y : Int} (hB : zBnd σ S F E K Y) (ht : E < 4) {y a : Int32} (h3 : ¬ ((y < 0 ∨ 999 < y) ∨ (a < -9 ∨ 9 < a))) : zBnd (zu (zu (zu σ 13 3 (nI (E + 1))) 7 E y) 8 E a) (S) (F) (E + 1) (K) (Y) := by
  have hz : ∀ s f, zmk (zu (zu (zu σ 13 3 (nI (E + 1))) 7 E y) 8 E a) s f = zmk σ s f := fun s f => zmk_cg (by (try simp (disch := omega) only [zu_r]) <;> rfl)
  refine ⟨?_, ?_, ?_, ?_, ?_, ?_⟩
  · intro s hs
    have h9 := hB.1 s hs
    exact ⟨by (try simp (disch := omega) only [zuN, zuE, if_pos, if_neg]) <;> exact h9.1, by (try simp (disch := omega) only [zuN, zuE, if_pos, if_neg]) <;> exact h9.2.1, by (try simp (disch := omega) only [zuN, zuE, if_pos, if_neg]) <;> exact h9.2.2.1, by (try simp (disch := omega) only [zuN, zuE, if_pos, if_neg]) <;> exact h9.2.2.2⟩
  · intro f hf
    have h9 := hB.2.1 f hf
    exact ⟨by (try simp (disch := omega) only [zuN, zuE, if_pos, if_neg]) <;> exact h9.1, by (try simp (disch := omega) only [zuN, zuE, if_pos, if_neg]) <;> exact h9.2.1, by (try simp (disch := omega) only [zuN, zuE, if_pos, if_neg]) <;> exact h9.2.2⟩
  · intro e he
    by_cases e9 : e = E
    · rw [e9]
      exact ⟨by (try simp (disch := omega) only [zuN, zuE, if_pos, if_neg]) <;> exact zBet_le (fun q => h3 (Or.inl q)) (by decide) (by decide), by (try simp (disch := omega) only [zuN, zuE, if_pos, if_neg]) <;> exact zBet_le (fun q => h3 (Or.inr q)) (by decide) (by decide)⟩
    · have h9 := hB.2.2.1 e (by omega)
      exact ⟨by (try simp (disch := omega) only [zuN, zuE, if_pos, if_neg]) <;> exact h9.1, by (try simp (disch := omega) only [zuN, zuE, if_pos, if_neg]) <;> exact h9.2⟩
  · intro c hc
    have h9 := hB.2.2.2.1 c hc
    exact by (try simp (disch := omega) only [zuN, zuE, if_pos, if_neg]) <;> exact h9
  · intro s f hs hf hm
    rw [hz] at hm
    have h9 := hB.2.2.2.2.1 s f hs hf hm
    exact ⟨by (try simp (disch := omega) only [zuN, zuE, if_pos, if_neg]) <;> exact h9.1, by (try simp (disch := omega) only [zuN, zuE, if_pos, if_neg]) <;> exact h9.2.1, by (try simp (disch := omega) only [zuN, zuE, if_pos, if_neg]) <;> exact h9.2.2⟩
  · have h9 := hB.2.2.2.2.2
    exact by (try simp (disch := omega) only [zuN, zuE, if_pos, if_neg]) <;> exact h9
