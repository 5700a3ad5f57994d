/-! ===== ranks in a strict order are a permutation ===== -/
theorem zct_mono {p q : Nat → Bool} : ∀ {n : Nat}, (∀ k, k < n → p k = true → q k = true) → zct p n ≤ zct q n
  | 0, _ => Nat.le_refl 0
  | n + 1, h => by
    have ih := zct_mono (p := p) (q := q) (n := n) (fun k hk => h k (by omega))
    by_cases e : p n = true
    · rw [zct_t e, zct_t (h n (by omega) e)]; omega
    · rw [zct_f (zbf e)]
      by_cases e2 : q n = true
      · rw [zct_t e2]; omega
      · rw [zct_f (zbf e2)]; exact ih
theorem zct_lt {p q : Nat → Bool} {x : Nat} : ∀ {n : Nat}, x < n → (∀ k, k < n → p k = true → q k = true) → p x = false → q x = true → zct p n < zct q n
  | 0, h, _, _, _ => absurd h (by omega)
  | n + 1, hx, h, h1, h2 => by
    by_cases e : x = n
    · subst e
      have := zct_mono (p := p) (q := q) (n := x) (fun k hk => h k (by omega))
      rw [zct_f h1, zct_t h2]
      omega
    · have ih := zct_lt (p := p) (q := q) (x := x) (n := n) (by omega) (fun k hk => h k (by omega)) h1 h2
      by_cases e1 : p n = true
      · rw [zct_t e1, zct_t (h n (by omega) e1)]; omega
      · rw [zct_f (zbf e1)]
        by_cases e2 : q n = true
        · rw [zct_t e2]; omega
        · rw [zct_f (zbf e2)]; exact ih
theorem zrank_lt {R : Nat → Nat → Bool} {m k : Nat} (h0 : R k k = false) (hk : k < m) : zct (fun j => R j k) m < m := by
  have h1 := zct_lt (p := fun j => R j k) (q := fun _ => true) (x := k) hk (fun _ _ _ => rfl) h0 rfl
  have h2 := zct_le (fun _ => true) m
  omega
theorem zrank_u {R : Nat → Nat → Bool} {m : Nat} (h0 : ∀ a, R a a = false) (ht : ∀ a b c, R a b = true → R b c = true → R a c = true) (hc : ∀ a b, a < m → b < m → a ≠ b → R a b = true ∨ R b a = true) {k l : Nat} (hk : k < m) (hl : l < m) (e : zct (fun j => R j k) m = zct (fun j => R j l) m) : k = l := by
  by_cases q : k = l
  · exact q
  · exfalso
    rcases hc k l hk hl q with h | h
    · have := zct_lt (p := fun j => R j k) (q := fun j => R j l) (x := k) hk (fun j _ hj => ht j k l hj h) (h0 k) h
      omega
    · have := zct_lt (p := fun j => R j l) (q := fun j => R j k) (x := l) hl (fun j _ hj => ht j l k hj h) (h0 l) h
      omega
theorem zrank_ex {R : Nat → Nat → Bool} (h0 : ∀ a, R a a = false) (ht : ∀ a b c, R a b = true → R b c = true → R a c = true) : ∀ (m : Nat), (∀ a b, a < m → b < m → a ≠ b → R a b = true ∨ R b a = true) → ∀ p, p < m → ∃ k, k < m ∧ zct (fun j => R j k) m = p
  | 0, _, p, hp => absurd hp (by omega)
  | m + 1, hc, p, hp => by
    have ih := zrank_ex h0 ht m (fun a b ha hb => hc a b (by omega) (by omega))
    have hr := zct_le (fun j => R j m) m
    rcases (by omega : p = zct (fun j => R j m) m ∨ p < zct (fun j => R j m) m ∨ zct (fun j => R j m) m < p) with h | h | h
    · exact ⟨m, by omega, by rw [zct_f (p := fun j => R j m) (h0 m)]; exact h.symm⟩
    · obtain ⟨k, hk, e⟩ := ih p (by omega)
      have hne : R m k = false := zbf (fun q => by
        have := zct_mono (p := fun j => R j m) (q := fun j => R j k) (n := m) (fun j _ hj => ht j m k hj q)
        omega)
      exact ⟨k, by omega, by rw [zct_f (p := fun j => R j k) hne]; exact e⟩
    · obtain ⟨k, hk, e⟩ := ih (p - 1) (by omega)
      have hy : R m k = true := by
        rcases hc m k (by omega) (by omega) (by omega) with q | q
        · exact q
        · exfalso
          have := zct_lt (p := fun j => R j k) (q := fun j => R j m) (x := k) (n := m) hk (fun j _ hj => ht j k m hj q) (h0 k) q
          omega
      exact ⟨k, by omega, by rw [zct_t (p := fun j => R j k) hy, e]; omega⟩
/-- on a stone all heights are different -/
def zDis (σ : zSt) (S F : Nat) : Prop := ∀ s f o, s < S → f < F → o < F → zmk σ s f = true → zmk σ s o = true → σ 10 (12 * s + f) = σ 10 (12 * s + o) → f = o
section ZRK
variable {σ : zSt} {S F E K : Nat} {g : Nat → Int32} {mm : Nat → Nat} {fl : Nat → Nat → Nat}
theorem zRel.blow (hL : zRel σ S F E K g mm fl) {s k : Nat} (hs : s < S) : zbl σ mm fl s k = zlow σ s (σ 10 (12 * s + fl s k)) :=
  hL.ctr hs hL.F12 (Nat.le_refl 12) (fun f => decide (σ 10 (12 * s + f) < σ 10 (12 * s + fl s k)))
theorem zlo0 (σ : zSt) (s : Nat) (fl : Nat → Nat → Nat) (a : Nat) : (fun j k => decide (σ 10 (12 * s + fl s j) < σ 10 (12 * s + fl s k))) a a = false := decide_eq_false (fun q => by
  have := Int32.lt_iff_toInt_lt.mp q
  omega)
theorem zlot (σ : zSt) (s : Nat) (fl : Nat → Nat → Nat) (a b c : Nat) (h1 : (fun j k => decide (σ 10 (12 * s + fl s j) < σ 10 (12 * s + fl s k))) a b = true) (h2 : (fun j k => decide (σ 10 (12 * s + fl s j) < σ 10 (12 * s + fl s k))) b c = true) : (fun j k => decide (σ 10 (12 * s + fl s j) < σ 10 (12 * s + fl s k))) a c = true := decide_eq_true (by
  have e1 := Int32.lt_iff_toInt_lt.mp (of_decide_eq_true h1)
  have e2 := Int32.lt_iff_toInt_lt.mp (of_decide_eq_true h2)
  exact Int32.lt_iff_toInt_lt.mpr (by omega))
theorem zRel.loc (hL : zRel σ S F E K g mm fl) (hD : zDis σ S F) {s : Nat} (hs : s < S) (a b : Nat) (ha : a < mm s) (hb : b < mm s) (hab : a ≠ b) : (fun j k => decide (σ 10 (12 * s + fl s j) < σ 10 (12 * s + fl s k))) a b = true ∨ (fun j k => decide (σ 10 (12 * s + fl s j) < σ 10 (12 * s + fl s k))) b a = true := by
  have hne : ¬ (σ 10 (12 * s + fl s a)).toInt = (σ 10 (12 * s + fl s b)).toInt := fun q => hab (hL.inj hs ha hb (hD s _ _ hs (hL.mk hs ha).1 (hL.mk hs hb).1 (hL.mkt hs ha) (hL.mkt hs hb) (zeqI.mpr q)))
  rcases (by omega : (σ 10 (12 * s + fl s a)).toInt < (σ 10 (12 * s + fl s b)).toInt ∨ (σ 10 (12 * s + fl s b)).toInt < (σ 10 (12 * s + fl s a)).toInt) with h | h
  · exact Or.inl (decide_eq_true (Int32.lt_iff_toInt_lt.mpr h))
  · exact Or.inr (decide_eq_true (Int32.lt_iff_toInt_lt.mpr h))
/-- the mark of a rank, on both sides -/
theorem zRel.nth (hL : zRel σ S F E K g mm fl) (hD : zDis σ S F) {s p : Nat} (hs : s < S) (hp : p < mm s) : ∃ k, k < mm s ∧ zff (fun k => decide (nI (zbl σ mm fl s k) = nI p)) (mm s) = k ∧ zff (zatP σ s (nI p)) 12 = fl s k ∧ fl s k < 12 := by
  have hm6 := hL.m6 hs
  obtain ⟨k, hk, e⟩ := zrank_ex (zlo0 σ s fl) (zlot σ s fl) (mm s) (hL.loc hD hs) p hp
  have ek : zbl σ mm fl s k = p := e
  have hbl : ∀ j, j < mm s → zbl σ mm fl s j < mm s := fun j hj => zrank_lt (R := fun j k => decide (σ 10 (12 * s + fl s j) < σ 10 (12 * s + fl s k))) (zlo0 σ s fl j) hj
  have hu : ∀ j, j < mm s → nI (zbl σ mm fl s j) = nI p → j = k := fun j hj q => by
    have h1 := hbl j hj
    have h2 := znI_inj (by omega) (by omega) q
    exact zrank_u (zlo0 σ s fl) (zlot σ s fl) (hL.loc hD hs) hj hk (h2.trans e.symm)
  have hf := (hL.mk hs hk).1
  have hF := hL.F12
  refine ⟨k, hk, zff_yes (fun j hj => decide_eq_false (fun q => ?_)) (decide_eq_true (by rw [ek])) hk, zff_yes (fun f hfl => ?_) ?_ (by omega), by omega⟩
  · have := hu j (by omega) q
    omega
  · refine zbf (fun q => ?_)
    have q1 := Bool.and_eq_true_iff.mp q
    obtain ⟨j, hj, ej⟩ := (hL.on hs (by omega)).mp q1.1
    have q2 := of_decide_eq_true q1.2
    rw [← ej, ← hL.blow hs] at q2
    have := hu j hj q2
    subst this
    omega
  · refine Bool.and_eq_true_iff.mpr ⟨hL.mkt hs hk, decide_eq_true ?_⟩
    rw [← hL.blow hs, ek]
theorem zRel.nthN (hL : zRel σ S F E K g mm fl) {s : Nat} {x : Int32} (hs : s < S) (hx : ¬ (0 ≤ x ∧ x < nI (mm s))) : ¬ 0 ≤ zfi (zatP σ s x) 12 := by
  have hm6 := hL.m6 hs
  rw [zfi_no (fun f hf => zbf (fun q => ?_))]
  · decide
  · have q1 := Bool.and_eq_true_iff.mp q
    obtain ⟨j, hj, ej⟩ := (hL.on hs hf).mp q1.1
    have q2 := of_decide_eq_true q1.2
    rw [← ej, ← hL.blow hs] at q2
    have h1 : zbl σ mm fl s j < mm s := zrank_lt (R := fun j k => decide (σ 10 (12 * s + fl s j) < σ 10 (12 * s + fl s k))) (zlo0 σ s fl j) hj
    rw [← q2] at hx
    exact hx ⟨Int32.not_lt.mp (nI_pos (by omega)), (nI_ltI (by omega) (by omega)).mpr h1⟩
end ZRK
