/-! ===== the reference's row and the river's state: one world in two writings ===== -/
/-- g: the reference's row; mm: how many marks a stone bears; fl: the flood of its k-th mark -/
def zRel (σ : zSt) (S F E K : Nat) (g : Nat → Int32) (mm : Nat → Nat) (fl : Nat → Nat → Nat) : Prop :=
  zN σ S F E K ∧
  (g 0 = σ 13 0 ∧ g 1 = σ 13 5 ∧ g 2 = σ 13 6 ∧ g 3 = σ 13 7 ∧ g 4 = nI S ∧ g 179 = nI F ∧ g 216 = nI E ∧ g 225 = nI K) ∧
  (∀ s, s < S → g (5 + 29 * s) = σ 0 s ∧ g (5 + 29 * s + 1) = σ 1 s ∧ g (5 + 29 * s + 2) = σ 2 s ∧ g (5 + 29 * s + 3) = σ 3 s ∧ g (5 + 29 * s + 4) = nI (mm s) ∧ mm s ≤ 6) ∧
  (∀ s k, s < S → k < mm s → fl s k < F ∧ g (5 + 29 * s + 5 + 4 * k) = nI (fl s k) ∧ g (5 + 29 * s + 5 + 4 * k + 1) = σ 10 (12 * s + fl s k) ∧ g (5 + 29 * s + 5 + 4 * k + 2) = σ 11 (12 * s + fl s k) ∧ g (5 + 29 * s + 5 + 4 * k + 3) = σ 12 (12 * s + fl s k)) ∧
  (∀ f, f < F → g (180 + 3 * f) = σ 4 f ∧ g (180 + 3 * f + 1) = σ 5 f ∧ g (180 + 3 * f + 2) = σ 6 f) ∧
  (∀ e, e < E → g (217 + 2 * e) = σ 7 e ∧ g (217 + 2 * e + 1) = σ 8 e) ∧
  (∀ c, c < K → g (226 + c) = σ 9 c) ∧
  (∀ s k k', s < S → k < mm s → k' < mm s → fl s k = fl s k' → k = k') ∧
  (∀ s f, s < S → f < 12 → (zmk σ s f = true ↔ ∃ k, k < mm s ∧ fl s k = f)) ∧
  (∀ s f, S ≤ s → s < 6 → f < 12 → zmk σ s f = false) ∧
  (∀ e, e < E → 0 ≤ σ 7 e)
section ZRL
variable {σ : zSt} {S F E K : Nat} {g : Nat → Int32} {mm : Nat → Nat} {fl : Nat → Nat → Nat}
theorem zRel.n (h : zRel σ S F E K g mm fl) : zN σ S F E K := h.1
theorem zRel.sc (h : zRel σ S F E K g mm fl) : g 0 = σ 13 0 ∧ g 1 = σ 13 5 ∧ g 2 = σ 13 6 ∧ g 3 = σ 13 7 ∧ g 4 = nI S ∧ g 179 = nI F ∧ g 216 = nI E ∧ g 225 = nI K := h.2.1
theorem zRel.st (h : zRel σ S F E K g mm fl) {s : Nat} (hs : s < S) : g (5 + 29 * s) = σ 0 s ∧ g (5 + 29 * s + 1) = σ 1 s ∧ g (5 + 29 * s + 2) = σ 2 s ∧ g (5 + 29 * s + 3) = σ 3 s ∧ g (5 + 29 * s + 4) = nI (mm s) ∧ mm s ≤ 6 := h.2.2.1 s hs
theorem zRel.mk (h : zRel σ S F E K g mm fl) {s k : Nat} (hs : s < S) (hk : k < mm s) : fl s k < F ∧ g (5 + 29 * s + 5 + 4 * k) = nI (fl s k) ∧ g (5 + 29 * s + 5 + 4 * k + 1) = σ 10 (12 * s + fl s k) ∧ g (5 + 29 * s + 5 + 4 * k + 2) = σ 11 (12 * s + fl s k) ∧ g (5 + 29 * s + 5 + 4 * k + 3) = σ 12 (12 * s + fl s k) := h.2.2.2.1 s k hs hk
theorem zRel.fd (h : zRel σ S F E K g mm fl) {f : Nat} (hf : f < F) : g (180 + 3 * f) = σ 4 f ∧ g (180 + 3 * f + 1) = σ 5 f ∧ g (180 + 3 * f + 2) = σ 6 f := h.2.2.2.2.1 f hf
theorem zRel.ep (h : zRel σ S F E K g mm fl) {e : Nat} (he : e < E) : g (217 + 2 * e) = σ 7 e ∧ g (217 + 2 * e + 1) = σ 8 e := h.2.2.2.2.2.1 e he
theorem zRel.ch (h : zRel σ S F E K g mm fl) {c : Nat} (hc : c < K) : g (226 + c) = σ 9 c := h.2.2.2.2.2.2.1 c hc
theorem zRel.inj (h : zRel σ S F E K g mm fl) {s k k' : Nat} (hs : s < S) (hk : k < mm s) (hk' : k' < mm s) (e : fl s k = fl s k') : k = k' := h.2.2.2.2.2.2.2.1 s k k' hs hk hk' e
theorem zRel.on (h : zRel σ S F E K g mm fl) {s f : Nat} (hs : s < S) (hf : f < 12) : zmk σ s f = true ↔ ∃ k, k < mm s ∧ fl s k = f := h.2.2.2.2.2.2.2.2.1 s f hs hf
theorem zRel.off (h : zRel σ S F E K g mm fl) {s f : Nat} (hs : S ≤ s) (h6 : s < 6) (hf : f < 12) : zmk σ s f = false := h.2.2.2.2.2.2.2.2.2.1 s f hs h6 hf
theorem zRel.ep0 (h : zRel σ S F E K g mm fl) {e : Nat} (he : e < E) : 0 ≤ σ 7 e := h.2.2.2.2.2.2.2.2.2.2 e he
theorem zRel.S6 (h : zRel σ S F E K g mm fl) : S ≤ 6 := h.1.2.1
theorem zRel.F12 (h : zRel σ S F E K g mm fl) : F ≤ 12 := h.1.2.2.2.1
theorem zRel.E4 (h : zRel σ S F E K g mm fl) : E ≤ 4 := h.1.2.2.2.2.2.1
theorem zRel.K3 (h : zRel σ S F E K g mm fl) : K ≤ 3 := h.1.2.2.2.2.2.2.2
theorem zRel.m6 (h : zRel σ S F E K g mm fl) {s : Nat} (hs : s < S) : mm s ≤ 6 := (h.st hs).2.2.2.2.2
end ZRL
/-- the place of a flood's mark on a stone, or -1 -/
def zpl (mm : Nat → Nat) (fl : Nat → Nat → Nat) (s f : Nat) : Nat := zff (fun k => decide (fl s k = f)) (mm s)
theorem zixO (s w : Nat) : (5 : Int32) + 29 * nI s + nI w = nI (5 + 29 * s + w) := by
  rw [show (5 : Int32) = nI 5 from rfl, show (29 : Int32) = nI 29 from rfl, pk_mul, nI_add, nI_add]
theorem zixM (s k w : Nat) : (5 : Int32) + 29 * nI s + 5 + 4 * nI k + nI w = nI (5 + 29 * s + 5 + 4 * k + w) := by
  rw [show (5 : Int32) = nI 5 from rfl, show (29 : Int32) = nI 29 from rfl, show (4 : Int32) = nI 4 from rfl, pk_mul, pk_mul, nI_add, nI_add, nI_add, nI_add]
theorem zixF (f w : Nat) : (180 : Int32) + 3 * nI f + nI w = nI (180 + 3 * f + w) := by
  rw [show (180 : Int32) = nI 180 from rfl, show (3 : Int32) = nI 3 from rfl, pk_mul, nI_add, nI_add]
theorem zixE (k : Nat) : (217 : Int32) + 2 * nI k = nI (217 + 2 * k) := by
  rw [show (217 : Int32) = nI 217 from rfl, show (2 : Int32) = nI 2 from rfl, pk_mul, nI_add]
theorem zixC (k : Nat) : (226 : Int32) + nI k = nI (226 + k) := by
  rw [show (226 : Int32) = nI 226 from rfl, nI_add]
theorem zixF0 (k : Nat) : (180 : Int32) + 3 * nI k = nI (180 + 3 * k) := by
  rw [show (180 : Int32) = nI 180 from rfl, show (3 : Int32) = nI 3 from rfl, pk_mul, nI_add]
theorem zlem1 {x : Int32} {n : Nat} (hn : n < 2147483648) : (0 ≤ x ∧ x ≤ nI n - 1) ↔ (0 ≤ x ∧ x < nI n) := by
  constructor
  · rintro ⟨h0, h1⟩
    refine ⟨h0, ?_⟩
    obtain ⟨j, hj, rfl⟩ := nI_of (Int32.not_lt.mpr h0)
    cases n with
    | zero => exact absurd h1 (Int32.not_le.mpr (Int32.lt_iff_toInt_lt.mpr (by
        have e1 : (nI 0 - 1 : Int32).toInt = -1 := by decide
        have e2 := nI_toInt hj
        omega)))
    | succ n =>
      rw [nI_pred] at h1
      exact (nI_ltI hj hn).mpr (by have := (nI_leI hj (by omega)).mp h1; omega)
  · rintro ⟨h0, h1⟩
    refine ⟨h0, ?_⟩
    obtain ⟨j, hj, rfl⟩ := nI_of (Int32.not_lt.mpr h0)
    have h2 := (nI_ltI hj hn).mp h1
    cases n with
    | zero => omega
    | succ n =>
      rw [nI_pred]
      exact (nI_leI hj (by omega)).mpr (by omega)
