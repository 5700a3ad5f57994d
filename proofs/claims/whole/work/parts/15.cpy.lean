/-! ===== a river copied into another ===== -/
def zcp8 (σ τ : zSt) : zSt := zrw (zrw (zrw (zrw (zu σ 13 1 (τ 13 1)) 0 (τ 0)) 1 (τ 1)) 2 (τ 2)) 3 (τ 3)
def zcp2 (σ τ : zSt) : zSt := zrw (zrw (zrw (zu σ 13 2 (τ 13 2)) 4 (τ 4)) 5 (τ 5)) 6 (τ 6)
def zcp1 (σ τ : zSt) : zSt := zrw (zrw (zu σ 13 3 (τ 13 3)) 7 (τ 7)) 8 (τ 8)
def zcp0 (σ τ : zSt) : zSt := zrw (zu σ 13 4 (τ 13 4)) 9 (τ 9)
def zcp4 (σ τ : zSt) : zSt := zu (zu (zu (zrw (zrw (zrw σ 10 (τ 10)) 11 (τ 11)) 12 (τ 12)) 13 5 (τ 13 5)) 13 6 (τ 13 6)) 13 7 (τ 13 7)
def zcA (σ τ : zSt) : zSt := zcp4 (zcp0 (zcp1 (zcp2 (zcp8 (zu σ 13 0 (τ 13 0)) τ) τ) τ) τ) τ
theorem zrw_s (σ : zSt) (r : Nat) (f : Nat → Int32) : zrw σ r f r = f := if_pos rfl
theorem zrw_n {σ : zSt} {r r' : Nat} {f : Nat → Int32} (h : r' ≠ r) : zrw σ r f r' = σ r' := if_neg h
theorem zcA_r (σ τ : zSt) : ∀ r, r < 13 → zcA σ τ r = τ r := by
  intro r hr
  unfold zcA zcp4 zcp0 zcp1 zcp2 zcp8
  rw [zu_r (by omega), zu_r (by omega), zu_r (by omega)]
  rcases (by omega : r = 0 ∨ r = 1 ∨ r = 2 ∨ r = 3 ∨ r = 4 ∨ r = 5 ∨ r = 6 ∨ r = 7 ∨ r = 8 ∨ r = 9 ∨ r = 10 ∨ r = 11 ∨ r = 12) with rfl | rfl | rfl | rfl | rfl | rfl | rfl | rfl | rfl | rfl | rfl | rfl | rfl <;> simp [zrw_s, zrw_n, zu_r]
theorem zcA_n (σ τ : zSt) : ∀ j, j < 8 → zcA σ τ 13 j = τ 13 j := by
  intro j hj
  unfold zcA zcp4 zcp0 zcp1 zcp2 zcp8
  rcases (by omega : j = 0 ∨ j = 1 ∨ j = 2 ∨ j = 3 ∨ j = 4 ∨ j = 5 ∨ j = 6 ∨ j = 7) with rfl | rfl | rfl | rfl | rfl | rfl | rfl | rfl <;> simp [zrw_n, zu]
def zrs {α : Type} : Option α → Int32
  | none => 0
  | some _ => 1
