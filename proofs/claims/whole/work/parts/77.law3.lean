theorem zWd.up {ρ : Nat → zSt} {γ μ : zSt} {m : Nat} {Y Y' : Int} (h : zWd ρ γ μ m Y) (hY : Y ≤ Y') : zWd ρ γ μ m Y' := by
  obtain ⟨h1, h2, ⟨nx, ct, h3, h4, h5⟩, h6⟩ := h
  exact ⟨h1.up hY, ⟨h2.1, fun z => (h2.2 z).up hY⟩, ⟨nx, ct, h3, h4, fun i hi => (h5 i hi).up hY⟩, h6⟩
theorem zisI_ite {cs : List String} {c : Prop} [Decidable c] {a b : zO} (ha : zisI cs a) (hb : zisI cs b) : zisI cs (if c then a else b) := by
  by_cases h : c
  · rw [if_pos h]; exact ha
  · rw [if_neg h]; exact hb
theorem zcd_i1 {E : String} {l : List String} : zcd E (E :: l) 1 = some 1 := if_pos rfl
theorem zcd_i2 {E a : String} {l : List String} (h : a ≠ E) : zcd E (a :: E :: l) 1 = some 2 := (if_neg h).trans (if_pos rfl)
theorem zcd_i3 {E a b : String} {l : List String} (h : a ≠ E) (h2 : b ≠ E) : zcd E (a :: b :: E :: l) 1 = some 3 := (if_neg h).trans ((if_neg h2).trans (if_pos rfl))
theorem zisI_v {cs : List String} {v : Int32} : zisI cs (zvi v) := Or.inl ⟨v, rfl⟩
theorem zisI_e {cs : List String} {E : String} {c : Int32} (h : zcd E cs 1 = some c) (h0 : c ≠ 0) : zisI cs (.inr E) := Or.inr ⟨E, c, rfl, h, h0⟩
theorem zis_stoneOf {σ : zSt} {E F : Nat} {x w : Int32} : zisI [zIO, zIA] (zoStoneOf σ E F x w) := by
  unfold zoStoneOf
  repeat' first | refine zisI_ite ?_ ?_ | exact zisI_v | exact zisI_e zcd_i1 (by decide) | exact zisI_e (zcd_i2 (by decide)) (by decide) | exact zisI_e (zcd_i3 (by decide) (by decide)) (by decide)
theorem zis_floodOf {σ : zSt} {E F S : Nat} {x w : Int32} : zisI [zIO, zIA] (zoFloodOf σ E F S x w) := by
  unfold zoFloodOf
  repeat' first | refine zisI_ite ?_ ?_ | exact zisI_v | exact zisI_e zcd_i1 (by decide) | exact zisI_e (zcd_i2 (by decide)) (by decide) | exact zisI_e (zcd_i3 (by decide) (by decide)) (by decide)
theorem zis_floodIn {σ : zSt} {F : Nat} {y : Int32} : zisI [zNS] (zoFloodIn σ F y) := by
  unfold zoFloodIn
  repeat' first | refine zisI_ite ?_ ?_ | exact zisI_v | exact zisI_e zcd_i1 (by decide) | exact zisI_e (zcd_i2 (by decide)) (by decide) | exact zisI_e (zcd_i3 (by decide) (by decide)) (by decide)
theorem zis_before {σ : zSt} {F : Nat} {y : Int32} : zisI [zNS] (zoBefore σ F y) := by
  unfold zoBefore
  repeat' first | refine zisI_ite ?_ ?_ | exact zisI_v | exact zisI_e zcd_i1 (by decide) | exact zisI_e (zcd_i2 (by decide)) (by decide) | exact zisI_e (zcd_i3 (by decide) (by decide)) (by decide)
theorem zis_edge {σ : zSt} {z : Int32} : zisI [zIO] (zoEdge σ z) := by
  unfold zoEdge
  repeat' first | refine zisI_ite ?_ ?_ | exact zisI_v | exact zisI_e zcd_i1 (by decide) | exact zisI_e (zcd_i2 (by decide)) (by decide) | exact zisI_e (zcd_i3 (by decide) (by decide)) (by decide)
theorem zis_markOf {σ : zSt} {E : Nat} {x y w : Int32} : zisI [zIO, zIA, zNS] (zoMarkOf σ E x y w) := by
  unfold zoMarkOf
  repeat' first | refine zisI_ite ?_ ?_ | exact zisI_v | exact zisI_e zcd_i1 (by decide) | exact zisI_e (zcd_i2 (by decide)) (by decide) | exact zisI_e (zcd_i3 (by decide) (by decide)) (by decide)
theorem zis_mark {σ : zSt} {x y : Int32} : zisI [zIO, zNS] (zoMark σ x y) := by
  unfold zoMark
  repeat' first | refine zisI_ite ?_ ?_ | exact zisI_v | exact zisI_e zcd_i1 (by decide) | exact zisI_e (zcd_i2 (by decide)) (by decide) | exact zisI_e (zcd_i3 (by decide) (by decide)) (by decide)
theorem zis_level {σ : zSt} {x y : Int32} : zisI [zIO] (zoLevel σ x y) := by
  unfold zoLevel
  repeat' first | refine zisI_ite ?_ ?_ | exact zisI_v | exact zisI_e zcd_i1 (by decide) | exact zisI_e (zcd_i2 (by decide)) (by decide) | exact zisI_e (zcd_i3 (by decide) (by decide)) (by decide)
theorem zis_reads {σ : zSt} {E : Nat} {x y : Int32} : zisI [zIO] (zoReads σ E x y) := by
  unfold zoReads
  repeat' first | refine zisI_ite ?_ ?_ | exact zisI_v | exact zisI_e zcd_i1 (by decide) | exact zisI_e (zcd_i2 (by decide)) (by decide) | exact zisI_e (zcd_i3 (by decide) (by decide)) (by decide)
theorem zis_shift {σ : zSt} {E : Nat} {y : Int32} : zisI [zIA] (zoShift σ E y) := by
  unfold zoShift
  repeat' first | refine zisI_ite ?_ ?_ | exact zisI_v | exact zisI_e zcd_i1 (by decide) | exact zisI_e (zcd_i2 (by decide)) (by decide) | exact zisI_e (zcd_i3 (by decide) (by decide)) (by decide)
theorem zis_errorIn {σ : zSt} {x w : Int32} : zisI [zIO, zIA] (zoErrorIn σ x w) := by
  unfold zoErrorIn
  repeat' first | refine zisI_ite ?_ ?_ | exact zisI_v | exact zisI_e zcd_i1 (by decide) | exact zisI_e (zcd_i2 (by decide)) (by decide) | exact zisI_e (zcd_i3 (by decide) (by decide)) (by decide)
theorem zis_reason {γ : zSt} {w : Int32} : zisI [zIA, zNS] (zoReason γ w) := by
  unfold zoReason
  repeat' first | refine zisI_ite ?_ ?_ | exact zisI_v | exact zisI_e zcd_i1 (by decide) | exact zisI_e (zcd_i2 (by decide)) (by decide) | exact zisI_e (zcd_i3 (by decide) (by decide)) (by decide)
theorem zis_account {σ γ : zSt} {E F S : Nat} {w : Int32} : zisI [zIA] (zoAccount σ γ E F S w) := by
  unfold zoAccount
  repeat' first | refine zisI_ite ?_ ?_ | exact zisI_v | exact zisI_e zcd_i1 (by decide) | exact zisI_e (zcd_i2 (by decide)) (by decide) | exact zisI_e (zcd_i3 (by decide) (by decide)) (by decide)
