/-! ===== the reference: its cells ===== -/
/-- 0 the object, 1 g, 2 kept, 3 saved, 4 before, 5 input, 6 signs, 7 told; row 0 of the numbers by the fields' places, rows 1 to 7 the arrays -/
def zmE (am : Nat → Nat) (μ : zSt) (k : Nat) : zE := match k with
  | 0 => .inr (11, [.ref (am 1), .ref (am 2), .ref (am 3), .ref (am 4), .int (μ 0 4), .int (μ 0 5), .int (μ 0 6), .int (μ 0 7), .int (μ 0 8), .int (μ 0 9), .int (μ 0 10), .int (μ 0 11), .ref (am 5), .int (μ 0 13), .int (μ 0 14), .ref (am 6), .int (μ 0 16), .int (μ 0 17), .ref (am 7), .int (μ 0 19)])
  | 1 => .inl (.int, (229, .inl (μ 1)))
  | 2 => .inl (.int, (1832, .inl (μ 2)))
  | 3 => .inl (.int, (229, .inl (μ 3)))
  | 4 => .inl (.int, (229, .inl (μ 4)))
  | 5 => .inl (.int, (60, .inl (μ 5)))
  | 6 => .inl (.char, (80, .inl (μ 6)))
  | _ => .inl (.int, (124, .inl (μ 7)))
def zMod (G : zH) (am : Nat → Nat) (μ : zSt) : Prop := (∀ k, k < 8 → G (am k) = some (zmE am μ k)) ∧ zApart am 8
theorem zmE_cong {am : Nat → Nat} {μ ν : zSt} {k : Nat} (hk : k < 8) (h : ∀ r, r = k → μ r = ν r) : zmE am μ k = zmE am ν k := by
  have h1 := h k rfl
  rcases (by omega : k = 0 ∨ k = 1 ∨ k = 2 ∨ k = 3 ∨ k = 4 ∨ k = 5 ∨ k = 6 ∨ k = 7) with rfl | rfl | rfl | rfl | rfl | rfl | rfl | rfl <;> simp only [zmE, h1]
theorem zMod.set {G : zH} {am : Nat → Nat} {μ ν : zSt} (h : zMod G am μ) {k : Nat} {e : zE} (hk : k < 8) (he : e = zmE am ν k) (ho : ∀ r, r < 8 → r ≠ k → μ r = ν r) : zMod (zset G (am k) e) am ν := by
  refine ⟨fun k' hk' => ?_, h.2⟩
  by_cases q : k' = k
  · subst q; rw [zset_s, he]
  · rw [zset_n (fun z => q (h.2 k' k hk' hk z)), h.1 k' hk']
    exact congrArg some (zmE_cong hk' (fun r hr => by subst hr; exact ho r hk' q))
section ZM1
variable {Γ : zG} {mi : zMI} {d mc ms pc k n : Nat} {lv : List (Option Value)} {st : List Value} {G : zH} {Post : zP} {am : Nat → Nat} {μ : zSt}
/-- a field of the reference, or a place of a row, written anew -/
theorem z_mset (hM : zMod G am μ) (r j : Nat) (x : Int32) (hr : r < 8) {e : zE} (he : e = zmE am (zu μ r j x) r) (kk : ∀ G1, zMod G1 am (zu μ r j x) → zFrm G G1 am 8 → zX Γ mi d mc ms pc lv st G1 k n Post) : zX Γ mi d mc ms pc lv st (zset G (am r) e) k n Post :=
  kk _ (hM.set hr he (fun r' _ hne => (zu_r hne).symm)) (zFrm.set hr _)
end ZM1
theorem zFrm.tr8 {G G1 G2 : zH} {am : Nat → Nat} (h1 : zFrm G G1 am 8) (h2 : zFrm G1 G2 am 8) : zFrm G G2 am 8 := h1.tr h2

