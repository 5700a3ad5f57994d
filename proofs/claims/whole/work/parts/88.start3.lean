theorem zK_each {s : State} {args : Array Value} (hts : ∀ w ∈ lw_good, w.before args s = true) (x0 : ClassId × (Nat → Nat)) : ∀ c : Nat, ∃ x : ClassId × (Nat → Nat), ∀ q, zcl[c]? = some q → u_Kn s q.1 q.2.1 q.2.2 x.1 x.2
  | 0 => by
    obtain ⟨cC, iS, h⟩ := u_known hts zc0.2.1 (hts _ zc0.2.2.2.2.1)
    exact ⟨(cC, iS), fun q hq => by
      rw [zc0.1] at hq
      cases hq
      exact h⟩
  | 1 => by
    obtain ⟨cC, iS, h⟩ := u_known hts zc1.2.1 (hts _ zc1.2.2.2.2.1)
    exact ⟨(cC, iS), fun q hq => by
      rw [zc1.1] at hq
      cases hq
      exact h⟩
  | 2 => by
    obtain ⟨cC, iS, h⟩ := u_known hts zc2.2.1 (hts _ zc2.2.2.2.2.1)
    exact ⟨(cC, iS), fun q hq => by
      rw [zc2.1] at hq
      cases hq
      exact h⟩
  | 3 => by
    obtain ⟨cC, iS, h⟩ := u_known hts zc3.2.1 (hts _ zc3.2.2.2.2.1)
    exact ⟨(cC, iS), fun q hq => by
      rw [zc3.1] at hq
      cases hq
      exact h⟩
  | 4 => by
    obtain ⟨cC, iS, h⟩ := u_known hts zc4.2.1 (hts _ zc4.2.2.2.2.1)
    exact ⟨(cC, iS), fun q hq => by
      rw [zc4.1] at hq
      cases hq
      exact h⟩
  | 5 => by
    obtain ⟨cC, iS, h⟩ := u_known hts zc5.2.1 (hts _ zc5.2.2.2.2.1)
    exact ⟨(cC, iS), fun q hq => by
      rw [zc5.1] at hq
      cases hq
      exact h⟩
  | 6 => by
    obtain ⟨cC, iS, h⟩ := u_known hts zc6.2.1 (hts _ zc6.2.2.2.2.1)
    exact ⟨(cC, iS), fun q hq => by
      rw [zc6.1] at hq
      cases hq
      exact h⟩
  | 7 => by
    obtain ⟨cC, iS, h⟩ := u_known hts zc7.2.1 (hts _ zc7.2.2.2.2.1)
    exact ⟨(cC, iS), fun q hq => by
      rw [zc7.1] at hq
      cases hq
      exact h⟩
  | 8 => by
    obtain ⟨cC, iS, h⟩ := u_known hts zc8.2.1 (hts _ zc8.2.2.2.2.1)
    exact ⟨(cC, iS), fun q hq => by
      rw [zc8.1] at hq
      cases hq
      exact h⟩
  | 9 => by
    obtain ⟨cC, iS, h⟩ := u_known hts zc9.2.1 (hts _ zc9.2.2.2.2.1)
    exact ⟨(cC, iS), fun q hq => by
      rw [zc9.1] at hq
      cases hq
      exact h⟩
  | 10 => by
    obtain ⟨cC, iS, h⟩ := u_known hts zc10.2.1 (hts _ zc10.2.2.2.2.1)
    exact ⟨(cC, iS), fun q hq => by
      rw [zc10.1] at hq
      cases hq
      exact h⟩
  | 11 => by
    obtain ⟨cC, iS, h⟩ := u_known hts zc11.2.1 (hts _ zc11.2.2.2.2.1)
    exact ⟨(cC, iS), fun q hq => by
      rw [zc11.1] at hq
      cases hq
      exact h⟩
  | c + 12 => ⟨x0, fun q hq => by
      have h9 : zcl[c + 12]? = none := List.getElem?_eq_none (by simp)
      rw [h9] at hq
      cases hq⟩
theorem zK_start {s : State} {args : Array Value} (hts : ∀ w ∈ lw_good, w.before args s = true) : ∃ D : va_G, ∀ (c : Nat) (q : vw_C), zcl[c]? = some q → u_Kn s q.1 q.2.1 q.2.2 (D.1 c) (D.2 c) := by
  obtain ⟨cC, iS, -⟩ := u_known hts zc0.2.1 (hts _ zc0.2.2.2.2.1)
  obtain ⟨f, hf⟩ := Classical.axiomOfChoice (zK_each hts (cC, iS))
  exact ⟨(fun c => (f c).1, fun c => (f c).2), fun c q hq => hf c q hq⟩
theorem zHR_start {Γ : zG} {s : State} (h : ∀ (c : Nat) (q : vw_C), zcl[c]? = some q → u_Kn s q.1 q.2.1 q.2.2 (Γ.2.1.1 c) (Γ.2.1.2 c)) : zHR Γ (fun _ => none) s s.heap := ⟨[], [], fun k q hq => (by cases hq), ⟨fun i j p q hp => (by cases hp), fun k q hq => (by cases hq)⟩, ⟨h, fun k q hq => (by cases hq)⟩, fun a e he => (by cases he)⟩
