/-! ===== the text of commands, in plain words: c the signs, n how many ===== -/
def zhere (c : Nat → Int32) (n p : Nat) : Int32 := if p < n then c p else -1
def zisd (c : Nat → Int32) (n p : Nat) : Bool := decide (p < n ∧ 48 ≤ c p ∧ c p ≤ 57)
def zlit (c : Nat → Int32) (n p : Nat) (x : Int32) : Bool := decide (p < n ∧ c p = x)
def znum (c : Nat → Int32) (n : Nat) (lg : Bool) (p : Nat) : Option (Int32 × Nat) := if zisd c n p then (if lg && zisd c n (p + 1) then some (10 * (c p - 48) + (c (p + 1) - 48), p + 2) else some (c p - 48, p + 1)) else none
def zprt (c : Nat → Int32) (n : Nat) : List Nat → Nat → List Int32 → Bool × Nat × List Int32
  | [], p, a => (true, p, a)
  | d :: ds, p, a => if d = 49 ∨ d = 50 then (match znum c n (decide (d = 50)) p with | none => (false, p, a) | some (v, q) => zprt c n ds q (a ++ [v])) else if zlit c n p (nI d) then zprt c n ds (p + 1) a else (false, p, a)
def zform (x : Int32) : List Nat := if x = 109 then [49, 58, 50, 47, 49] else if x = 120 then [49, 58, 50] else if x = 107 then [49] else if x = 115 then [49] else if x = 119 then [50, 43, 49] else if x = 121 then [50] else []
def zcmd (c : Nat → Int32) (n p : Nat) : Bool × Nat × List Int32 := if p < n ∧ zform (c p) ≠ [] then zprt c n (zform (c p)) (p + 1) [] else (false, p, [])
def zscan (c : Nat → Int32) (n : Nat) : Nat → Nat → Option Nat × List (Int32 × List Int32)
  | 0, p => (some p, [])
  | f + 1, p => match zcmd c n p with
    | (false, q, _) => (some q, [])
    | (true, q, ns) => if n ≤ q then (none, [(c p, ns)]) else if c q = 59 then ((zscan c n f (q + 1)).1, (c p, ns) :: (zscan c n f (q + 1)).2) else (some q, [])
section ZTX
variable {c : Nat → Int32} {n p q : Nat} {ds : List Nat} {a : List Int32} {v : Int32}
theorem zprt_1 (h : znum c n false p = some (v, q)) : zprt c n (49 :: ds) p a = zprt c n ds q (a ++ [v]) := by
  rw [zprt, if_pos (Or.inl rfl), show decide ((49 : Nat) = 50) = false from rfl, h]
theorem zprt_2 (h : znum c n true p = some (v, q)) : zprt c n (50 :: ds) p a = zprt c n ds q (a ++ [v]) := by
  rw [zprt, if_pos (Or.inr rfl), show decide ((50 : Nat) = 50) = true from rfl, h]
theorem zprt_1n (h : znum c n false p = none) : zprt c n (49 :: ds) p a = (false, p, a) := by
  rw [zprt, if_pos (Or.inl rfl), show decide ((49 : Nat) = 50) = false from rfl, h]
theorem zprt_2n (h : znum c n true p = none) : zprt c n (50 :: ds) p a = (false, p, a) := by
  rw [zprt, if_pos (Or.inr rfl), show decide ((50 : Nat) = 50) = true from rfl, h]
theorem zprt_l {d : Nat} (hd : ¬ (d = 49 ∨ d = 50)) (h : zlit c n p (nI d) = true) : zprt c n (d :: ds) p a = zprt c n ds (p + 1) a := by
  rw [zprt, if_neg hd, if_pos h]
theorem zprt_ln {d : Nat} (hd : ¬ (d = 49 ∨ d = 50)) (h : zlit c n p (nI d) = false) : zprt c n (d :: ds) p a = (false, p, a) := by
  rw [zprt, if_neg hd, if_neg (by rw [h]; decide)]
theorem zlit_t {x : Int32} (h : zlit c n p x = true) : p < n ∧ c p = x := of_decide_eq_true h
theorem zlit_f {x y : Int32} (h : zlit c n p x = true) (hxy : x ≠ y) : zlit c n p y = false := decide_eq_false (fun q => hxy ((zlit_t h).2.symm.trans q.2))
theorem zcmd_y {x : Int32} (h : zlit c n p x = true) (hx : zform x ≠ []) : zcmd c n p = zprt c n (zform x) (p + 1) [] := by
  have h1 := zlit_t h
  rw [zcmd, h1.2, if_pos ⟨h1.1, hx⟩]
theorem zcmd_n (h1 : zlit c n p 109 = false) (h2 : zlit c n p 120 = false) (h3 : zlit c n p 107 = false) (h4 : zlit c n p 115 = false) (h5 : zlit c n p 119 = false) (h6 : zlit c n p 121 = false) : zcmd c n p = (false, p, []) := by
  refine if_neg (fun z => ?_)
  have k1 := of_decide_eq_false h1
  have k2 := of_decide_eq_false h2
  have k3 := of_decide_eq_false h3
  have k4 := of_decide_eq_false h4
  have k5 := of_decide_eq_false h5
  have k6 := of_decide_eq_false h6
  refine z.2 ?_
  unfold zform
  rw [if_neg (fun e => k1 ⟨z.1, e⟩), if_neg (fun e => k2 ⟨z.1, e⟩), if_neg (fun e => k3 ⟨z.1, e⟩), if_neg (fun e => k4 ⟨z.1, e⟩), if_neg (fun e => k5 ⟨z.1, e⟩), if_neg (fun e => k6 ⟨z.1, e⟩)]
theorem znum_n (h : zisd c n p = false) (lg : Bool) : znum c n lg p = none := by
  rw [znum, if_neg (by rw [h]; decide)]
theorem znum_1 (h : zisd c n p = true) : znum c n false p = some (c p - 48, p + 1) := by
  rw [znum, if_pos h, if_neg (by rw [Bool.false_and]; decide)]
theorem znum_2 (h : zisd c n p = true) (h2 : zisd c n (p + 1) = true) : znum c n true p = some (10 * (c p - 48) + (c (p + 1) - 48), p + 2) := by
  rw [znum, if_pos h, if_pos (by rw [h2]; decide)]
theorem znum_3 (h : zisd c n p = true) (h2 : zisd c n (p + 1) = false) : znum c n true p = some (c p - 48, p + 1) := by
  rw [znum, if_pos h, if_neg (by rw [h2]; decide)]
theorem zisd_t (h : zisd c n p = true) : p < n ∧ 48 ≤ c p ∧ c p ≤ 57 := of_decide_eq_true h
theorem zisd_h : (48 ≤ zhere c n p ∧ zhere c n p ≤ 57) ↔ zisd c n p = true := by
  unfold zhere zisd
  by_cases h : p < n
  · rw [if_pos h, decide_eq_true_eq]
    exact ⟨fun z => ⟨h, z⟩, fun z => z.2⟩
  · rw [if_neg h, decide_eq_true_eq]
    exact ⟨fun z => absurd z.1 (by decide), fun z => absurd z.1 h⟩
theorem zhere_l {x : Int32} (hx : x ≠ -1) : zhere c n p = x ↔ zlit c n p x = true := by
  unfold zhere zlit
  by_cases h : p < n
  · rw [if_pos h, decide_eq_true_eq]
    exact ⟨fun z => ⟨h, z⟩, fun z => z.2⟩
  · rw [if_neg h, decide_eq_true_eq]
    exact ⟨fun z => absurd z.symm hx, fun z => absurd z.1 h⟩
theorem znum_q {lg : Bool} (h : znum c n lg p = some (v, q)) : p < q ∧ q ≤ n := by
  unfold znum at h
  by_cases e : zisd c n p = true
  · rw [if_pos e] at h
    have e1 := zisd_t e
    by_cases e2 : (lg && zisd c n (p + 1)) = true
    · rw [if_pos e2] at h
      have e3 := zisd_t (Bool.and_eq_true_iff.mp e2).2
      cases h
      omega
    · rw [if_neg e2] at h
      cases h
      omega
  · rw [if_neg e] at h
    cases h
end ZTX
/-- what is told of the commands found, by fours -/
def zTold (t : Nat → Int32) (l : List (Int32 × List Int32)) : Prop := ∀ j, j < l.length → t (4 * j) = (l.getD j (0, [])).1 ∧ ∀ i, i < (l.getD j (0, [])).2.length → t (4 * j + 1 + i) = (l.getD j (0, [])).2.getD i 0
theorem zTold.cg {t u : Nat → Int32} {l : List (Int32 × List Int32)} (h : zTold t l) (h3 : ∀ j, j < l.length → (l.getD j (0, [])).2.length ≤ 3) (he : ∀ j, j < 4 * l.length → u j = t j) : zTold u l := fun j hj => by
  refine ⟨(he (4 * j) (by omega)).trans (h j hj).1, fun i hi => ?_⟩
  have := h3 j hj
  exact (he (4 * j + 1 + i) (by omega)).trans ((h j hj).2 i hi)
theorem zgetD_l {α : Type} {l : List α} {x d : α} {j : Nat} (h : j < l.length) : (l ++ [x]).getD j d = l.getD j d := by
  simp [List.getD, List.getElem?_append_left h]
theorem zgetD_x {α : Type} {l : List α} {x d : α} : (l ++ [x]).getD l.length d = x := by
  simp [List.getD]
theorem zTold.snoc {t : Nat → Int32} {l : List (Int32 × List Int32)} {x : Int32} {ns : List Int32} (h : zTold t l) (h1 : t (4 * l.length) = x) (h2 : ∀ i, i < ns.length → t (4 * l.length + 1 + i) = ns.getD i 0) : zTold t (l ++ [(x, ns)]) := fun j hj => by
  rw [List.length_append, List.length_singleton] at hj
  by_cases e : j < l.length
  · rw [zgetD_l e]
    exact h j e
  · obtain rfl : j = l.length := by omega
    rw [zgetD_x]
    exact ⟨h1, h2⟩
/-- a command well formed -/
def zwf (x : Int32 × List Int32) : Prop := ((x.1 = 109 ∧ x.2.length = 3) ∨ (x.1 = 120 ∧ x.2.length = 2) ∨ (x.1 = 107 ∧ x.2.length = 1) ∨ (x.1 = 115 ∧ x.2.length = 1) ∨ (x.1 = 119 ∧ x.2.length = 2) ∨ (x.1 = 121 ∧ x.2.length = 1))
theorem zprt_len {c : Nat → Int32} {n : Nat} : ∀ (ds : List Nat) (p : Nat) (a : List Int32) {q : Nat} {ns : List Int32}, zprt c n ds p a = (true, q, ns) → ns.length = a.length + (ds.filter (fun d => decide (d = 49 ∨ d = 50))).length ∧ p + ds.length ≤ q ∧ (p ≤ n → q ≤ n)
  | [], p, a, q, ns, h => by
    cases h
    exact ⟨rfl, Nat.le_refl _, fun z => z⟩
  | d :: ds, p, a, q, ns, h => by
    rw [zprt] at h
    by_cases e : d = 49 ∨ d = 50
    · rw [if_pos e] at h
      cases hz : znum c n (decide (d = 50)) p with
      | none => rw [hz] at h; cases h
      | some vq =>
        obtain ⟨v, q1⟩ := vq
        rw [hz] at h
        have h1 := zprt_len ds q1 (a ++ [v]) h
        have h2 := znum_q hz
        rw [List.filter_cons, if_pos (decide_eq_true e)]
        simp only [List.length_append, List.length_cons, List.length_nil] at h1 ⊢
        omega
    · rw [if_neg e] at h
      by_cases e2 : zlit c n p (nI d) = true
      · rw [if_pos e2] at h
        have h1 := zprt_len ds (p + 1) a h
        have h2 := (zlit_t e2).1
        rw [List.filter_cons, if_neg (fun z => e (of_decide_eq_true z))]
        simp only [List.length_cons] at h1 ⊢
        omega
      · rw [if_neg e2] at h
        cases h
theorem zcmd_len {c : Nat → Int32} {n p q : Nat} {ns : List Int32} (h : zcmd c n p = (true, q, ns)) : zwf (c p, ns) ∧ p + 2 ≤ q ∧ q ≤ n := by
  unfold zcmd at h
  by_cases e : p < n ∧ zform (c p) ≠ []
  · rw [if_pos e] at h
    have h1 := zprt_len _ _ _ h
    have e2 := e.2
    unfold zwf
    unfold zform at h1 e2
    by_cases q1 : c p = 109
    · rw [if_pos q1] at h1
      exact ⟨Or.inl ⟨q1, h1.1⟩, by have := h1.2.1; simp only [List.length_cons] at this; omega, h1.2.2 (by omega)⟩
    rw [if_neg q1] at h1 e2
    by_cases q2 : c p = 120
    · rw [if_pos q2] at h1
      exact ⟨Or.inr (Or.inl ⟨q2, h1.1⟩), by have := h1.2.1; simp only [List.length_cons] at this; omega, h1.2.2 (by omega)⟩
    rw [if_neg q2] at h1 e2
    by_cases q3 : c p = 107
    · rw [if_pos q3] at h1
      exact ⟨Or.inr (Or.inr (Or.inl ⟨q3, h1.1⟩)), by have := h1.2.1; simp only [List.length_cons] at this; omega, h1.2.2 (by omega)⟩
    rw [if_neg q3] at h1 e2
    by_cases q4 : c p = 115
    · rw [if_pos q4] at h1
      exact ⟨Or.inr (Or.inr (Or.inr (Or.inl ⟨q4, h1.1⟩))), by have := h1.2.1; simp only [List.length_cons] at this; omega, h1.2.2 (by omega)⟩
    rw [if_neg q4] at h1 e2
    by_cases q5 : c p = 119
    · rw [if_pos q5] at h1
      exact ⟨Or.inr (Or.inr (Or.inr (Or.inr (Or.inl ⟨q5, h1.1⟩)))), by have := h1.2.1; simp only [List.length_cons] at this; omega, h1.2.2 (by omega)⟩
    rw [if_neg q5] at h1 e2
    by_cases q6 : c p = 121
    · rw [if_pos q6] at h1
      exact ⟨Or.inr (Or.inr (Or.inr (Or.inr (Or.inr ⟨q6, h1.1⟩)))), by have := h1.2.1; simp only [List.length_cons] at this; omega, h1.2.2 (by omega)⟩
    rw [if_neg q6] at e2
    exact absurd rfl e2
  · rw [if_neg e] at h
    cases h
theorem zwf_3 {x : Int32 × List Int32} (h : zwf x) : x.2.length ≤ 3 := by
  unfold zwf at h
  omega
