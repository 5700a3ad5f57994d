/-! ===== the landed class: a river's state and cells ===== -/
/-- a river's numbers: rows 0..12 are the arrays (place base hardness error; year crest witnesses; from amount; sharpness; height depth cutYear), row 13: year, how many stones, floods, epochs, chisels, made, effaced, weathered -/
abbrev zSt : Type := Nat → Nat → Int32
def zlenR (r : Nat) : Nat := match r with
  | 0 => 6 | 1 => 6 | 2 => 6 | 3 => 6 | 4 => 12 | 5 => 12 | 6 => 12 | 7 => 4 | 8 => 4 | 9 => 3 | _ => 72
/-- the cells of a river: 0 River, 1 Stones, 2 Floods, 3 Epochs, 4 Chisels, 5 Marks, 6 + r: row r -/
def zrE (ad : Nat → Nat) (σ : zSt) (k : Nat) : zE := match k with
  | 0 => .inr (6, [.int (σ 13 0), .ref (ad 1), .ref (ad 2), .ref (ad 3), .ref (ad 4), .ref (ad 5)])
  | 1 => .inr (8, [.int (σ 13 1), .ref (ad 6), .ref (ad 7), .ref (ad 8), .ref (ad 9)])
  | 2 => .inr (2, [.int (σ 13 2), .ref (ad 10), .ref (ad 11), .ref (ad 12)])
  | 3 => .inr (1, [.int (σ 13 3), .ref (ad 13), .ref (ad 14)])
  | 4 => .inr (0, [.int (σ 13 4), .ref (ad 15)])
  | 5 => .inr (4, [.ref (ad 16), .ref (ad 17), .ref (ad 18), .int (σ 13 5), .int (σ 13 6), .int (σ 13 7)])
  | k + 6 => .inl (.int, (zlenR k, .inl (σ k)))
/-- addresses apart -/
def zApart (ad : Nat → Nat) (N : Nat) : Prop := ∀ i j, i < N → j < N → ad i = ad j → i = j
def zRiv (G : zH) (ad : Nat → Nat) (σ : zSt) : Prop := (∀ k, k < 19 → G (ad k) = some (zrE ad σ k)) ∧ zApart ad 19
/-- what isn't the river's stays -/
def zFrm (G G' : zH) (ad : Nat → Nat) (N : Nat) : Prop := ∀ a, (∀ k, k < N → a ≠ ad k) → G' a = G a
theorem zFrm.rf {G : zH} {ad : Nat → Nat} {N : Nat} : zFrm G G ad N := fun _ _ => rfl
theorem zFrm.tr {G G1 G2 : zH} {ad : Nat → Nat} {N : Nat} (h1 : zFrm G G1 ad N) (h2 : zFrm G1 G2 ad N) : zFrm G G2 ad N := fun a h => (h2 a h).trans (h1 a h)
theorem zFrm.set {G : zH} {ad : Nat → Nat} {N k : Nat} (hk : k < N) (e : zE) : zFrm G (zset G (ad k) e) ad N := fun a h => zset_n (h k hk)
/-- one number written anew -/
def zu (σ : zSt) (r j : Nat) (x : Int32) : zSt := fun r' j' => if r' = r ∧ j' = j then x else σ r' j'
theorem zu_s (σ : zSt) (r j : Nat) (x : Int32) : zu σ r j x r j = x := if_pos ⟨rfl, rfl⟩
theorem zu_r {σ : zSt} {r j r' : Nat} {x : Int32} (h : r' ≠ r) : zu σ r j x r' = σ r' := funext fun j' => if_neg fun q => h q.1
theorem zu_j {σ : zSt} {r j r' j' : Nat} {x : Int32} (h : j' ≠ j) : zu σ r j x r' j' = σ r' j' := if_neg fun q => h q.2
theorem zu_row (σ : zSt) (r j : Nat) (x : Int32) : zu σ r j x r = upd (σ r) j x := funext fun j' => by
  simp only [zu, upd, true_and]
theorem zrE_arr (ad : Nat → Nat) (σ : zSt) (r : Nat) : zrE ad σ (6 + r) = .inl (.int, (zlenR r, .inl (σ r))) := by
  rw [Nat.add_comm]
  rfl
theorem zrE_u (ad : Nat → Nat) (σ : zSt) {r j : Nat} (x : Int32) (hr : r < 13) {k : Nat} (hk : k ≠ 6 + r) : zrE ad (zu σ r j x) k = zrE ad σ k := by
  have h13 : zu σ r j x 13 = σ 13 := zu_r (by omega)
  match k, hk with
  | 0, _ => simp only [zrE, h13]
  | 1, _ => simp only [zrE, h13]
  | 2, _ => simp only [zrE, h13]
  | 3, _ => simp only [zrE, h13]
  | 4, _ => simp only [zrE, h13]
  | 5, _ => simp only [zrE, h13]
  | k + 6, hk =>
    have : zu σ r j x k = σ k := zu_r (by omega)
    simp only [zrE, this]
/-- a river with one place of a row written -/
theorem zRiv.row {G : zH} {ad : Nat → Nat} {σ : zSt} (h : zRiv G ad σ) {r j : Nat} {x : Int32} (hr : r < 13) : zRiv (zset G (ad (6 + r)) (.inl (.int, (zlenR r, .inl (upd (σ r) j x))))) ad (zu σ r j x) := by
  refine ⟨fun k hk => ?_, h.2⟩
  by_cases e : k = 6 + r
  · subst e
    rw [zset_s, zrE_arr, zu_row]
  · rw [zset_n (fun q => e (h.2 k (6 + r) hk (by omega) q)), h.1 k hk, zrE_u ad σ x hr e]
/-- the object that bears the number j of row 13 -/
def zown (j : Nat) : Nat := match j with
  | 0 => 0 | 1 => 1 | 2 => 2 | 3 => 3 | 4 => 4 | _ => 5
theorem zrE_n (ad : Nat → Nat) (σ : zSt) {j : Nat} (x : Int32) (hj : j < 8) {k : Nat} (h19 : k < 19) (hk : k ≠ zown j) : zrE ad (zu σ 13 j x) k = zrE ad σ k := by
  match k, hk with
  | 0, hk => have : j ≠ 0 := fun e => hk (by rw [e]; rfl)
             simp only [zrE, zu_j (x := x) (σ := σ) (r := 13) (Ne.symm this)]
  | 1, hk => have : j ≠ 1 := fun e => hk (by rw [e]; rfl)
             simp only [zrE, zu_j (x := x) (σ := σ) (r := 13) (Ne.symm this)]
  | 2, hk => have : j ≠ 2 := fun e => hk (by rw [e]; rfl)
             simp only [zrE, zu_j (x := x) (σ := σ) (r := 13) (Ne.symm this)]
  | 3, hk => have : j ≠ 3 := fun e => hk (by rw [e]; rfl)
             simp only [zrE, zu_j (x := x) (σ := σ) (r := 13) (Ne.symm this)]
  | 4, hk => have : j ≠ 4 := fun e => hk (by rw [e]; rfl)
             simp only [zrE, zu_j (x := x) (σ := σ) (r := 13) (Ne.symm this)]
  | 5, hk => have h5 : j ≠ 5 := fun e => hk (by rw [e]; rfl)
             have h6 : j ≠ 6 := fun e => hk (by rw [e]; rfl)
             have h7 : j ≠ 7 := fun e => hk (by rw [e]; rfl)
             simp only [zrE, zu_j (x := x) (σ := σ) (r := 13) (Ne.symm h5), zu_j (x := x) (σ := σ) (r := 13) (Ne.symm h6), zu_j (x := x) (σ := σ) (r := 13) (Ne.symm h7)]
  | k + 6, hk =>
    have : zu σ 13 j x k = σ k := zu_r (by omega)
    simp only [zrE, this]
theorem zRiv.num {G : zH} {ad : Nat → Nat} {σ : zSt} (h : zRiv G ad σ) {j : Nat} {x : Int32} (hj : j < 8) {e : zE} (he : e = zrE ad (zu σ 13 j x) (zown j)) : zRiv (zset G (ad (zown j)) e) ad (zu σ 13 j x) := by
  have ho : zown j < 6 := by
    match j, hj with
    | 0, _ | 1, _ | 2, _ | 3, _ | 4, _ | 5, _ | 6, _ | 7, _ => decide
  refine ⟨fun k hk => ?_, h.2⟩
  by_cases q : k = zown j
  · subst q
    rw [zset_s, he]
  · rw [zset_n (fun z => q (h.2 k _ hk (by omega) z)), h.1 k hk, zrE_n ad σ x hj hk q]
