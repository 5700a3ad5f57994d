/-! ===== what changes a river ===== -/
theorem zset_ss (G : zH) (a : Nat) (e e' : zE) : zset (zset G a e) a e' = zset G a e' := funext fun b => by
  unfold zset
  by_cases h : b = a
  · rw [if_pos h, if_pos h]
  · rw [if_neg h, if_neg h, if_neg h]
section ZR2
variable {Γ : zG} {mi : zMI} {d mc ms pc k n : Nat} {lv : List (Option Value)} {st : List Value} {G : zH} {Post : zP} {ad : Nat → Nat} {σ : zSt}
theorem z_num (hR : zRiv G ad σ) (j : Nat) (x : Int32) (hj : j < 8) {e : zE} (he : e = zrE ad (zu σ 13 j x) (zown j)) (kk : ∀ G1, zRiv G1 ad (zu σ 13 j x) → zFrm G G1 ad 19 → zX Γ mi d mc ms pc lv st G1 k n Post) : zX Γ mi d mc ms pc lv st (zset G (ad (zown j)) e) k n Post := by
  refine kk _ (hR.num hj he) (zFrm.set ?_ _)
  match j, hj with
  | 0, _ | 1, _ | 2, _ | 3, _ | 4, _ | 5, _ | 6, _ | 7, _ => decide
/-- Rows.set in a river -/
theorem sRset {P : zV} (hR : zRiv G ad σ) (r j : Nat) {x : Int32} (hr : r < 13) (hj : j < zlenR r) (hP : ∀ G1, zRiv G1 ad (zu σ r j x) → zFrm G G1 ad 19 → P none G1) : zM Γ d mX7_set 0 0 [.ref (ad (r + 6)), .int (nI j), .int x] G P := by
  have hl : zlenR r ≤ 72 := by unfold zlenR; split <;> decide
  refine sX7_set (hR.1 (r + 6) (by omega)) (by omega) hj ?_
  have h1 := hR.row (r := r) (j := j) (x := x) hr
  rw [Nat.add_comm 6 r] at h1
  exact hP _ h1 (zFrm.set (by omega) _)
end ZR2
theorem zRiv.frm {G G1 : zH} {ad ad' : Nat → Nat} {τ : zSt} (h : zRiv G ad' τ) (hF : zFrm G G1 ad 19) (hd : ∀ i j, i < 19 → j < 19 → ad i ≠ ad' j) : zRiv G1 ad' τ := ⟨fun k hk => by rw [hF (ad' k) (fun i hi e => hd i k hi hk e.symm)]; exact h.1 k hk, h.2⟩
theorem zRiv.cong {G : zH} {ad : Nat → Nat} {σ τ : zSt} (h : zRiv G ad σ) (h1 : ∀ r, r < 13 → σ r = τ r) (h2 : ∀ j, j < 8 → σ 13 j = τ 13 j) : zRiv G ad τ := by
  refine ⟨fun k hk => ?_, h.2⟩
  rw [h.1 k hk]
  match k, hk with
  | 0, _ => simp only [zrE, h2 0 (by decide)]
  | 1, _ => simp only [zrE, h2 1 (by decide)]
  | 2, _ => simp only [zrE, h2 2 (by decide)]
  | 3, _ => simp only [zrE, h2 3 (by decide)]
  | 4, _ => simp only [zrE, h2 4 (by decide)]
  | 5, _ => simp only [zrE, h2 5 (by decide), h2 6 (by decide), h2 7 (by decide)]
  | k + 6, hk => simp only [zrE, h1 k (by omega)]
/-- a whole row written anew -/
def zrw (σ : zSt) (r : Nat) (f : Nat → Int32) : zSt := fun r' => if r' = r then f else σ r'
theorem zRiv.rows {G : zH} {ad : Nat → Nat} {σ : zSt} (h : zRiv G ad σ) (r : Nat) (f : Nat → Int32) (hr : r < 13) : zRiv (zset G (ad (r + 6)) (.inl (.int, (zlenR r, .inl f)))) ad (zrw σ r f) := by
  refine ⟨fun k hk => ?_, h.2⟩
  have h13 : zrw σ r f 13 = σ 13 := if_neg (by omega)
  by_cases e : k = r + 6
  · subst e
    have hf : zrw σ r f r = f := if_pos rfl
    have hz : zrE ad (zrw σ r f) (r + 6) = .inl (.int, (zlenR r, .inl (zrw σ r f r))) := rfl
    rw [zset_s, hz, hf]
  · rw [zset_n (fun q => e (h.2 k (r + 6) hk (by omega) q)), h.1 k hk]
    match k, hk, e with
    | 0, _, _ => simp only [zrE, h13]
    | 1, _, _ => simp only [zrE, h13]
    | 2, _, _ => simp only [zrE, h13]
    | 3, _, _ => simp only [zrE, h13]
    | 4, _, _ => simp only [zrE, h13]
    | 5, _, _ => simp only [zrE, h13]
    | k + 6, hk, e =>
      have : zrw σ r f k = σ k := if_neg (by omega)
      simp only [zrE, this]
section ZCP
variable {Γ : zG} {mi : zMI} {d mc ms pc k n : Nat} {lv : List (Option Value)} {st : List Value} {G : zH} {Post : zP}
theorem zarr_ext {cA : ClassId} {N0 : Nat} {f g : Nat → Int32} (h : ∀ j, j < N0 → f j = g j) : vp_cell cA (N0, .inl f) = vp_cell cA (N0, .inl g) := by
  rw [vp_cell_i, vp_cell_i]
  unfold arrV
  congr 1
  apply Array.ext
  · simp
  · intro i h1 h2
    simp at h1 ⊢
    exact h i h1
/-- what stands in a row beyond its length says nothing -/
theorem z_ext {a N0 : Nat} {ty : FieldType} {f g : Nat → Int32} (h : ∀ j, j < N0 → f j = g j) (kk : zX Γ mi d mc ms pc lv st (zset G a (.inl (ty, (N0, .inl g)))) k n Post) : zX Γ mi d mc ms pc lv st (zset G a (.inl (ty, (N0, .inl f)))) k n Post := by
  intro p e R s m args below meth c H locs ls C hH hS hl
  refine kk p e R s m args below meth c H locs ls C ?_ hS hl
  obtain ⟨ws, tys, h1, h2, h3, h4⟩ := hH
  obtain ⟨cA, q0, t0, hq, ht⟩ := h4.arr (zset_s G a _)
  refine ⟨ws.set q0 (a, .inl (cA, N0, .inl g)), tys, h1.set h2 hq ?_ (fun q _ => rfl), h2.set hq, h3, ?_⟩
  · show H[a]? = some (vp_cell _ _)
    rw [← zarr_ext h]
    exact h1 q0 _ hq
  · have := h4.setA hq ht (N0, .inl g)
    rwa [zset_ss] at this
end ZCP
section ZR3
variable {Γ : zG} {mi : zMI} {d mc ms pc k n : Nat} {lv : List (Option Value)} {st : List Value} {G : zH} {Post : zP} {ad : Nat → Nat} {σ : zSt}
theorem z_row (hR : zRiv G ad σ) (r : Nat) (f : Nat → Int32) (hr : r < 13) (kk : ∀ G1, zRiv G1 ad (zrw σ r f) → zFrm G G1 ad 19 → zX Γ mi d mc ms pc lv st G1 k n Post) : zX Γ mi d mc ms pc lv st (zset G (ad (r + 6)) (.inl (.int, (zlenR r, .inl f)))) k n Post := kk _ (hR.rows r f hr) (zFrm.set (by omega) _)
end ZR3
/-- drift and weather, a place after another -/
def zdrow (e : Nat → Int32) (i j : Nat) : Int32 := if j < i then zdrift (e j) else e j
def zwrow (e : Nat → Int32) (i j : Nat) : Int32 := if j < i ∧ 0 < e j then e j - 1 else e j
theorem zrw_0 {σ : zSt} {r : Nat} {f : Nat → Int32} (h : ∀ j, f j = σ r j) : zrw σ r f = σ := funext fun r' => by
  unfold zrw
  split
  · rename_i e; subst e; exact funext h
  · rfl
theorem zu_zrw {σ : zSt} {r i : Nat} {f g : Nat → Int32} {x : Int32} (h : ∀ j, (if j = i then x else f j) = g j) : zu (zrw σ r f) r i x = zrw σ r g := funext fun r' => funext fun j => by
  unfold zu zrw
  by_cases e : r' = r
  · subst e
    by_cases e2 : j = i
    · subst e2
      rw [if_pos ⟨rfl, rfl⟩, if_pos rfl]
      have := h j
      rwa [if_pos rfl] at this
    · rw [if_neg (fun q => e2 q.2), if_pos rfl, if_pos rfl]
      have := h j
      rwa [if_neg e2] at this
  · rw [if_neg (fun q => e q.1), if_neg e, if_neg e]
theorem zrw_g {σ : zSt} {r : Nat} {f g : Nat → Int32} (h : ∀ j, f j = g j) : zrw σ r f = zrw σ r g := by rw [funext h]
def zrem (x m : Int32) : Int32 := x - x / m * m
def zdr (σ : zSt) (S : Nat) : zSt := zrw σ 3 (zdrow (σ 3) S)
def zgn (σ : zSt) : Nat := zct (fun j => decide (σ 11 j = 1)) 72
def zwt (σ : zSt) : zSt := zu (zrw σ 11 (zwrow (σ 11) 72)) 13 7 (σ 13 7 + nI (zgn σ))
def zy0 (σ : zSt) : zSt := zu σ 13 0 (σ 13 0 + 1)
def zyA (σ : zSt) (S : Nat) : zSt := if zrem (zy0 σ 13 0) 3 = 0 then zdr (zy0 σ) S else zy0 σ
def zy1 (σ : zSt) (S : Nat) : zSt := if zrem (zyA σ S 13 0) 5 = 0 then zwt (zyA σ S) else zyA σ S
def zyg (σ : zSt) (S : Nat) : Nat := if zrem (zyA σ S 13 0) 5 = 0 then zgn (zyA σ S) else 0
/-- years go by: the river, and how many marks are gone -/
def zyrs (σ : zSt) (S : Nat) : Nat → zSt × Nat
  | 0 => (σ, 0)
  | n + 1 => (zy1 (zyrs σ S n).1 S, (zyrs σ S n).2 + zyg (zyrs σ S n).1 S)
def ztix (σ : zSt) (E : Nat) (y : Int32) : Nat := zff (fun k => decide (σ 7 k = y)) E
def ztell (σ : zSt) (E : Nat) (y a : Int32) : zSt := zu (zu (if ztix σ E y < E then σ else zu σ 13 3 (σ 13 3 + 1)) 7 (ztix σ E y) y) 8 (ztix σ E y) a
/-- why something is refused: reason and detail -/
def zrSt (σ : zSt) (p b h : Int32) : Option (Int32 × Int32) := if (p < 0 ∨ 50 < p) ∨ (b < 0 ∨ 30 < b) ∨ (h < 1 ∨ 5 < h) then some (1, 0) else if 6 ≤ σ 13 1 then some (2, 6) else none
def zrFl (σ : zSt) (F : Nat) (y c w : Int32) : Option (Int32 × Int32) := if (y < 0 ∨ σ 13 0 < y) ∨ (c < 1 ∨ 99 < c) ∨ (w < 0 ∨ 99 < w) then some (1, 0) else if 0 ≤ zfi (fun k => decide (σ 4 k = y)) F then some (4, zfi (fun k => decide (σ 4 k = y)) F) else if 12 ≤ σ 13 2 then some (2, 12) else none
def zrEp (σ : zSt) (E : Nat) (y a : Int32) : Option (Int32 × Int32) := if (y < 0 ∨ 999 < y) ∨ (a < -9 ∨ 9 < a) then some (1, 0) else if 4 ≤ σ 13 3 ∧ zfi (fun k => decide (σ 7 k = y)) E < 0 then some (2, 4) else none
def zrCh (σ : zSt) : Option (Int32 × Int32) := if 3 ≤ σ 13 4 then some (2, 3) else none
def zrCu1 (σ : zSt) (E s f c : Nat) : Option (Int32 × Int32) :=
  if zmk σ s f = true then some (5, σ 10 (12 * s + f))
  else if zlevel σ s f < 1 then some (6, 1 - zlevel σ s f)
  else if zread σ E s f < 0 ∨ 99 < zread σ E s f then some (7, zread σ E s f)
  else if σ 9 c < σ 2 s then some (8, σ 9 c)
  else if 0 ≤ zfi (zatH σ s (zread σ E s f)) 12 then some (9, zfi (zatH σ s (zread σ E s f)) 12)
  else if 6 ≤ nI (zct (fun f => zmk σ s f) 12) then some (2, 6) else none
def zrCu (σ : zSt) (E : Nat) (x y z : Int32) : Option (Int32 × Int32) :=
  if ¬ (0 ≤ x ∧ x < σ 13 1) then some (3, x) else if ¬ (0 ≤ y ∧ y < σ 13 2) then some (3, y) else if ¬ (0 ≤ z ∧ z < σ 13 4) then some (3, z)
  else zrCu1 σ E x.toNatClampNeg y.toNatClampNeg z.toNatClampNeg
def zrEf (σ : zSt) (x y : Int32) : Option (Int32 × Int32) :=
  if ¬ (0 ≤ x ∧ x < σ 13 1) then some (3, x) else if ¬ (0 ≤ y ∧ y < σ 13 2) then some (3, y) else if zmk σ x.toNatClampNeg y.toNatClampNeg = true then none else some (10, y)
def zrSh (σ : zSt) (z : Int32) : Option (Int32 × Int32) := if ¬ (0 ≤ z ∧ z < σ 13 4) then some (3, z) else none
def zrCk (σ : zSt) (x : Int32) : Option (Int32 × Int32) := if ¬ (0 ≤ x ∧ x < σ 13 1) then some (3, x) else none
def zrWi (σ : zSt) (y w : Int32) : Option (Int32 × Int32) :=
  if ¬ (0 ≤ y ∧ y < σ 13 2) then some (3, y) else if w < 1 ∨ 9 < w then some (1, 0) else if 99 < σ 6 y.toNatClampNeg + w then some (2, 99) else none
def zrYe (m : Int32) : Option (Int32 × Int32) := if m < 1 ∨ 60 < m then some (1, 0) else none
theorem zdrow_0 (e : Nat → Int32) (j : Nat) : zdrow e 0 j = e j := if_neg (by omega)
theorem zwrow_0 (e : Nat → Int32) (j : Nat) : zwrow e 0 j = e j := if_neg (fun q => absurd q.1 (by omega))
theorem zdrow_s (σ : zSt) (i j : Nat) : (if j = i then zdrift (zrw σ 3 (zdrow (σ 3) i) 3 i) else zdrow (σ 3) i j) = zdrow (σ 3) (i + 1) j := by
  have h0 : zrw σ 3 (zdrow (σ 3) i) 3 i = σ 3 i := if_neg (by omega)
  rw [h0]
  unfold zdrow
  by_cases e : j = i
  · subst e
    rw [if_pos rfl, if_pos (by omega)]
  · rw [if_neg e]
    by_cases e2 : j < i
    · rw [if_pos e2, if_pos (by omega)]
    · rw [if_neg e2, if_neg (by omega)]
theorem zwrow_y {e : Nat → Int32} {i : Nat} (h : 0 < e i) (j : Nat) : (if j = i then e i - 1 else zwrow e i j) = zwrow e (i + 1) j := by
  unfold zwrow
  by_cases q : j = i
  · subst q
    rw [if_pos rfl, if_pos ⟨by omega, h⟩]
  · rw [if_neg q]
    by_cases e2 : j < i ∧ 0 < e j
    · rw [if_pos e2, if_pos ⟨by omega, e2.2⟩]
    · rw [if_neg e2, if_neg (fun z => e2 ⟨by omega, z.2⟩)]
theorem zwrow_n {e : Nat → Int32} {i : Nat} (h : ¬ 0 < e i) (j : Nat) : zwrow e i j = zwrow e (i + 1) j := by
  unfold zwrow
  by_cases q : j = i
  · subst q
    rw [if_neg (fun z => absurd z.1 (by omega)), if_neg (fun z => h z.2)]
  · by_cases e2 : j < i ∧ 0 < e j
    · rw [if_pos e2, if_pos ⟨by omega, e2.2⟩]
    · rw [if_neg e2, if_neg (fun z => e2 ⟨by omega, z.2⟩)]
