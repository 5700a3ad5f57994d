/-! ===== what changes a river ===== -/
theorem zset_ss (G : zH) (a : Nat) (e e' : zE) : zset (zset G a e) a e' = zset G a e' := funext fun b => by
  unfold zset
  by_cases h : b = a
  · rw [if_pos h, if_pos h]
  · rw [if_neg h, if_neg h, if_neg h]
section ZR2
variable {Γ : zG} {mi : zMI} {d mc ms pc k n : Nat} {lv : List (Option Value)} {st : List Value} {G : zH} {Post : zP} {ad : Nat → Nat} {σ : zSt}
theorem z_num (hR : zRiv G ad σ) (j : Nat) (x : Int32) (hj : j < 8) {e : zE} (he : e = zrE ad (zu σ 13 j x) (zown j)) (kk : ∀ G1, zRiv G1 ad (zu σ 13 j x) → zFrm G G1 ad 19 → zX Γ mi d mc ms pc lv st G1 k n Post) : zX Γ mi d mc ms pc lv st (zset G (ad (zown j)) e) k n Post := by
  refine kk _ (hR.num hj he) (zFrm.set ?_ _)
  match j, hj with
  | 0, _ | 1, _ | 2, _ | 3, _ | 4, _ | 5, _ | 6, _ | 7, _ => decide
/-- Rows.set in a river -/
theorem sRset {P : zV} (hR : zRiv G ad σ) (r j : Nat) {x : Int32} (hr : r < 13) (hj : j < zlenR r) (hP : ∀ G1, zRiv G1 ad (zu σ r j x) → zFrm G G1 ad 19 → P none G1) : zM Γ d mX7_set 0 0 [.ref (ad (r + 6)), .int (nI j), .int x] G P := by
  have hl : zlenR r ≤ 72 := by unfold zlenR; split <;> decide
  refine sX7_set (hR.1 (r + 6) (by omega)) (by omega) hj ?_
  have h1 := hR.row (r := r) (j := j) (x := x) hr
  rw [Nat.add_comm 6 r] at h1
  exact hP _ h1 (zFrm.set (by omega) _)
end ZR2
theorem zRiv.frm {G G1 : zH} {ad ad' : Nat → Nat} {τ : zSt} (h : zRiv G ad' τ) (hF : zFrm G G1 ad 19) (hd : ∀ i j, i < 19 → j < 19 → ad i ≠ ad' j) : zRiv G1 ad' τ := ⟨fun k hk => by rw [hF (ad' k) (fun i hi e => hd i k hi hk e.symm)]; exact h.1 k hk, h.2⟩
theorem zRiv.cong {G : zH} {ad : Nat → Nat} {σ τ : zSt} (h : zRiv G ad σ) (h1 : ∀ r, r < 13 → σ r = τ r) (h2 : ∀ j, j < 8 → σ 13 j = τ 13 j) : zRiv G ad τ := by
  refine ⟨fun k hk => ?_, h.2⟩
  rw [h.1 k hk]
  match k, hk with
  | 0, _ => simp only [zrE, h2 0 (by decide)]
  | 1, _ => simp only [zrE, h2 1 (by decide)]
  | 2, _ => simp only [zrE, h2 2 (by decide)]
  | 3, _ => simp only [zrE, h2 3 (by decide)]
  | 4, _ => simp only [zrE, h2 4 (by decide)]
  | 5, _ => simp only [zrE, h2 5 (by decide), h2 6 (by decide), h2 7 (by decide)]
  | k + 6, hk => simp only [zrE, h1 k (by omega)]
/-- a whole row written anew -/
def zrw (σ : zSt) (r : Nat) (f : Nat → Int32) : zSt := fun r' => if r' = r then f else σ r'
theorem zRiv.rows {G : zH} {ad : Nat → Nat} {σ : zSt} (h : zRiv G ad σ) (r : Nat) (f : Nat → Int32) (hr : r < 13) : zRiv (zset G (ad (r + 6)) (.inl (.int, (zlenR r, .inl f)))) ad (zrw σ r f) := by
  refine ⟨fun k hk => ?_, h.2⟩
  have h13 : zrw σ r f 13 = σ 13 := if_neg (by omega)
  by_cases e : k = r + 6
  · subst e
    have hf : zrw σ r f r = f := if_pos rfl
    have hz : zrE ad (zrw σ r f) (r + 6) = .inl (.int, (zlenR r, .inl (zrw σ r f r))) := rfl
    rw [zset_s, hz, hf]
  · rw [zset_n (fun q => e (h.2 k (r + 6) hk (by omega) q)), h.1 k hk]
    match k, hk, e with
    | 0, _, _ => simp only [zrE, h13]
    | 1, _, _ => simp only [zrE, h13]
    | 2, _, _ => simp only [zrE, h13]
    | 3, _, _ => simp only [zrE, h13]
    | 4, _, _ => simp only [zrE, h13]
    | 5, _, _ => simp only [zrE, h13]
    | k + 6, hk, e =>
      have : zrw σ r f k = σ k := if_neg (by omega)
      simp only [zrE, this]
section ZCP
variable {Γ : zG} {mi : zMI} {d mc ms pc k n : Nat} {lv : List (Option Value)} {st : List Value} {G : zH} {Post : zP}
theorem zarr_ext {cA : ClassId} {N0 : Nat} {f g : Nat → Int32} (h : ∀ j, j < N0 → f j = g j) : vp_cell cA (N0, .inl f) = vp_cell cA (N0, .inl g) := by
  rw [vp_cell_i, vp_cell_i]
  unfold arrV
  congr 1
  apply Array.ext
  · simp
  · intro i h1 h2
    simp at h1 ⊢
    exact h i h1
/-- what stands in a row beyond its length says nothing -/
theorem z_ext {a N0 : Nat} {ty : FieldType} {f g : Nat → Int32} (h : ∀ j, j < N0 → f j = g j) (kk : zX Γ mi d mc ms pc lv st (zset G a (.inl (ty, (N0, .inl g)))) k n Post) : zX Γ mi d mc ms pc lv st (zset G a (.inl (ty, (N0, .inl f)))) k n Post := by
  intro p e R s m args below meth c H locs ls C hH hS hl
  refine kk p e R s m args below meth c H locs ls C ?_ hS hl
  obtain ⟨ws, tys, h1, h2, h3, h4⟩ := hH
  obtain ⟨cA, q0, t0, hq, ht⟩ := h4.arr (zset_s G a _)
  refine ⟨ws.set q0 (a, .inl (cA, N0, .inl g)), tys, h1.set h2 hq ?_ (fun q _ => rfl), h2.set hq, h3, ?_⟩
  · show H[a]? = some (vp_cell _ _)
    rw [← zarr_ext h]
    exact h1 q0 _ hq
  · have := h4.setA hq ht (N0, .inl g)
    rwa [zset_ss] at this
end ZCP
