/-! ===== the landed class whole ===== -/
/-- addresses: 0 FloodStones, 1 History, 2 its ring, 3 Refusal, 4 Text, 5 signs, 6 kinds, 7 numbers, 8 credits, 9 the builder; from 10 on eleven rivers by nineteens: now, trial, saved, the ring's eight -/
def zar (ax : Nat → Nat) (r : Nat) : Nat → Nat := fun j => ax (10 + 19 * r + j)
def zring (ax : Nat → Nat) (s : Nat) : Option Nat := if s < 8 then some (zar ax (3 + s) 0) else none
/-- numbers: row 0: isSaved, latestFault, next, count, reason, detail, command, length, position, found, the builder's count, its maybeLatin1; rows 1 to 5: signs, kinds, numbers, credits, the builder's bytes -/
def zclE (ax : Nat → Nat) (bq : Nat) (γ : zSt) (k : Nat) : zE := match k with
  | 0 => .inr (10, [.ref (zar ax 0 0), .ref (zar ax 1 0), .ref (zar ax 2 0), .int (γ 0 0), .ref (ax 1), .ref (ax 3), .ref (ax 4), .int (γ 0 1), .ref (ax 9), .ref (ax 8)])
  | 1 => .inr (3, [.ref (ax 2), .int (γ 0 2), .int (γ 0 3)])
  | 2 => .inl (.object RX6, (8, .inr (.inr (.inr (.inr (zring ax))))))
  | 3 => .inr (5, [.int (γ 0 4), .int (γ 0 5), .int (γ 0 6)])
  | 4 => .inr (9, [.ref (ax 5), .int (γ 0 7), .ref (ax 6), .ref (ax 7), .int (γ 0 9), .int (γ 0 8)])
  | 5 => .inl (.char, (60, .inl (γ 1)))
  | 6 => .inl (.int, (60, .inl (γ 2)))
  | 7 => .inl (.int, (180, .inl (γ 3)))
  | 8 => .inl (.int, (12, .inl (γ 4)))
  | _ => .inr (7, [.ref bq, .int 0, .int (γ 0 11), .int (γ 0 10)])
def zCls (G : zH) (ax : Nat → Nat) (bq m : Nat) (ρ : Nat → zSt) (γ : zSt) : Prop :=
  (∀ k, k < 10 → G (ax k) = some (zclE ax bq γ k)) ∧ (∀ r, r < 11 → zRiv G (zar ax r) (ρ r)) ∧ zApart ax 219 ∧ G bq = some (.inl (.byte, (m, .inl (γ 5)))) ∧ ∀ k, k < 219 → bq ≠ ax k
/-- what isn't the class's stays -/
def zFC (G G' : zH) (ax : Nat → Nat) (bq : Nat) : Prop := ∀ a, (∀ k, k < 219 → a ≠ ax k) → a ≠ bq → G a ≠ none → G' a = G a
theorem zFC.rf {G : zH} {ax : Nat → Nat} {bq : Nat} : zFC G G ax bq := fun _ _ _ _ => rfl
theorem zFC.tr {G G1 G2 : zH} {ax : Nat → Nat} {bq : Nat} (h1 : zFC G G1 ax bq) (h2 : zFC G1 G2 ax bq) : zFC G G2 ax bq := fun a h q z => by
  have e := h1 a h q z
  exact (h2 a h q (by rw [e]; exact z)).trans e
theorem zFC.set {G : zH} {ax : Nat → Nat} {bq k : Nat} (hk : k < 219) (e : zE) : zFC G (zset G (ax k) e) ax bq := fun a h _ _ => zset_n (h k hk)
theorem zFC.frm {G G' : zH} {ax : Nat → Nat} {bq r : Nat} (hr : r < 11) (h : zFrm G G' (zar ax r) 19) : zFC G G' ax bq := fun a ha _ _ => h a (fun j hj => ha (10 + 19 * r + j) (by omega))
def zrv (ρ : Nat → zSt) (r : Nat) (σ : zSt) : Nat → zSt := fun r' => if r' = r then σ else ρ r'
theorem zrv_s (ρ : Nat → zSt) (r : Nat) (σ : zSt) : zrv ρ r σ r = σ := if_pos rfl
theorem zrv_n {ρ : Nat → zSt} {r r' : Nat} {σ : zSt} (h : r' ≠ r) : zrv ρ r σ r' = ρ r' := if_neg h
theorem zar_ne {ax : Nat → Nat} (ha : zApart ax 219) {r j k : Nat} (hr : r < 11) (hj : j < 19) (hk : k < 219) (h : k ≠ 10 + 19 * r + j) : ax k ≠ zar ax r j := fun e => h (ha k _ hk (by omega) e)
theorem zar_dis {ax : Nat → Nat} (ha : zApart ax 219) {r r' : Nat} (hr : r < 11) (hr' : r' < 11) (h : r ≠ r') : ∀ i j, i < 19 → j < 19 → zar ax r i ≠ zar ax r' j := fun i j hi hj e => by
  have := ha _ _ (by omega : 10 + 19 * r + i < 219) (by omega : 10 + 19 * r' + j < 219) e
  omega
theorem zCls.riv {G G1 : zH} {ax : Nat → Nat} {bq m : Nat} {ρ : Nat → zSt} {γ : zSt} (h : zCls G ax bq m ρ γ) {r : Nat} {σ : zSt} (hr : r < 11) (hR : zRiv G1 (zar ax r) σ) (hF : zFrm G G1 (zar ax r) 19) : zCls G1 ax bq m (zrv ρ r σ) γ := by
  obtain ⟨h1, h2, h3, h4, h5⟩ := h
  refine ⟨fun k hk => ?_, fun r' hr' => ?_, h3, ?_, h5⟩
  · rw [hF (ax k) (fun j hj => zar_ne h3 hr hj (by omega) (by omega))]
    exact h1 k hk
  · by_cases e : r' = r
    · subst e; rw [zrv_s]; exact hR
    · rw [zrv_n e]
      exact (h2 r' hr').frm hF (zar_dis h3 hr hr' (Ne.symm e))
  · rw [hF bq (fun j hj => h5 (10 + 19 * r + j) (by omega))]
    exact h4
/-- the cell that bears the number j of row 0 -/
def zcown (j : Nat) : Nat := match j with
  | 0 => 0 | 1 => 0 | 2 => 1 | 3 => 1 | 4 => 3 | 5 => 3 | 6 => 3 | 7 => 4 | 8 => 4 | 9 => 4 | _ => 9
theorem zclE_cong {ax : Nat → Nat} {bq : Nat} {γ δ : zSt} {k : Nat} (hk : k < 10) (h0 : ∀ j, zcown j = k → γ 0 j = δ 0 j) (hr : ∀ r, 1 ≤ r → 4 + r = k → γ r = δ r) : zclE ax bq γ k = zclE ax bq δ k := by
  rcases (by omega : k = 0 ∨ k = 1 ∨ k = 2 ∨ k = 3 ∨ k = 4 ∨ k = 5 ∨ k = 6 ∨ k = 7 ∨ k = 8 ∨ k = 9) with rfl | rfl | rfl | rfl | rfl | rfl | rfl | rfl | rfl | rfl
  · simp only [zclE, h0 0 rfl, h0 1 rfl]
  · simp only [zclE, h0 2 rfl, h0 3 rfl]
  · rfl
  · simp only [zclE, h0 4 rfl, h0 5 rfl, h0 6 rfl]
  · simp only [zclE, h0 7 rfl, h0 8 rfl, h0 9 rfl]
  · simp only [zclE, hr 1 (by decide) rfl]
  · simp only [zclE, hr 2 (by decide) rfl]
  · simp only [zclE, hr 3 (by decide) rfl]
  · simp only [zclE, hr 4 (by decide) rfl]
  · simp only [zclE, h0 10 rfl, h0 11 rfl]
theorem zCls.misc {G : zH} {ax : Nat → Nat} {bq m : Nat} {ρ : Nat → zSt} {γ δ : zSt} (h : zCls G ax bq m ρ γ) {k : Nat} {e : zE} (hk : k < 10) (he : e = zclE ax bq δ k) (h5 : γ 5 = δ 5) (ho : ∀ k', k' < 10 → k' ≠ k → zclE ax bq γ k' = zclE ax bq δ k') : zCls (zset G (ax k) e) ax bq m ρ δ := by
  obtain ⟨h1, h2, h3, h4, h6⟩ := h
  refine ⟨fun k' hk' => ?_, fun r hr => ?_, h3, ?_, h6⟩
  · by_cases q : k' = k
    · subst q; rw [zset_s, he]
    · rw [zset_n (fun z => q (h3 k' k (by omega) (by omega) z)), h1 k' hk', ho k' hk' q]
  · refine ⟨fun j hj => ?_, (h2 r hr).2⟩
    rw [zset_n (fun z => zar_ne h3 hr hj (show k < 219 by omega) (by omega) z.symm)]
    exact (h2 r hr).1 j hj
  · rw [zset_n (h6 k (by omega)), ← h5]
    exact h4
theorem zcown_lt {j : Nat} (_ : j < 12) : zcown j < 10 := by unfold zcown; split <;> decide
theorem zCls.num {G : zH} {ax : Nat → Nat} {bq m : Nat} {ρ : Nat → zSt} {γ : zSt} (h : zCls G ax bq m ρ γ) (j : Nat) (x : Int32) {e : zE} (hj : j < 12) (he : e = zclE ax bq (zu γ 0 j x) (zcown j)) : zCls (zset G (ax (zcown j)) e) ax bq m ρ (zu γ 0 j x) := by
  refine h.misc (zcown_lt hj) he (zu_r (by decide)).symm (fun k hk hne => zclE_cong hk (fun j' hj' => (zu_j (fun q => hne (by rw [← hj', q]))).symm) (fun r hr _ => (zu_r (by omega)).symm))
theorem zCls.arr {G : zH} {ax : Nat → Nat} {bq m : Nat} {ρ : Nat → zSt} {γ : zSt} (h : zCls G ax bq m ρ γ) (r j : Nat) (x : Int32) {e : zE} (h1 : 1 ≤ r) (h4 : r ≤ 4) (he : e = zclE ax bq (zu γ r j x) (r + 4)) : zCls (zset G (ax (r + 4)) e) ax bq m ρ (zu γ r j x) := by
  refine h.misc (by omega) he (zu_r (by omega)).symm (fun k hk hne => zclE_cong hk (fun j' _ => by rw [zu_r (by omega)]) (fun r' _ hr' => (zu_r (fun q => hne (by omega))).symm))
section ZK1
variable {Γ : zG} {mi : zMI} {d mc ms pc k n : Nat} {lv : List (Option Value)} {st : List Value} {G : zH} {Post : zP} {ax : Nat → Nat} {bq m : Nat} {ρ : Nat → zSt} {γ : zSt}
theorem z_cnum (hC : zCls G ax bq m ρ γ) (j : Nat) (x : Int32) (hj : j < 12) {e : zE} (he : e = zclE ax bq (zu γ 0 j x) (zcown j)) (kk : ∀ G1, zCls G1 ax bq m ρ (zu γ 0 j x) → zFC G G1 ax bq → zX Γ mi d mc ms pc lv st G1 k n Post) : zX Γ mi d mc ms pc lv st (zset G (ax (zcown j)) e) k n Post :=
  kk _ (hC.num j x hj he) (zFC.set (by have := zcown_lt hj; omega) _)
theorem z_carr (hC : zCls G ax bq m ρ γ) (r j : Nat) (x : Int32) {e : zE} (h1 : 1 ≤ r) (h4 : r ≤ 4) (he : e = zclE ax bq (zu γ r j x) (r + 4)) (kk : ∀ G1, zCls G1 ax bq m ρ (zu γ r j x) → zFC G G1 ax bq → zX Γ mi d mc ms pc lv st G1 k n Post) : zX Γ mi d mc ms pc lv st (zset G (ax (r + 4)) e) k n Post :=
  kk _ (hC.arr r j x h1 h4 he) (zFC.set (by omega) _)
end ZK1
/-- what a refusal leaves -/
def zref (γ : zSt) (rn rd : Int32) : zSt := zu (zu (zu γ 0 4 rn) 0 5 rd) 0 6 0
theorem zCls.ref {G : zH} {ax : Nat → Nat} {bq m : Nat} {ρ : Nat → zSt} {γ : zSt} (h : zCls G ax bq m ρ γ) (rn rd : Int32) : zCls (zset G (ax 3) (.inr (5, [.int rn, .int rd, .int 0]))) ax bq m ρ (zref γ rn rd) := by
  unfold zref
  have e : zclE ax bq (zref γ rn rd) 3 = .inr (5, [.int rn, .int rd, .int 0]) := by simp [zclE, zref, zu]
  refine h.misc (by decide) e.symm ?_ (fun k hk hne => zclE_cong hk (fun j' hj' => ?_) (fun r hr _ => ?_))
  · rw [zu_r (by decide), zu_r (by decide), zu_r (by decide)]
  · have h4 : j' ≠ 4 := fun q => hne (by rw [← hj', q]; rfl)
    have h5 : j' ≠ 5 := fun q => hne (by rw [← hj', q]; rfl)
    have h6 : j' ≠ 6 := fun q => hne (by rw [← hj', q]; rfl)
    rw [zu_j h6, zu_j h5, zu_j h4]
  · rw [zu_r (by omega), zu_r (by omega), zu_r (by omega)]
