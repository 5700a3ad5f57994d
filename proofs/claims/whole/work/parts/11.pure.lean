/-! ===== plain things: counts, first places, sums ===== -/
def zb (p : Prop) [Decidable p] : Int32 := if p then 1 else 0
theorem zb_t {p : Prop} [Decidable p] (h : p) : zb p = 1 := if_pos h
theorem zb_f {p : Prop} [Decidable p] (h : ¬ p) : zb p = 0 := if_neg h
theorem zb_0 {p : Prop} [Decidable p] : zb p = 0 ↔ ¬ p := by
  unfold zb
  split
  · rename_i h; exact ⟨fun q => absurd q (by decide), fun q => absurd h q⟩
  · rename_i h; exact ⟨fun _ => h, fun _ => rfl⟩
theorem zb_n {p : Prop} [Decidable p] : ¬ zb p = 0 ↔ p := by rw [zb_0]; exact Decidable.not_not
def zct (p : Nat → Bool) : Nat → Nat
  | 0 => 0
  | n + 1 => zct p n + if p n then 1 else 0
theorem zct_t {p : Nat → Bool} {n : Nat} (h : p n = true) : zct p (n + 1) = zct p n + 1 := by rw [zct, if_pos h]
theorem zct_f {p : Nat → Bool} {n : Nat} (h : p n = false) : zct p (n + 1) = zct p n := by rw [zct, if_neg (by rw [h]; decide)]; rfl
theorem zct_le (p : Nat → Bool) : ∀ n, zct p n ≤ n
  | 0 => Nat.le_refl 0
  | n + 1 => by
    have := zct_le p n
    rw [zct]
    split <;> omega
theorem zct_cong {p q : Nat → Bool} : ∀ {n : Nat}, (∀ k, k < n → p k = q k) → zct p n = zct q n
  | 0, _ => rfl
  | n + 1, h => by rw [zct, zct, zct_cong (fun k hk => h k (by omega)), h n (by omega)]
def zsm (f : Nat → Nat) : Nat → Nat
  | 0 => 0
  | n + 1 => zsm f n + f n
theorem zsm_cong {f g : Nat → Nat} : ∀ {n : Nat}, (∀ k, k < n → f k = g k) → zsm f n = zsm g n
  | 0, _ => rfl
  | n + 1, h => by rw [zsm, zsm, zsm_cong (fun k hk => h k (by omega)), h n (by omega)]
theorem zsm_le {f : Nat → Nat} {b : Nat} : ∀ {n : Nat}, (∀ k, k < n → f k ≤ b) → zsm f n ≤ n * b
  | 0, _ => by simp [zsm]
  | n + 1, h => by
    have h1 := zsm_le (n := n) (fun k hk => h k (by omega))
    have h2 := h n (by omega)
    rw [zsm, Nat.succ_mul]
    omega
/-- the first place below n where p holds, or n -/
def zff (p : Nat → Bool) : Nat → Nat
  | 0 => 0
  | n + 1 => if zff p n < n then zff p n else if p n then n else n + 1
theorem zff_no {p : Nat → Bool} : ∀ {n : Nat}, (∀ k, k < n → p k = false) → zff p n = n
  | 0, _ => rfl
  | n + 1, h => by
    rw [zff, zff_no (fun k hk => h k (by omega)), if_neg (by omega), if_neg (by rw [h n (by omega)]; decide)]
theorem zff_yes {p : Nat → Bool} {i : Nat} (hb : ∀ k, k < i → p k = false) (hi : p i = true) : ∀ {n : Nat}, i < n → zff p n = i
  | 0, h => absurd h (by omega)
  | n + 1, h => by
    rw [zff]
    by_cases e : i = n
    · subst e
      rw [zff_no hb, if_neg (by omega), if_pos hi]
    · rw [zff_yes hb hi (by omega), if_pos (by omega)]
theorem zff_le (p : Nat → Bool) : ∀ n, zff p n ≤ n
  | 0 => Nat.le_refl 0
  | n + 1 => by
    have := zff_le p n
    rw [zff]
    split
    · omega
    · split <;> omega
theorem zff_spec (p : Nat → Bool) : ∀ n, (∀ k, k < zff p n → p k = false) ∧ (zff p n < n → p (zff p n) = true)
  | 0 => ⟨fun k hk => absurd hk (by simp [zff]), fun h => absurd h (by simp [zff])⟩
  | n + 1 => by
    obtain ⟨h1, h2⟩ := zff_spec p n
    have h3 := zff_le p n
    rw [zff]
    split
    · rename_i h
      exact ⟨h1, fun _ => h2 h⟩
    · rename_i h
      have e : zff p n = n := by omega
      split
      · rename_i hp
        exact ⟨fun k hk => h1 k (by omega), fun _ => hp⟩
      · rename_i hp
        refine ⟨fun k hk => ?_, fun q => absurd q (by omega)⟩
        by_cases hk2 : k = n
        · subst hk2; simpa using hp
        · exact h1 k (by omega)
/-- .. as Java tells it -/
def zfi (p : Nat → Bool) (n : Nat) : Int32 := if zff p n < n then nI (zff p n) else -1
theorem zfi_yes {p : Nat → Bool} {i n : Nat} (hb : ∀ k, k < i → p k = false) (hi : p i = true) (h : i < n) : zfi p n = nI i := by
  unfold zfi
  rw [zff_yes hb hi h, if_pos h]
theorem zfi_no {p : Nat → Bool} {n : Nat} (h : ∀ k, k < n → p k = false) : zfi p n = -1 := by
  unfold zfi
  rw [zff_no h, if_neg (by omega)]
theorem zsl {x y : Int32} (h : x = y) : some (Value.int x) = some (Value.int y) := by rw [h]
theorem zinc (i : Nat) : nI i + Int32.ofInt 1 = nI (i + 1) := by rw [show Int32.ofInt 1 = 1 from by decide]; exact nI_1 i
theorem zadd0 (x : Int32) : x + 0 = x := by simp
/-- the greatest lesser one -/
def zla (fy : Nat → Int32) (lim : Int32) : Nat → Option Nat
  | 0 => none
  | n + 1 => match zla fy lim n with
    | none => if fy n < lim then some n else none
    | some k => if fy n < lim ∧ fy k < fy n then some n else some k
theorem zla_lt {fy : Nat → Int32} {lim : Int32} : ∀ {n k : Nat}, zla fy lim n = some k → k < n
  | 0, k, h => by simp [zla] at h
  | n + 1, k, h => by
    rw [zla] at h
    cases hz : zla fy lim n with
    | none =>
      rw [hz] at h
      dsimp only at h
      split at h
      · cases h; omega
      · cases h
    | some j =>
      rw [hz] at h
      have := zla_lt hz
      dsimp only at h
      split at h <;> (cases h; omega)
def zoi : Option Nat → Int32
  | none => -1
  | some k => nI k
/-- the shift of a year: the latest start not after it, and its amount -/
def zsh (from_ amt : Nat → Int32) (y : Int32) : Nat → Int32 × Int32
  | 0 => (-1, 0)
  | n + 1 => if from_ n ≤ y ∧ (zsh from_ amt y n).1 < from_ n then (from_ n, amt n) else zsh from_ amt y n
def zdrift (e : Int32) : Int32 := if 0 ≤ e then (if 9 < e + 1 then 9 else e + 1) else (if e - 1 < -9 then -9 else e - 1)
/-! what the river's rows say -/
def zmk (σ : zSt) (s f : Nat) : Bool := decide (0 < σ 11 (12 * s + f))
def zshift (σ : zSt) (E : Nat) (y : Int32) : Int32 := (zsh (σ 7) (σ 8) y E).2
def ztrue (σ : zSt) (E s f : Nat) : Int32 := σ 10 (12 * s + f) - zshift σ E (σ 12 (12 * s + f))
def zcmp (mc mh : Int32) : Bool := if mc = 0 then decide (¬ mh = 0) else if 0 < mc then decide (mh ≤ 0) else decide (0 ≤ mh)
def zdbt (σ : zSt) (E s f o : Nat) : Bool := decide (f ≠ o) && (zmk σ s f && (zmk σ s o && zcmp (σ 5 f - σ 5 o) (ztrue σ E s f - ztrue σ E s o)))
def zdOn (σ : zSt) (E F s : Nat) : Nat := zsm (fun f => zct (fun o => zdbt σ E s f o) f) F
def zdOf (σ : zSt) (E F S f : Nat) : Nat := zsm (fun s => zct (fun o => zdbt σ E s f o) F) S
def zlevel (σ : zSt) (s f : Nat) : Int32 := σ 5 f - (σ 0 s / 5 + σ 1 s)
def zread (σ : zSt) (E s f : Nat) : Int32 := zlevel σ s f + σ 3 s + zshift σ E (σ 13 0)
def zcred (σ : zSt) (E F S f : Nat) : Int32 := if 0 < 10 * σ 6 f - 5 * nI (zdOf σ E F S f) then 10 * σ 6 f - 5 * nI (zdOf σ E F S f) else 0
def zlow (σ : zSt) (s : Nat) (lim : Int32) : Nat := zct (fun f => zmk σ s f && decide (σ 10 (12 * s + f) < lim)) 12
def zatP (σ : zSt) (s : Nat) (place : Int32) : Nat → Bool := fun f => zmk σ s f && decide (nI (zlow σ s (σ 10 (12 * s + f))) = place)
def zatH (σ : zSt) (s : Nat) (h : Int32) : Nat → Bool := fun f => zmk σ s f && decide (σ 10 (12 * s + f) = h)
def zahd (σ : zSt) (cr : Nat → Int32) (f o : Nat) : Bool := if ¬ cr f - cr o = 0 then decide (0 < cr f - cr o) else if ¬ σ 5 f - σ 5 o = 0 then decide (0 < σ 5 f - σ 5 o) else decide (σ 4 f < σ 4 o)
def ztold (σ : zSt) (E : Nat) (f : Nat) : Nat → Int32
  | 0 => 0
  | s + 1 => if zmk σ s f then ztold σ E f s + (ztrue σ E s f + (σ 0 s / 5 + σ 1 s)) else ztold σ E f s
def zsumI (f : Nat → Int32) : Nat → Int32
  | 0 => 0
  | n + 1 => zsumI f n + f n
/-- how many there are of each -/
def zN (σ : zSt) (S F E K : Nat) : Prop := σ 13 1 = nI S ∧ S ≤ 6 ∧ σ 13 2 = nI F ∧ F ≤ 12 ∧ σ 13 3 = nI E ∧ E ≤ 4 ∧ σ 13 4 = nI K ∧ K ≤ 3
theorem zhas {x : Int32} {n : Nat} (hn : n < 2147483648) (h : 0 ≤ x ∧ x < nI n) : ∃ s : Nat, s < n ∧ x = nI s := by
  obtain ⟨j, hj, rfl⟩ := nI_of (Int32.not_lt.mpr h.1)
  exact ⟨j, (nI_ltI hj hn).mp h.2, rfl⟩
