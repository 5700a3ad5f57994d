/-! ===== sums over a stone's list of marks and over its floods ===== -/
theorem zct_sm (p : Nat → Bool) : ∀ n, zct p n = zsm (fun k => if p k then 1 else 0) n
  | 0 => rfl
  | n + 1 => by rw [zct, zsm, zct_sm p n]
theorem zsm_0 {f : Nat → Nat} : ∀ {n : Nat}, (∀ k, k < n → f k = 0) → zsm f n = 0
  | 0, _ => rfl
  | n + 1, h => by rw [zsm, zsm_0 (fun k hk => h k (by omega)), h n (by omega)]
theorem zsm_one {u v : Nat → Nat} {x c : Nat} : ∀ {n : Nat}, x < n → (∀ k, k < n → k ≠ x → u k = v k) → u x = v x + c → zsm u n = zsm v n + c
  | 0, h, _, _ => absurd h (by omega)
  | n + 1, h, h1, h2 => by
    rw [zsm, zsm]
    by_cases e : x = n
    · subst e
      rw [zsm_cong (f := u) (g := v) (fun k hk => h1 k (by omega) (by omega)), h2]
      omega
    · rw [zsm_one (n := n) (by omega) (fun k hk hne => h1 k (by omega) hne) h2, h1 n (by omega) (fun q => e q.symm)]
      omega
theorem zsm_img {gl : Nat → Nat} {N : Nat} (h : Nat → Nat) : ∀ (m : Nat) (q : Nat → Bool), (∀ k, k < m → gl k < N) → (∀ k k', k < m → k' < m → gl k = gl k' → k = k') → (∀ f, f < N → (q f = true ↔ ∃ k, k < m ∧ gl k = f)) → zsm (fun k => h (gl k)) m = zsm (fun f => if q f then h f else 0) N
  | 0, q, _, _, hq => by
    rw [zsm_0 (f := fun f => if q f then h f else 0) (fun f hf => if_neg (fun z => by obtain ⟨k, hk, _⟩ := (hq f hf).mp z; omega))]
    rfl
  | m + 1, q, hl, hi, hq => by
    rw [zsm]
    have ih := zsm_img (gl := gl) (N := N) h m (fun f => q f && decide (f ≠ gl m)) (fun k hk => hl k (by omega)) (fun k k' hk hk' e => hi k k' (by omega) (by omega) e) (fun f hf => by
      constructor
      · intro z
        have z1 := Bool.and_eq_true_iff.mp z
        obtain ⟨k, hk, e⟩ := (hq f hf).mp z1.1
        have z2 := of_decide_eq_true z1.2
        refine ⟨k, ?_, e⟩
        by_cases e2 : k = m
        · subst e2; exact absurd e.symm z2
        · omega
      · rintro ⟨k, hk, e⟩
        refine Bool.and_eq_true_iff.mpr ⟨(hq f hf).mpr ⟨k, by omega, e⟩, decide_eq_true (fun z => ?_)⟩
        have := hi k m (by omega) (by omega) (e.trans z)
        omega)
    rw [ih]
    have hm : gl m < N := hl m (by omega)
    have hqm : q (gl m) = true := (hq _ hm).mpr ⟨m, by omega, rfl⟩
    refine (zsm_one (x := gl m) (c := h (gl m)) hm (fun k hk hne => ?_) ?_).symm
    · simp only [Bool.and_eq_true, decide_eq_true_eq]
      by_cases e : q k = true
      · rw [if_pos e, if_pos ⟨e, hne⟩]
      · rw [if_neg e, if_neg (fun z => e z.1)]
    · simp only [Bool.and_eq_true, decide_eq_true_eq]
      rw [if_pos hqm, if_neg (fun z => z.2 rfl)]
      omega
section ZRM
variable {σ : zSt} {S F E K : Nat} {g : Nat → Int32} {mm : Nat → Nat} {fl : Nat → Nat → Nat}
theorem zRel.onN (hL : zRel σ S F E K g mm fl) {s N : Nat} (hs : s < S) (hN : N ≤ 12) (f : Nat) (hf : f < N) : zmk σ s f = true ↔ ∃ k, k < mm s ∧ fl s k = f := hL.on hs (by omega)
theorem zRel.smr (hL : zRel σ S F E K g mm fl) {s N : Nat} (hs : s < S) (h1 : F ≤ N) (h2 : N ≤ 12) (h : Nat → Nat) : zsm (fun k => h (fl s k)) (mm s) = zsm (fun f => if zmk σ s f then h f else 0) N :=
  zsm_img h (mm s) (zmk σ s) (fun k hk => Nat.lt_of_lt_of_le (hL.mk hs hk).1 h1) (fun k k' hk hk' e => hL.inj hs hk hk' e) (fun f hf => hL.onN hs h2 f hf)
theorem zRel.ctr (hL : zRel σ S F E K g mm fl) {s N : Nat} (hs : s < S) (h1 : F ≤ N) (h2 : N ≤ 12) (p : Nat → Bool) : zct (fun k => p (fl s k)) (mm s) = zct (fun f => zmk σ s f && p f) N := by
  rw [zct_sm, zct_sm, hL.smr hs h1 h2 (fun f => if p f then 1 else 0)]
  refine zsm_cong (fun k _ => ?_)
  cases zmk σ s k <;> cases p k <;> rfl
theorem zRel.many (hL : zRel σ S F E K g mm fl) {s N : Nat} (hs : s < S) (h1 : F ≤ N) (h2 : N ≤ 12) : zct (fun f => zmk σ s f) N = mm s := by
  have h := hL.ctr hs h1 h2 (fun _ => true)
  simp only [Bool.and_true] at h
  rw [← h]
  clear h
  have : ∀ m, zct (fun _ => true) m = m := fun m => by
    induction m with
    | zero => rfl
    | succ m ih => rw [zct, ih, if_pos rfl]
  exact this _
/-- the place of a mark, told by the flood -/
theorem zRel.pl (hL : zRel σ S F E K g mm fl) {s f : Nat} (hs : s < S) (hf : f < 12) : (zmk σ s f = true ∧ zff (fun k => decide (fl s k = f)) (mm s) < mm s ∧ fl s (zff (fun k => decide (fl s k = f)) (mm s)) = f) ∨ (zmk σ s f = false ∧ zff (fun k => decide (fl s k = f)) (mm s) = mm s) := by
  have hsp := zff_spec (fun k => decide (fl s k = f)) (mm s)
  have hle := zff_le (fun k => decide (fl s k = f)) (mm s)
  by_cases h : zff (fun k => decide (fl s k = f)) (mm s) < mm s
  · have h1 := of_decide_eq_true (hsp.2 h)
    exact Or.inl ⟨(hL.on hs hf).mpr ⟨_, h, h1⟩, h, h1⟩
  · refine Or.inr ⟨zbf (fun q => ?_), by omega⟩
    obtain ⟨k, hk, e⟩ := (hL.on hs hf).mp q
    have h2 := of_decide_eq_false (hsp.1 k (by omega))
    exact h2 e
end ZRM
theorem zfi_ge {p : Nat → Bool} {n : Nat} (h : 0 ≤ zfi p n) : zff p n < n ∧ zfi p n = nI (zff p n) := by
  unfold zfi at h ⊢
  by_cases q : zff p n < n
  · exact ⟨q, if_pos q⟩
  · rw [if_neg q] at h
    exact absurd h (by decide)
theorem zfi_lt {p : Nat → Bool} {n : Nat} (hn : n < 2147483648) (h : ¬ 0 ≤ zfi p n) : ¬ zff p n < n := fun q => h (by
  unfold zfi
  rw [if_pos q]
  exact Int32.not_lt.mp (nI_pos (by omega)))
/-- two marks at odds, told by their places -/
def zdm (σ : zSt) (E : Nat) (fl : Nat → Nat → Nat) (s a b : Nat) : Bool := decide (b ≠ a) && zcmp (σ 5 (fl s a) - σ 5 (fl s b)) (ztrue σ E s (fl s a) - ztrue σ E s (fl s b))
section ZRN
variable {σ : zSt} {S F E K : Nat} {g : Nat → Int32} {mm : Nat → Nat} {fl : Nat → Nat → Nat}
theorem zRel.mkt (hL : zRel σ S F E K g mm fl) {s a : Nat} (hs : s < S) (ha : a < mm s) : zmk σ s (fl s a) = true := (hL.on hs (by have h1 := (hL.mk hs ha).1; have h2 := hL.F12; omega)).mpr ⟨a, ha, rfl⟩
theorem zRel.dm (hL : zRel σ S F E K g mm fl) {s a N : Nat} (hs : s < S) (ha : a < mm s) (h1 : F ≤ N) (h2 : N ≤ 12) : zct (zdm σ E fl s a) (mm s) = zct (fun o => zdbt σ E s (fl s a) o) N := by
  have e1 : zct (zdm σ E fl s a) (mm s) = zct (fun b => (fun o => decide (fl s a ≠ o) && zcmp (σ 5 (fl s a) - σ 5 o) (ztrue σ E s (fl s a) - ztrue σ E s o)) (fl s b)) (mm s) := by
    refine zct_cong (fun b hb => ?_)
    have : decide (b ≠ a) = decide (fl s a ≠ fl s b) := by
      by_cases e : b = a
      · subst e; simp
      · have : fl s a ≠ fl s b := fun q => e (hL.inj hs ha hb q).symm
        simp [e, this]
    simp only [zdm, this]
  rw [e1, hL.ctr hs h1 h2 (fun o => decide (fl s a ≠ o) && zcmp (σ 5 (fl s a) - σ 5 o) (ztrue σ E s (fl s a) - ztrue σ E s o))]
  refine zct_cong (fun o _ => ?_)
  have hm := hL.mkt hs ha
  simp only [zdbt, hm]
  cases decide (fl s a ≠ o) <;> cases zmk σ s o <;> simp
theorem zct_0 {p : Nat → Bool} : ∀ {n : Nat}, (∀ k, k < n → p k = false) → zct p n = 0
  | 0, _ => rfl
  | n + 1, h => by rw [zct, zct_0 (fun k hk => h k (by omega)), h n (by omega)]; rfl
/-- the doubts for a flood -/
theorem zRel.dOf (hL : zRel σ S F E K g mm fl) {f : Nat} (hf : f < 12) : zsm (fun s => if zff (fun k => decide (fl s k = f)) (mm s) < mm s then zct (zdm σ E fl s (zff (fun k => decide (fl s k = f)) (mm s))) (mm s) else 0) S = zdOf σ E F S f := by
  unfold zdOf
  refine zsm_cong (fun s hs => ?_)
  rcases hL.pl hs hf with ⟨h1, h2, h3⟩ | ⟨h1, h2⟩
  · rw [if_pos h2, hL.dm hs h2 (Nat.le_refl F) hL.F12, h3]
  · rw [if_neg (by omega), zct_0 (fun k _ => zbf (zdbt_m1 (by rw [h1]; decide)))]
end ZRN
