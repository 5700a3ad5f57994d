/-! ===== bounds of a river's numbers, and what follows ===== -/
def zBet (x : Int32) (a b : Int) : Prop := a ≤ x.toInt ∧ x.toInt ≤ b
def zBnd (σ : zSt) (S F E K : Nat) (Y : Int) : Prop :=
  (∀ s, s < S → zBet (σ 0 s) 0 50 ∧ zBet (σ 1 s) 0 30 ∧ zBet (σ 2 s) 1 5 ∧ zBet (σ 3 s) (-9) 9) ∧
  (∀ f, f < F → zBet (σ 4 f) 0 Y ∧ zBet (σ 5 f) 1 99 ∧ zBet (σ 6 f) 0 99) ∧
  (∀ e, e < E → zBet (σ 7 e) 0 999 ∧ zBet (σ 8 e) (-9) 9) ∧
  (∀ c, c < K → zBet (σ 9 c) 0 20) ∧
  (∀ s f, s < S → f < F → zmk σ s f = true → zBet (σ 10 (12 * s + f)) 0 99 ∧ zBet (σ 11 (12 * s + f)) 1 11 ∧ zBet (σ 12 (12 * s + f)) 0 Y) ∧
  zBet (σ 13 0) 100 Y
theorem zsubI {x y : Int32} (h : -2147483648 ≤ x.toInt - y.toInt ∧ x.toInt - y.toInt < 2147483648) : (x - y).toInt = x.toInt - y.toInt := by
  rw [Int32.toInt_sub]
  exact Int.bmod_eq_of_le (by omega) (by omega)
theorem zaddI {x y : Int32} (h : -2147483648 ≤ x.toInt + y.toInt ∧ x.toInt + y.toInt < 2147483648) : (x + y).toInt = x.toInt + y.toInt := by
  rw [Int32.toInt_add]
  exact Int.bmod_eq_of_le (by omega) (by omega)
theorem z0I : (0 : Int32).toInt = 0 := by decide
theorem zeqI {x y : Int32} : x = y ↔ x.toInt = y.toInt := Int32.toInt_inj.symm
theorem zcmp_i (mc mh : Int32) : zcmp mc mh = true ↔ (mc.toInt = 0 ∧ ¬ mh.toInt = 0) ∨ (0 < mc.toInt ∧ mh.toInt ≤ 0) ∨ (mc.toInt < 0 ∧ 0 ≤ mh.toInt) := by
  unfold zcmp
  by_cases h1 : mc = 0
  · have e1 : mc.toInt = 0 := by rw [h1]; decide
    rw [if_pos h1, decide_eq_true_eq, zeqI, z0I]
    omega
  · have e1 : ¬ mc.toInt = 0 := fun q => h1 (zeqI.mpr (by rw [z0I]; exact q))
    rw [if_neg h1]
    by_cases h2 : 0 < mc
    · have e2 := Int32.lt_iff_toInt_lt.mp h2
      rw [z0I] at e2
      rw [if_pos h2, decide_eq_true_eq, Int32.le_iff_toInt_le, z0I]
      omega
    · have e2 : ¬ 0 < mc.toInt := fun q => h2 (Int32.lt_iff_toInt_lt.mpr (by rw [z0I]; exact q))
      rw [if_neg h2, decide_eq_true_eq, Int32.le_iff_toInt_le, z0I]
      omega
theorem zcmp_sym {a b h k : Int32} (ha : zBet a (-1000) 1000) (hb : zBet b (-1000) 1000) (hh : zBet h (-1000) 1000) (hk : zBet k (-1000) 1000) : zcmp (a - b) (h - k) = zcmp (b - a) (k - h) := by
  unfold zBet at ha hb hh hk
  have e1 := zsubI (x := a) (y := b) (by omega)
  have e2 := zsubI (x := b) (y := a) (by omega)
  have e3 := zsubI (x := h) (y := k) (by omega)
  have e4 := zsubI (x := k) (y := h) (by omega)
  refine Bool.eq_iff_iff.mpr ?_
  rw [zcmp_i, zcmp_i, e1, e2, e3, e4]
  omega
section ZBN
variable {σ : zSt} {S F E K : Nat} {Y : Int}
theorem zBnd.sh (hB : zBnd σ S F E K Y) (y : Int32) : zBet (zshift σ E y) (-9) 9 := by
  have key : ∀ n, n ≤ E → zBet (zsh (σ 7) (σ 8) y n).2 (-9) 9 := fun n => by
    induction n with
    | zero => intro _; unfold zsh zBet; decide
    | succ n ih =>
      intro hn
      rw [zsh]
      split
      · exact (hB.2.2.1 n (by omega)).2
      · exact ih (by omega)
  exact key E (Nat.le_refl E)
theorem zBnd.tr (hB : zBnd σ S F E K Y) {s f : Nat} (hs : s < S) (hf : f < F) (hm : zmk σ s f = true) : zBet (ztrue σ E s f) (-9) 108 := by
  have h1 := (hB.2.2.2.2.1 s f hs hf hm).1
  have h2 := hB.sh (σ 12 (12 * s + f))
  unfold zBet at h1 h2 ⊢
  rw [ztrue, zsubI (by omega)]
  omega
theorem zBnd.sym (hB : zBnd σ S F E K Y) {s f o : Nat} (hs : s < S) (hf : f < F) (ho : o < F) : zdbt σ E s f o = zdbt σ E s o f := by
  unfold zdbt
  by_cases e1 : zmk σ s f = true
  · by_cases e2 : zmk σ s o = true
    · have h1 := (hB.2.1 f hf).2.1
      have h2 := (hB.2.1 o ho).2.1
      have h3 := hB.tr hs hf e1
      have h4 := hB.tr hs ho e2
      have hd : decide (f ≠ o) = decide (o ≠ f) := by
        by_cases e : f = o
        · subst e; rfl
        · have e' : o ≠ f := fun q => e q.symm
          simp [e, e']
      rw [e1, e2, hd, zcmp_sym (by unfold zBet at *; omega) (by unfold zBet at *; omega) (by unfold zBet at *; omega) (by unfold zBet at *; omega)]
    · rw [zbf e2]; simp
  · rw [zbf e1]; simp
end ZBN
theorem zsm_add (f g : Nat → Nat) : ∀ n, zsm (fun k => f k + g k) n = zsm f n + zsm g n
  | 0 => rfl
  | n + 1 => by rw [zsm, zsm, zsm, zsm_add f g n]; omega
theorem zsm_sym {R : Nat → Nat → Bool} : ∀ {N : Nat}, (∀ a b, a < N → b < N → R a b = R b a) → (∀ a, a < N → R a a = false) → zsm (fun f => zct (fun o => R f o) N) N = 2 * zsm (fun f => zct (fun o => R f o) f) N
  | 0, _, _ => rfl
  | N + 1, h, h0 => by
    have ih := zsm_sym (R := R) (N := N) (fun a b ha hb => h a b (by omega) (by omega)) (fun a ha => h0 a (by omega))
    have e1 : zsm (fun f => zct (fun o => R f o) (N + 1)) N = zsm (fun f => zct (fun o => R f o) N) N + zct (fun o => R N o) N := by
      rw [zct_sm (fun o => R N o) N, ← zsm_add]
      refine zsm_cong (fun f hf => ?_)
      rw [zct, h f N (by omega) (by omega)]
    rw [zsm, zsm, e1, ih, zct_f (p := fun o => R N o) (h0 N (by omega))]
    omega
theorem zhalf {D : Nat} (h : D ≤ 144) : nI (2 * D) / 2 = nI D := by
  have : ∀ D, D < 145 → nI (2 * D) / 2 = nI D := by decide
  exact this D (by omega)
/-- the doubts on a stone, told by its list -/
theorem zRel.dOn {σ : zSt} {S F E K : Nat} {g : Nat → Int32} {mm : Nat → Nat} {fl : Nat → Nat → Nat} {Y : Int} (hL : zRel σ S F E K g mm fl) (hB : zBnd σ S F E K Y) {s : Nat} (hs : s < S) : zsm (fun a => zct (zdm σ E fl s a) (mm s)) (mm s) = 2 * zdOn σ E F s := by
  have e1 : zsm (fun a => zct (zdm σ E fl s a) (mm s)) (mm s) = zsm (fun a => (fun f => zct (fun o => zdbt σ E s f o) F) (fl s a)) (mm s) := zsm_cong (fun a ha => hL.dm hs ha (Nat.le_refl F) hL.F12)
  rw [e1, hL.smr hs (Nat.le_refl F) hL.F12 (fun f => zct (fun o => zdbt σ E s f o) F), zdOn, ← zsm_sym (R := fun f o => zdbt σ E s f o) (N := F) (fun a b ha hb => hB.sym hs ha hb) (fun a _ => zbf (zdbt_eq rfl))]
  refine zsm_cong (fun f _ => ?_)
  by_cases e : zmk σ s f = true
  · rw [if_pos e]
  · rw [if_neg e, zct_0 (fun k _ => zbf (zdbt_m1 e))]
/-! ===== what both sides answer ===== -/
/-- the place of an exception in a list of catches, from 1 on -/
def zcd (E : String) : List String → Int32 → Option Int32
  | [], _ => none
  | e :: es, n => if e = E then some n else zcd E es (n + 1)
/-- the class's answer, told as the reference tells it: the number and the code -/
def zans (cs : List String) : zO → Int32 → Int32 → Prop
  | .inl (some (.int v)), r, c => c = 0 ∧ r = v
  | .inr E, _, c => zcd E cs 1 = some c
  | _, _, _ => False
