/-- addresses one after another -/
def zcat (N : Nat) (a c : Nat → Nat) : Nat → Nat := fun k => if k < N then a k else c (k - N)
theorem zcat_l {N k : Nat} {a c : Nat → Nat} (h : k < N) : zcat N a c k = a k := if_pos h
theorem zcat_r {N k : Nat} {a c : Nat → Nat} (h : N ≤ k) : zcat N a c k = c (k - N) := if_neg (Nat.not_lt.mpr h)
/-- cells made between two heaps, apart -/
def zPf (T T' : zH) (N : Nat) (a : Nat → Nat) : Prop := (∀ k, k < N → T (a k) = none ∧ T' (a k) ≠ none) ∧ zApart a N
theorem zPf.cat {T T' T'' : zH} {b N M : Nat} {a c : Nat → Nat} (h : zPf T T' N a) (h2 : zPf T' T'' M c) (n1 : zNw T T' b) (n2 : zNw T' T'' b) (hb : T b ≠ none) (hb' : T' b ≠ none) : zPf T T'' (N + M) (zcat N a c) := by
  have hab : ∀ k, k < N → a k ≠ b := fun k hk z => hb (by rw [← z]; exact (h.1 k hk).1)
  have hcb : ∀ k, k < M → c k ≠ b := fun k hk z => hb' (by rw [← z]; exact (h2.1 k hk).1)
  have hcT : ∀ k, k < M → T (c k) = none := fun k hk => Classical.byContradiction fun z => by
    have := n1 _ z (hcb k hk)
    rw [(h2.1 k hk).1] at this
    exact z this.symm
  refine ⟨fun k hk => ?_, fun i j hi hj e => ?_⟩
  · by_cases e : k < N
    · rw [zcat_l e]
      exact ⟨(h.1 k e).1, by rw [n2 _ (h.1 k e).2 (hab k e)]; exact (h.1 k e).2⟩
    · rw [zcat_r (Nat.le_of_not_lt e)]
      exact ⟨hcT _ (by omega), (h2.1 _ (by omega)).2⟩
  · by_cases ei : i < N
    · by_cases ej : j < N
      · rw [zcat_l ei, zcat_l ej] at e
        exact h.2 i j ei ej e
      · rw [zcat_l ei, zcat_r (Nat.le_of_not_lt ej)] at e
        exact absurd (h2.1 (j - N) (by omega)).1 (by rw [← e]; exact (h.1 i ei).2)
    · by_cases ej : j < N
      · rw [zcat_r (Nat.le_of_not_lt ei), zcat_l ej] at e
        exact absurd (h2.1 (i - N) (by omega)).1 (by rw [e]; exact (h.1 j ej).2)
      · rw [zcat_r (Nat.le_of_not_lt ei), zcat_r (Nat.le_of_not_lt ej)] at e
        have := h2.2 _ _ (by omega) (by omega) e
        omega
theorem zPf.riv {T T' : zH} {ad : Nat → Nat} {σ : zSt} (h : zRiv T' ad σ) (hf : ∀ k, k < 19 → T (ad k) = none) : zPf T T' 19 ad := ⟨fun k hk => ⟨hf k hk, h.ne hk⟩, h.2⟩
theorem zPf.one {T T' : zH} {q : Nat} (h : T q = none) (h' : T' q ≠ none) : zPf T T' 1 (fun _ => q) := ⟨fun _ _ => ⟨h, h'⟩, fun i j hi hj _ => by omega⟩
theorem zPf.co {T G T' : zH} {b q ci N : Nat} {e : zE} {fs : List Value} {qs : List (Nat × zE)} {ad : Nat → Nat} (hq : T q = none) (hC : zCo (zset T q e) G q ci fs qs) (hT : ∀ a, G a ≠ none → a ≠ b → T' a = G a) (hb : T b ≠ none) (hqs : ∀ k, k < N → ad k = q ∨ ∃ p, p ∈ qs ∧ ad k = p.1) (ha : zApart ad N) : zPf T T' N ad := by
  refine ⟨fun k hk => ?_, ha⟩
  rcases hqs k hk with h | ⟨p, hp, h⟩
  · have hne : q ≠ b := fun z => hb (by rw [← z]; exact hq)
    have h1 : G q ≠ none := by rw [hC.1]; exact Option.some_ne_none _
    rw [h]
    exact ⟨hq, by rw [hT q h1 hne]; exact h1⟩
  · obtain ⟨h1, h2⟩ := hC.2.1 p hp
    have hpq : p.1 ≠ q := fun z => by
      rw [z, zset_s] at h2
      cases h2
    rw [zset_n hpq] at h2
    have h3 : G p.1 ≠ none := by rw [h1]; exact Option.some_ne_none _
    rw [h]
    exact ⟨h2, by rw [hT p.1 h3 (fun z => hb (by rw [← z]; exact h2))]; exact h3⟩
theorem zCo.ex {T G : zH} {q ci : Nat} {e : zE} {fs : List Value} {qs : List (Nat × zE)} (hq : T q = none) (hC : zCo (zset T q e) G q ci fs qs) : ∀ a, T a ≠ none → G a = T a := fun a ha => by
  have hne : a ≠ q := fun z => ha (by rw [z]; exact hq)
  have h1 : zset T q e a = T a := zset_n hne
  rw [hC.2.2.2.1 a (by rw [h1]; exact ha) hne, h1]
/-- the History's cells in a row: the object, its ring, the rivers -/
def zah (q rq : Nat) (adr : Nat → Nat → Nat) : Nat → Nat := fun k => if k = 0 then q else if k = 1 then rq else adr ((k - 2) / 19) ((k - 2) % 19)
theorem zPf.hi {T G T' : zH} {b q rq : Nat} {e : zE} {adr : Nat → Nat → Nat} (hq : T q = none) (hH : zHi (zset T q e) G q rq adr 8) (hT : ∀ a, G a ≠ none → a ≠ b → T' a = G a) (hb : T b ≠ none) : zPf T T' 154 (zah q rq adr) := by
  obtain ⟨h1, h2, h3, h4, h5, h6, h7, h8, h9⟩ := hH
  have hqr : rq ≠ q := fun z => by
    rw [z, zset_s] at h3
    cases h3
  have hra : ∀ s j, s < 8 → j < 19 → adr s j ≠ q := fun s j hs hj z => by
    have := h5 s j hs hj
    rw [z, zset_s] at this
    cases this
  have key : ∀ c, T c = none → G c ≠ none → T c = none ∧ T' c ≠ none := fun c hc hG => ⟨hc, by rw [hT c hG (fun z => hb (by rw [← z]; exact hc))]; exact hG⟩
  have hr0 : T rq = none := by rw [zset_n hqr] at h3; exact h3
  refine ⟨fun k hk => ?_, fun i j hi hj e9 => ?_⟩
  · unfold zah
    by_cases k0 : k = 0
    · rw [if_pos k0]; exact key q hq (by rw [h1]; exact Option.some_ne_none _)
    · rw [if_neg k0]
      by_cases k1 : k = 1
      · rw [if_pos k1]; exact key rq hr0 (by rw [h2]; exact Option.some_ne_none _)
      · rw [if_neg k1]
        have a1 : (k - 2) / 19 < 8 := by omega
        have a2 : (k - 2) % 19 < 19 := by omega
        have a3 := h5 _ _ a1 a2
        rw [zset_n (hra _ _ a1 a2)] at a3
        exact key _ a3 ((h4 _ a1).ne a2)
  · unfold zah at e9
    have b1 : ∀ k, k < 154 → (k - 2) / 19 < 8 ∧ (k - 2) % 19 < 19 := fun k _ => by omega
    by_cases i0 : i = 0
    · by_cases j0 : j = 0
      · omega
      · rw [if_pos i0, if_neg j0] at e9
        by_cases j1 : j = 1
        · rw [if_pos j1] at e9; exact absurd e9.symm hqr
        · rw [if_neg j1] at e9; exact absurd e9.symm (hra _ _ (b1 j hj).1 (b1 j hj).2)
    · rw [if_neg i0] at e9
      by_cases i1 : i = 1
      · rw [if_pos i1] at e9
        by_cases j0 : j = 0
        · rw [if_pos j0] at e9; exact absurd e9 hqr
        · rw [if_neg j0] at e9
          by_cases j1 : j = 1
          · omega
          · rw [if_neg j1] at e9; exact absurd e9.symm (h7 _ _ (b1 j hj).1 (b1 j hj).2)
      · rw [if_neg i1] at e9
        by_cases j0 : j = 0
        · rw [if_pos j0] at e9; exact absurd e9 (hra _ _ (b1 i hi).1 (b1 i hi).2)
        · rw [if_neg j0] at e9
          by_cases j1 : j = 1
          · rw [if_pos j1] at e9; exact absurd e9 (h7 _ _ (b1 i hi).1 (b1 i hi).2)
          · rw [if_neg j1] at e9
            have := h6 _ _ _ _ (b1 i hi).1 (b1 j hj).1 (b1 i hi).2 (b1 j hj).2 e9
            omega
theorem zPf.ext {T T' T'' : zH} {b N : Nat} {a : Nat → Nat} (h : zPf T T' N a) (hb : T b ≠ none) (n : zNw T' T'' b) : zPf T T'' N a := ⟨fun k hk => ⟨(h.1 k hk).1, by rw [n _ (h.1 k hk).2 (fun z => hb (by rw [← z]; exact (h.1 k hk).1))]; exact (h.1 k hk).2⟩, h.2⟩
theorem zsee {H T TE : zH} {b c : Nat} {v : zE} (hK : ∀ a, a ≠ b → T a = H a) (n : zNw T TE b) (hc : c ≠ b) (hv : H c = some v) : TE c = some v := by
  have h1 := (hK c hc).trans hv
  rw [n c (by rw [h1]; exact Option.some_ne_none _) hc, h1]
/-- the place of the k-th cell of the class among the cells in the order they are made -/
def zpiC (k : Nat) : Nat := if k = 1 then 57 else if k = 2 then 58 else if k = 3 then 211 else if k = 4 then 212 else if k = 5 then 213 else if k = 6 then 214 else if k = 7 then 215 else if k = 9 then 216 else if k = 219 then 217 else if k = 8 then 218 else if k < 67 then k - 10 else k - 8
def zpiD (m : Nat) : Nat := if m < 57 then m + 10 else if m = 57 then 1 else if m = 58 then 2 else if m < 211 then m + 8 else if m = 211 then 3 else if m = 212 then 4 else if m = 213 then 5 else if m = 214 then 6 else if m = 215 then 7 else if m = 216 then 9 else if m = 217 then 219 else 8
theorem zpiC_a {k : Nat} (h : 10 ≤ k) (h2 : k < 67) : zpiC k = k - 10 := by
  unfold zpiC
  rw [if_neg (by omega), if_neg (by omega), if_neg (by omega), if_neg (by omega), if_neg (by omega), if_neg (by omega), if_neg (by omega), if_neg (by omega), if_neg (by omega), if_neg (by omega), if_pos h2]
theorem zpiC_b {k : Nat} (h : 67 ≤ k) (h2 : k < 219) : zpiC k = k - 8 := by
  unfold zpiC
  rw [if_neg (by omega), if_neg (by omega), if_neg (by omega), if_neg (by omega), if_neg (by omega), if_neg (by omega), if_neg (by omega), if_neg (by omega), if_neg (by omega), if_neg (by omega), if_neg (by omega)]
theorem zpiC_s : ∀ k, k < 10 → 1 ≤ k → zpiC k < 219 ∧ zpiD (zpiC k) = k := by decide
theorem zpiC_k {k : Nat} (h : 1 ≤ k) (h2 : k < 220) : zpiC k < 219 ∧ zpiD (zpiC k) = k := by
  rcases (by omega : k < 10 ∨ k = 219 ∨ (10 ≤ k ∧ k < 67) ∨ (67 ≤ k ∧ k < 219)) with h3 | rfl | ⟨h3, h4⟩ | ⟨h3, h4⟩
  · exact zpiC_s k h3 h
  · exact ⟨by decide, rfl⟩
  · rw [zpiC_a h3 h4]
    refine ⟨by omega, ?_⟩
    unfold zpiD
    rw [if_pos (by omega)]
    omega
  · rw [zpiC_b h3 h4]
    refine ⟨by omega, ?_⟩
    unfold zpiD
    rw [if_neg (by omega), if_neg (by omega), if_neg (by omega), if_pos (by omega)]
    omega
theorem zpiC_lt {k : Nat} (h : 1 ≤ k) (h2 : k < 220) : zpiC k < 219 := (zpiC_k h h2).1
theorem zpiC_inj {i j : Nat} (hi : 1 ≤ i) (hi2 : i < 220) (hj : 1 ≤ j) (hj2 : j < 220) (h : zpiC i = zpiC j) : i = j := by
  rw [← (zpiC_k hi hi2).2, h, (zpiC_k hj hj2).2]
def zaT (q4 q5 q6 q7 : Nat) : Nat → Nat := fun k => match k with
  | 0 => q4
  | 1 => q5
  | 2 => q6
  | _ => q7
def zaB (q9 bq : Nat) : Nat → Nat := fun k => match k with
  | 0 => q9
  | _ => bq
/-- all cells in the order they are made -/
def zac (ad0 ad1 ad2 : Nat → Nat) (q1 rq : Nat) (adr : Nat → Nat → Nat) (q3 q4 q5 q6 q7 q9 bq q8 : Nat) : Nat → Nat := zcat 218 (zcat 216 (zcat 212 (zcat 211 (zcat 57 (zcat 38 (zcat 19 ad0 ad1) ad2) (zah q1 rq adr)) (fun _ => q3)) (zaT q4 q5 q6 q7)) (zaB q9 bq)) (fun _ => q8)
section ZAC
variable {ad0 ad1 ad2 : Nat → Nat} {q1 rq : Nat} {adr : Nat → Nat → Nat} {q3 q4 q5 q6 q7 q9 bq q8 : Nat}
theorem zac_0 {j : Nat} (hj : j < 19) : zac ad0 ad1 ad2 q1 rq adr q3 q4 q5 q6 q7 q9 bq q8 j = ad0 j := by
  unfold zac
  rw [zcat_l (by omega), zcat_l (by omega), zcat_l (by omega), zcat_l (by omega), zcat_l (by omega), zcat_l (by omega), zcat_l hj]
theorem zac_1 {j : Nat} (hj : j < 19) : zac ad0 ad1 ad2 q1 rq adr q3 q4 q5 q6 q7 q9 bq q8 (19 + j) = ad1 j := by
  unfold zac
  rw [zcat_l (by omega), zcat_l (by omega), zcat_l (by omega), zcat_l (by omega), zcat_l (by omega), zcat_l (by omega), zcat_r (by omega), show 19 + j - 19 = j by omega]
theorem zac_2 {j : Nat} (hj : j < 19) : zac ad0 ad1 ad2 q1 rq adr q3 q4 q5 q6 q7 q9 bq q8 (38 + j) = ad2 j := by
  unfold zac
  rw [zcat_l (by omega), zcat_l (by omega), zcat_l (by omega), zcat_l (by omega), zcat_l (by omega), zcat_r (by omega), show 38 + j - 38 = j by omega]
theorem zac_3 {s j : Nat} (hs : s < 8) (hj : j < 19) : zac ad0 ad1 ad2 q1 rq adr q3 q4 q5 q6 q7 q9 bq q8 (59 + 19 * s + j) = adr s j := by
  unfold zac
  rw [zcat_l (by omega), zcat_l (by omega), zcat_l (by omega), zcat_l (by omega), zcat_r (by omega)]
  unfold zah
  rw [if_neg (by omega), if_neg (by omega), show (59 + 19 * s + j - 57 - 2) / 19 = s by omega, show (59 + 19 * s + j - 57 - 2) % 19 = j by omega]
end ZAC
def zaxx (b : Nat) (ac : Nat → Nat) : Nat → Nat := fun k => if k = 0 then b else ac (zpiC k)
theorem zaxx_n {b k : Nat} {ac : Nat → Nat} (h : 1 ≤ k) : zaxx b ac k = ac (zpiC k) := if_neg (by omega)
/-- the numbers of a new object -/
def zg0 : zSt := fun r => match r with
  | 0 => fun j => match j with
    | 1 => -1
    | _ => 0
  | _ => fun _ => 0
section ZMK
variable {Γ : zG} {mi : zMI} {d mc ms pc k n : Nat} {lv : List (Option Value)} {st : List Value} {G : zH} {Post : zP}
/-- a river made and laid into a field of the class -/
theorem z_mkR {b jf kf : Nat} {fs : List Value} (fs' : Nat → List Value) (hcl : mi.1.cls = RX10) (d0 : decode mi.2.1 pc = .ok (.new 7, 3)) (d3 : decode mi.2.1 (pc + 3) = .ok (.dup, 1)) (d4 : decode mi.2.1 (pc + 3 + 1) = .ok (.invokespecial 9, 3)) (d7 : decode mi.2.1 (pc + 3 + 1 + 3) = .ok (.putfield jf, 3)) (hf : zFL mi.1.cls jf 10 kf true (.object RX6)) (hini : mi.1.name = "<init>") (hb : G b = some (.inr (10, fs))) (hl : kf < fs.length) (hfs : ∀ v, fs.set kf (.ref v) = fs' v) (hst : (st.map fun v => v.category).sum ≤ 6) (hk : k + 19 ≤ mc) (hn : n + 313 ≤ ms)
    (kk : ∀ T' ad, T' b = some (.inr (10, fs' (ad 0))) → zNw G T' b → zRiv T' ad zz0 → (∀ k, k < 19 → G (ad k) = none) → zX Γ mi (d + 2) mc ms (pc + 3 + 1 + 3 + 3) lv st T' (k + 19) (n + 313) Post) : zX Γ mi (d + 2) mc ms pc lv (.ref b :: st) G k n Post := by
  refine z_new (fs := [.int 0, .null, .null, .null, .null, .null]) d0 zc6 (by rw [hcl]; exact gX10_7) (by decide) (by omega) (by omega) (fun q hq => ?_)
  refine z_dup d3 rfl ?_
  refine z_callN0 (mi' := mX6_init) (mc' := 18) (ms' := 307) d4 (by rw [hcl]; exact List.mem_of_getElem? (i := 0) rfl) niX6_init iiX6_init rfl rfl nX6_init kX6_init (Nat.le_of_ble_eq_true rfl) (by
    show 1 + (1 + (st.map fun v => v.category).sum) ≤ 8
    omega) (by omega) (by omega) ?_
  refine sX6_init (zset_s _ _ _) (fun G2 ad h0 hR hf2 hN => ?_)
  have hE := zNw.ex hq hN
  have hb0 : G b ≠ none := by rw [hb]; exact Option.some_ne_none _
  have hbq : b ≠ q := fun z => hb0 (by rw [z]; exact hq)
  have hF := zNw.fr hq h0 hR hf2
  refine z_putF d7 hf hini ((hE b hb0).trans hb) rfl rfl hl ?_
  rw [← h0]
  rw [hfs]
  refine kk _ ad (zset_s _ _ _) (fun a ha hab => (zset_n hab).trans (hE a ha)) (hR.kp (fun k9 hk9 => zset_n (fun z => hb0 (by rw [← z]; exact hF k9 hk9)))) hF
theorem z_pwF {H : zH} {b j kf : Nat} {fs fs' : List Value} {v : Value} {fty : FieldType} (hd : decode mi.2.1 pc = .ok (.putfield j, 3)) (hf : zFL mi.1.cls j 10 kf true fty) (hini : mi.1.name = "<init>") (hb : H b = some (.inr (10, fs))) (hn : narrow fty v = v) (hfit : fits fty v = true) (hl9 : kf < fs.length) (hfs : fs.set kf v = fs') (kk : ∀ T', T' b = some (.inr (10, fs')) → (∀ a, a ≠ b → T' a = H a) → zX Γ mi d mc ms (pc + 3) (lv) (st) T' (k) (n) Post) : zX Γ mi d mc ms (pc) (lv) (v :: .ref b :: st) H (k) (n) Post := z_putF hd hf hini hb hn hfit hl9 (kk _ (by rw [zset_s, hfs]) (fun _ h => zset_n h))
theorem z_pw {H : zH} {b j kf : Nat} {fs fs' : List Value} {v : Value} {fty : FieldType} (hd : decode mi.2.1 pc = .ok (.putfield j, 3)) (hf : zFL mi.1.cls j 10 kf false fty) (hb : H b = some (.inr (10, fs))) (hn : narrow fty v = v) (hfit : fits fty v = true) (hl9 : kf < fs.length) (hfs : fs.set kf v = fs') (kk : ∀ T', T' b = some (.inr (10, fs')) → (∀ a, a ≠ b → T' a = H a) → zX Γ mi d mc ms (pc + 3) (lv) (st) T' (k) (n) Post) : zX Γ mi d mc ms (pc) (lv) (v :: .ref b :: st) H (k) (n) Post := z_put hd hf hb hn hfit hl9 (kk _ (by rw [zset_s, hfs]) (fun _ h => zset_n h))
end ZMK
theorem zrE_ad {ad ad' : Nat → Nat} {σ : zSt} {k : Nat} (h : ∀ j, j < 19 → ad j = ad' j) (hk : k < 19) : zrE ad σ k = zrE ad' σ k := by
  match k, hk with
  | 0, _ => simp only [zrE, h 1 (by decide), h 2 (by decide), h 3 (by decide), h 4 (by decide), h 5 (by decide)]
  | 1, _ => simp only [zrE, h 6 (by decide), h 7 (by decide), h 8 (by decide), h 9 (by decide)]
  | 2, _ => simp only [zrE, h 10 (by decide), h 11 (by decide), h 12 (by decide)]
  | 3, _ => simp only [zrE, h 13 (by decide), h 14 (by decide)]
  | 4, _ => simp only [zrE, h 15 (by decide)]
  | 5, _ => simp only [zrE, h 16 (by decide), h 17 (by decide), h 18 (by decide)]
  | k9 + 6, _ => rfl
set_option maxHeartbeats 4000000 in
set_option maxRecDepth 10000 in
theorem sX10_init {Γ : zG} {d : Nat} {G : zH} {Post : zV} {b : Nat} (hG : G b = some (.inr (10, [.null, .null, .null, .int 0, .null, .null, .null, .int 0, .null, .null]))) (hP : ∀ G1 ax bq, ax 0 = b → zCls G1 ax bq 16 (fun _ => zz0) zg0 → zNw G G1 b → Post none G1) : zM Γ (d + 3) mX10_init 219 3795 [.ref b] G Post := by
  refine zM_of pnX10 rfl (Nat.le_of_ble_eq_true rfl) rfl ?_
  have hb0 : G b ≠ none := by rw [hG]; exact Option.some_ne_none _
  refine z_aload_n dX10_init_0 rfl ?_
  refine z_objInit dX10_init_1 loX10_1 (by decide) ?_
  refine z_aload_n dX10_init_4 rfl ?_
  refine z_mkR (fun v => [.ref v, .null, .null, .int 0, .null, .null, .null, .int 0, .null, .null]) (kf := 0) rfl dX10_init_5 dX10_init_8 dX10_init_9 dX10_init_12 fX10_10 rfl hG (Nat.le_of_ble_eq_true rfl) (fun _ => rfl) (by decide) (by decide) (by decide) (fun T1 ad0 hb1 hN1 hR0 hF0 => ?_)
  refine z_aload_n dX10_init_15 rfl ?_
  refine z_mkR (fun v => [.ref (ad0 0), .ref v, .null, .int 0, .null, .null, .null, .int 0, .null, .null]) (kf := 1) rfl dX10_init_16 dX10_init_19 dX10_init_20 dX10_init_23 fX10_16 rfl hb1 (Nat.le_of_ble_eq_true rfl) (fun _ => rfl) (by decide) (by decide) (by decide) (fun T2 ad1 hb2 hN2 hR1 hF1 => ?_)
  refine z_aload_n dX10_init_26 rfl ?_
  refine z_mkR (fun v => [.ref (ad0 0), .ref (ad1 0), .ref v, .int 0, .null, .null, .null, .int 0, .null, .null]) (kf := 2) rfl dX10_init_27 dX10_init_30 dX10_init_31 dX10_init_34 fX10_19 rfl hb2 (Nat.le_of_ble_eq_true rfl) (fun _ => rfl) (by decide) (by decide) (by decide) (fun T3 ad2 hb3 hN3 hR2 hF2 => ?_)
  refine z_aload_n dX10_init_37 rfl ?_
  refine z_iconst (v := 0) dX10_init_38 (by decide) ?_
  refine z_pw (fs' := [.ref (ad0 0), .ref (ad1 0), .ref (ad2 0), .int 0, .null, .null, .null, .int 0, .null, .null]) dX10_init_39 fX10_22 hb3 rfl rfl (Nat.le_of_ble_eq_true rfl) rfl (fun T4 hb4 hK4 => ?_)
  have hN4 : zNw T3 T4 b := fun a ha hab => (hK4 a hab)
  have hx4 : T4 b ≠ none := by rw [hb4]; exact Option.some_ne_none _
  refine z_aload_n dX10_init_42 rfl ?_
  refine z_new (fs := [.null, .int 0, .int 0]) dX10_init_43 zc3 gX10_26 (by decide) (by decide) (by decide) (fun q1 hq5 => ?_)
  refine z_dup dX10_init_46 rfl ?_
  refine z_bipush (v := 8) dX10_init_47 (by decide) ?_
  refine z_callI1 (mi' := mX3_init) (mc' := 153) (ms' := 2512) dX10_init_49 lX10_28 rfl rfl nX3_init kX3_init (Nat.le_of_ble_eq_true rfl) (Nat.le_of_ble_eq_true rfl) (by decide) (by decide) ?_
  refine sX3_init (zset_s _ _ _) (fun H5 rq adr hH => ?_)
  have hE5 := zNw.ex hq5 hH.2.2.2.2.2.2.2.1
  have hbE5 := (hE5 b hx4).trans hb4
  refine z_pwF (fs' := [.ref (ad0 0), .ref (ad1 0), .ref (ad2 0), .int 0, .ref q1, .null, .null, .int 0, .null, .null]) dX10_init_52 fX10_31 rfl hbE5 rfl rfl (Nat.le_of_ble_eq_true rfl) rfl (fun T5 hb5 hK5 => ?_)
  have hN5 : zNw T4 T5 b := fun a ha hab => (hK5 a hab).trans (hE5 a ha)
  have hx5 : T5 b ≠ none := by rw [hb5]; exact Option.some_ne_none _
  refine z_aload_n dX10_init_55 rfl ?_
  refine z_new (fs := [.int 0, .int 0, .int 0]) dX10_init_56 zc5 gX10_35 (by decide) (by decide) (by decide) (fun q3 hq6 => ?_)
  refine z_dup dX10_init_59 rfl ?_
  refine z_callN0 (mi' := mX5_init) (mc' := 0) (ms' := 0) dX10_init_60 (List.mem_of_getElem? (i := 7) rfl) niX5_init iiX5_init rfl rfl nX5_init kX5_init (Nat.le_of_ble_eq_true rfl) (Nat.le_of_ble_eq_true rfl) (by decide) (by decide) ?_
  refine sX5_init (zset_s _ _ _) (fun H6 hC6 => ?_)
  have hE6 := zCo.ex hq6 hC6
  have hbE6 := (hE6 b hx5).trans hb5
  refine z_pwF (fs' := [.ref (ad0 0), .ref (ad1 0), .ref (ad2 0), .int 0, .ref q1, .ref q3, .null, .int 0, .null, .null]) dX10_init_63 fX10_38 rfl hbE6 rfl rfl (Nat.le_of_ble_eq_true rfl) rfl (fun T6 hb6 hK6 => ?_)
  have hN6 : zNw T5 T6 b := fun a ha hab => (hK6 a hab).trans (hE6 a ha)
  have hx6 : T6 b ≠ none := by rw [hb6]; exact Option.some_ne_none _
  refine z_aload_n dX10_init_66 rfl ?_
  refine z_new (fs := [.null, .int 0, .null, .null, .int 0, .int 0]) dX10_init_67 zc9 gX10_42 (by decide) (by decide) (by decide) (fun q4 hq7 => ?_)
  refine z_dup dX10_init_70 rfl ?_
  refine z_callN0 (mi' := mX9_init) (mc' := 3) (ms' := 300) dX10_init_71 (List.mem_of_getElem? (i := 8) rfl) niX9_init iiX9_init rfl rfl nX9_init kX9_init (Nat.le_of_ble_eq_true rfl) (Nat.le_of_ble_eq_true rfl) (by decide) (by decide) ?_
  refine sX9_init (zset_s _ _ _) (fun H7 q5 q6 q7 hC7 => ?_)
  have hE7 := zCo.ex hq7 hC7
  have hbE7 := (hE7 b hx6).trans hb6
  refine z_pwF (fs' := [.ref (ad0 0), .ref (ad1 0), .ref (ad2 0), .int 0, .ref q1, .ref q3, .ref q4, .int 0, .null, .null]) dX10_init_74 fX10_45 rfl hbE7 rfl rfl (Nat.le_of_ble_eq_true rfl) rfl (fun T7 hb7 hK7 => ?_)
  have hN7 : zNw T6 T7 b := fun a ha hab => (hK7 a hab).trans (hE7 a ha)
  have hx7 : T7 b ≠ none := by rw [hb7]; exact Option.some_ne_none _
  refine z_aload_n dX10_init_77 rfl ?_
  refine z_iconst (v := (-1)) dX10_init_78 (by decide) ?_
  refine z_pw (fs' := [.ref (ad0 0), .ref (ad1 0), .ref (ad2 0), .int 0, .ref q1, .ref q3, .ref q4, .int (-1), .null, .null]) dX10_init_79 fX10_49 hb7 rfl rfl (Nat.le_of_ble_eq_true rfl) rfl (fun T8 hb8 hK8 => ?_)
  have hN8 : zNw T7 T8 b := fun a ha hab => (hK8 a hab)
  have hx8 : T8 b ≠ none := by rw [hb8]; exact Option.some_ne_none _
  refine z_aload_n dX10_init_82 rfl ?_
  refine z_new (fs := [.null, .int 0, .int 0, .int 0]) dX10_init_83 zc7 gX10_53 (by decide) (by decide) (by decide) (fun q9 hq9 => ?_)
  refine z_dup dX10_init_86 rfl ?_
  refine z_callI0 (mi' := mJ4_init_da8c8) (mc' := 1) (ms' := 16) dX10_init_87 lX10_55 rfl rfl nJ4_init_da8c8 kJ4_init_da8c8 (Nat.le_of_ble_eq_true rfl) (Nat.le_of_ble_eq_true rfl) (by decide) (by decide) ?_
  refine sJ4_init (zset_s _ _ _) (fun H9 bq hC9 => ?_)
  have hE9 := zCo.ex hq9 hC9
  have hbE9 := (hE9 b hx8).trans hb8
  refine z_pwF (fs' := [.ref (ad0 0), .ref (ad1 0), .ref (ad2 0), .int 0, .ref q1, .ref q3, .ref q4, .int (-1), .ref q9, .null]) dX10_init_90 fX10_56 rfl hbE9 rfl rfl (Nat.le_of_ble_eq_true rfl) rfl (fun T9 hb9 hK9 => ?_)
  have hN9 : zNw T8 T9 b := fun a ha hab => (hK9 a hab).trans (hE9 a ha)
  have hx9 : T9 b ≠ none := by rw [hb9]; exact Option.some_ne_none _
  refine z_aload_n dX10_init_93 rfl ?_
  refine z_bipush (v := 12) dX10_init_94 (by decide) ?_
  refine z_newa_i (N := 12) dX10_init_96 (by decide) (by decide) (by decide) (by decide) (by decide) (fun q8 hq10 => ?_)
  have hE10 : ∀ a, T9 a ≠ none → zset T9 q8 (.inl (.int, (12, .inl (fun _ => 0)))) a = T9 a := fun a ha => zset_n (fun z => ha (by rw [z]; exact hq10))
  have hbE10 := (hE10 b hx9).trans hb9
  refine z_pwF (fs' := [.ref (ad0 0), .ref (ad1 0), .ref (ad2 0), .int 0, .ref q1, .ref q3, .ref q4, .int (-1), .ref q9, .ref q8]) dX10_init_98 fX10_62 rfl hbE10 rfl rfl (Nat.le_of_ble_eq_true rfl) rfl (fun TE hb10 hK10 => ?_)
  have hN10 : zNw T9 TE b := fun a ha hab => (hK10 a hab).trans (hE10 a ha)
  have hx10 : TE b ≠ none := by rw [hb10]; exact Option.some_ne_none _
  refine z_vreturn (mi := mX10_init) dX10_init_101 rfl (by decide) (by decide) ?_
  have P0 := zPf.riv hR0 hF0
  have P1 := zPf.riv hR1 hF1
  have hx1 : T1 b ≠ none := by rw [hb1]; exact Option.some_ne_none _
  have hx2 : T2 b ≠ none := by rw [hb2]; exact Option.some_ne_none _
  have hx3 : T3 b ≠ none := by rw [hb3]; exact Option.some_ne_none _
  have P2 := (zPf.riv hR2 hF2).ext hx2 hN4
  have P5 := zPf.hi hq5 hH (fun a _ h => hK5 a h) hx4
  have hqb3 : q3 ≠ b := fun z => hx5 (by rw [← z]; exact hq6)
  have hqb8 : q8 ≠ b := fun z => hx9 (by rw [← z]; exact hq10)
  have P6 : zPf T5 T6 1 (fun _ => q3) := zPf.one hq6 (by rw [hK6 q3 hqb3, hC6.1]; exact Option.some_ne_none _)
  have P7 : zPf T6 T8 4 (zaT q4 q5 q6 q7) := by
    refine (zPf.co (N := 4) (ad := zaT q4 q5 q6 q7) hq7 hC7 (fun a _ h => hK7 a h) hx6 (fun k hk => ?_) (hC7.ap (fun i => i) (fun i hi e => by rw [e]; rfl) (fun i k hi e => ?_) (fun i _ j _ e => e))).ext hx6 hN8
    · match k, hk with
      | 0, _ => exact Or.inl rfl
      | 1, _ => exact Or.inr ⟨_, List.mem_of_getElem? (i := 0) rfl, rfl⟩
      | 2, _ => exact Or.inr ⟨_, List.mem_of_getElem? (i := 1) rfl, rfl⟩
      | 3, _ => exact Or.inr ⟨_, List.mem_of_getElem? (i := 2) rfl, rfl⟩
      | k9 + 4, h => exact absurd h (by omega)
    · match k, i, e, hi with
      | 0, _, rfl, _ => rfl
      | 1, _, rfl, _ => rfl
      | 2, _, rfl, _ => rfl
      | k9 + 3, _, rfl, h => exact absurd h (by omega)
  have P9 : zPf T8 T9 2 (zaB q9 bq) := by
    refine zPf.co (N := 2) (ad := zaB q9 bq) hq9 hC9 (fun a _ h => hK9 a h) hx8 (fun k hk => ?_) (hC9.ap (fun i => i) (fun i hi e => by rw [e]; rfl) (fun i k hi e => ?_) (fun i _ j _ e => e))
    · match k, hk with
      | 0, _ => exact Or.inl rfl
      | 1, _ => exact Or.inr ⟨_, List.mem_of_getElem? (i := 0) rfl, rfl⟩
      | k9 + 2, h => exact absurd h (by omega)
    · match k, i, e, hi with
      | 0, _, rfl, _ => rfl
      | k9 + 1, _, rfl, h => exact absurd h (by omega)
  have P10 : zPf T9 TE 1 (fun _ => q8) := zPf.one hq10 (by rw [hK10 q8 hqb8, zset_s]; exact Option.some_ne_none _)
  have n9 := hN10
  have n8 := hN9.tr n9
  have n7 := hN8.tr n8
  have n6 := hN7.tr n7
  have n5 := hN6.tr n6
  have n4 := hN5.tr n5
  have n3 := hN4.tr n4
  have n2 := hN3.tr n3
  have n1 := hN2.tr n2
  have m2 := hN1.tr hN2
  have m4 := m2.tr (hN3.tr hN4)
  have m5 := m4.tr hN5
  have m6 := m5.tr hN6
  have m8 := m6.tr (hN7.tr hN8)
  have m9 := m8.tr hN9
  have hC1 : zPf G T2 38 (zcat 19 ad0 ad1) := P0.cat P1 hN1 hN2 hb0 hx1
  have hC2 : zPf G T4 57 (zcat 38 (zcat 19 ad0 ad1) ad2) := hC1.cat P2 m2 (hN3.tr hN4) hb0 hx2
  have hC3 : zPf G T5 211 _ := hC2.cat P5 m4 hN5 hb0 hx4
  have hC4 : zPf G T6 212 _ := hC3.cat P6 m5 hN6 hb0 hx5
  have hC5 : zPf G T8 216 _ := hC4.cat P7 m6 (hN7.tr hN8) hb0 hx6
  have hC8 : zPf G T9 218 _ := hC5.cat P9 m8 hN9 hb0 hx8
  have hCA : zPf G TE 219 (zac ad0 ad1 ad2 q1 rq adr q3 q4 q5 q6 q7 q9 bq q8) := hC8.cat P10 m9 hN10 hb0 hx9
  have hcb : ∀ k, k < 219 → zac ad0 ad1 ad2 q1 rq adr q3 q4 q5 q6 q7 q9 bq q8 k ≠ b := fun k hk z => hb0 (by rw [← z]; exact (hCA.1 k hk).1)
  obtain ⟨ax, hax⟩ : ∃ ax, ax = zaxx b (zac ad0 ad1 ad2 q1 rq adr q3 q4 q5 q6 q7 q9 bq q8) := ⟨_, rfl⟩
  have hbq : zac ad0 ad1 ad2 q1 rq adr q3 q4 q5 q6 q7 q9 bq q8 (zpiC 219) = bq := rfl
  have e0 : ax 0 = b := by rw [hax]; rfl
  have hn : ∀ k, 1 ≤ k → ax k = zac ad0 ad1 ad2 q1 rq adr q3 q4 q5 q6 q7 q9 bq q8 (zpiC k) := fun k hk => by rw [hax]; exact zaxx_n hk
  have hap : zApart ax 220 := by
    intro i j hi hj e
    by_cases i0 : i = 0
    · by_cases j0 : j = 0
      · omega
      · rw [i0, e0, hn j (by omega)] at e
        exact absurd e.symm (hcb _ (zpiC_lt (by omega) hj))
    · by_cases j0 : j = 0
      · rw [j0, e0, hn i (by omega)] at e
        exact absurd e (hcb _ (zpiC_lt (by omega) hi))
      · rw [hn i (by omega), hn j (by omega)] at e
        exact zpiC_inj (by omega) hi (by omega) hj (hCA.2 _ _ (zpiC_lt (by omega) hi) (zpiC_lt (by omega) hj) e)
  have r0 : ∀ j, j < 19 → zar ax 0 j = ad0 j := fun j hj => by
    show ax (10 + 19 * 0 + j) = _
    rw [hn _ (by omega), zpiC_a (by omega) (by omega), show 10 + 19 * 0 + j - 10 = j by omega]
    exact zac_0 hj
  have r1 : ∀ j, j < 19 → zar ax 1 j = ad1 j := fun j hj => by
    show ax (10 + 19 * 1 + j) = _
    rw [hn _ (by omega), zpiC_a (by omega) (by omega), show 10 + 19 * 1 + j - 10 = 19 + j by omega]
    exact zac_1 hj
  have r2 : ∀ j, j < 19 → zar ax 2 j = ad2 j := fun j hj => by
    show ax (10 + 19 * 2 + j) = _
    rw [hn _ (by omega), zpiC_a (by omega) (by omega), show 10 + 19 * 2 + j - 10 = 38 + j by omega]
    exact zac_2 hj
  have r3 : ∀ s j, s < 8 → j < 19 → zar ax (3 + s) j = adr s j := fun s j hs hj => by
    show ax (10 + 19 * (3 + s) + j) = _
    rw [hn _ (by omega), zpiC_b (by omega) (by omega), show 10 + 19 * (3 + s) + j - 8 = 59 + 19 * s + j by omega]
    exact zac_3 hs hj
  have kR : ∀ (T T9 : zH) (ad ad' : Nat → Nat), zRiv T ad zz0 → zNw T T9 b → (∀ k, k < 19 → ad k ≠ b) → (∀ j, j < 19 → ad' j = ad j) → zRiv T9 ad' zz0 := by
    intro T T9 ad ad' hR hn9 hne hq
    refine ⟨fun k hk => ?_, fun i j hi hj e => hR.2 i j hi hj (by rw [← hq i hi, ← hq j hj]; exact e)⟩
    rw [hq k hk, hn9 _ (hR.ne hk) (hne k hk), hR.1 k hk]
    exact congrArg some (zrE_ad (fun j hj => (hq j hj).symm) hk)
  refine hP TE ax bq e0 ⟨fun k hk => ?_, fun r hr => ?_, fun i j hi hj e => hap i j (by omega) (by omega) e, ?_, fun k hk z => ?_⟩ (hN1.tr n1)
  · match k, hk with
    | 0, _ =>
      rw [e0, hb10]
      simp only [zclE, r0 0 (by decide), r1 0 (by decide), r2 0 (by decide)]
      rw [hn 1 (by decide), hn 3 (by decide), hn 4 (by decide), hn 9 (by decide), hn 8 (by decide)]
      rfl
    | 1, _ =>
      rw [hn 1 (by decide)]
      refine (zsee hK5 n5 (hcb 57 (by decide)) hH.1).trans ?_
      simp only [zclE]
      rw [hn 2 (by decide)]
      rfl
    | 2, _ =>
      rw [hn 2 (by decide)]
      refine (zsee hK5 n5 (hcb 58 (by decide)) hH.2.1).trans ?_
      simp only [zclE]
      refine congrArg some (congrArg Sum.inl ?_)
      refine congrArg (fun f => (((.object RX6, (8, .inr (.inr (.inr (.inr f))))) : FieldType × vp_A))) (funext fun j => ?_)
      unfold zring
      by_cases hj : j < 8
      · rw [if_pos hj, if_pos hj, r3 j 0 hj (by decide)]
      · rw [if_neg hj, if_neg hj]
    | 3, _ =>
      rw [hn 3 (by decide)]
      exact zsee hK6 n6 (hcb 211 (by decide)) hC6.1
    | 4, _ =>
      rw [hn 4 (by decide)]
      refine (zsee hK7 n7 (hcb 212 (by decide)) hC7.1).trans ?_
      simp only [zclE]
      rw [hn 5 (by decide), hn 6 (by decide), hn 7 (by decide)]
      rfl
    | 5, _ =>
      rw [hn 5 (by decide)]
      exact zsee hK7 n7 (hcb 213 (by decide)) (hC7.at 0 rfl).1
    | 6, _ =>
      rw [hn 6 (by decide)]
      exact zsee hK7 n7 (hcb 214 (by decide)) (hC7.at 1 rfl).1
    | 7, _ =>
      rw [hn 7 (by decide)]
      exact zsee hK7 n7 (hcb 215 (by decide)) (hC7.at 2 rfl).1
    | 8, _ =>
      rw [hn 8 (by decide)]
      exact zsee hK10 zNw.rf (hcb 218 (by decide)) (zset_s _ _ _)
    | 9, _ =>
      rw [hn 9 (by decide)]
      exact zsee hK9 n9 (hcb 216 (by decide)) hC9.1
    | k9 + 10, h => exact absurd h (by omega)
  · rcases (by omega : r = 0 ∨ r = 1 ∨ r = 2 ∨ 3 ≤ r) with rfl | rfl | rfl | h3
    · exact kR T1 TE ad0 _ hR0 n1 (fun k hk z => hb0 (by rw [← z]; exact hF0 k hk)) r0
    · exact kR T2 TE ad1 _ hR1 n2 (fun k hk z => hx1 (by rw [← z]; exact hF1 k hk)) r1
    · exact kR T3 TE ad2 _ hR2 n3 (fun k hk z => hx2 (by rw [← z]; exact hF2 k hk)) r2
    · obtain ⟨s, rfl⟩ : ∃ s, r = 3 + s := ⟨r - 3, by omega⟩
      have hs : s < 8 := by omega
      have hne : ∀ k, k < 19 → adr s k ≠ b := fun k hk z => by
        rw [← r3 s k hs hk] at z
        have h9 := hap _ _ (by omega) (by omega) (show ax (10 + 19 * (3 + s) + k) = ax 0 from z.trans e0.symm)
        omega
      exact kR T5 TE (adr s) _ ((hH.2.2.2.1 s hs).kp (fun k hk => hK5 _ (hne k hk))) n5 hne (fun j hj => r3 s j hs hj)
  · exact zsee hK9 n9 (hcb 217 (by decide)) (hC9.at 0 rfl).1
  · have h9 := hap 219 k (by decide) (by omega) (by rw [hn 219 (by decide), hbq]; exact z)
    omega
