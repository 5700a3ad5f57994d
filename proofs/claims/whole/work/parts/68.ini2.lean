/-- addresses one after another -/
def zcat (N : Nat) (a c : Nat → Nat) : Nat → Nat := fun k => if k < N then a k else c (k - N)
theorem zcat_l {N k : Nat} {a c : Nat → Nat} (h : k < N) : zcat N a c k = a k := if_pos h
theorem zcat_r {N k : Nat} {a c : Nat → Nat} (h : N ≤ k) : zcat N a c k = c (k - N) := if_neg (Nat.not_lt.mpr h)
/-- cells made between two heaps, apart -/
def zPf (T T' : zH) (N : Nat) (a : Nat → Nat) : Prop := (∀ k, k < N → T (a k) = none ∧ T' (a k) ≠ none) ∧ zApart a N
theorem zPf.cat {T T' T'' : zH} {b N M : Nat} {a c : Nat → Nat} (h : zPf T T' N a) (h2 : zPf T' T'' M c) (n1 : zNw T T' b) (n2 : zNw T' T'' b) (hb : T b ≠ none) (hb' : T' b ≠ none) : zPf T T'' (N + M) (zcat N a c) := by
  have hab : ∀ k, k < N → a k ≠ b := fun k hk z => hb (by rw [← z]; exact (h.1 k hk).1)
  have hcb : ∀ k, k < M → c k ≠ b := fun k hk z => hb' (by rw [← z]; exact (h2.1 k hk).1)
  have hcT : ∀ k, k < M → T (c k) = none := fun k hk => Classical.byContradiction fun z => by
    have := n1 _ z (hcb k hk)
    rw [(h2.1 k hk).1] at this
    exact z this.symm
  refine ⟨fun k hk => ?_, fun i j hi hj e => ?_⟩
  · by_cases e : k < N
    · rw [zcat_l e]
      exact ⟨(h.1 k e).1, by rw [n2 _ (h.1 k e).2 (hab k e)]; exact (h.1 k e).2⟩
    · rw [zcat_r (Nat.le_of_not_lt e)]
      exact ⟨hcT _ (by omega), (h2.1 _ (by omega)).2⟩
  · by_cases ei : i < N
    · by_cases ej : j < N
      · rw [zcat_l ei, zcat_l ej] at e
        exact h.2 i j ei ej e
      · rw [zcat_l ei, zcat_r (Nat.le_of_not_lt ej)] at e
        exact absurd (h2.1 (j - N) (by omega)).1 (by rw [← e]; exact (h.1 i ei).2)
    · by_cases ej : j < N
      · rw [zcat_r (Nat.le_of_not_lt ei), zcat_l ej] at e
        exact absurd (h2.1 (i - N) (by omega)).1 (by rw [e]; exact (h.1 j ej).2)
      · rw [zcat_r (Nat.le_of_not_lt ei), zcat_r (Nat.le_of_not_lt ej)] at e
        have := h2.2 _ _ (by omega) (by omega) e
        omega
theorem zPf.riv {T T' : zH} {ad : Nat → Nat} {σ : zSt} (h : zRiv T' ad σ) (hf : ∀ k, k < 19 → T (ad k) = none) : zPf T T' 19 ad := ⟨fun k hk => ⟨hf k hk, h.ne hk⟩, h.2⟩
theorem zPf.one {T T' : zH} {q : Nat} (h : T q = none) (h' : T' q ≠ none) : zPf T T' 1 (fun _ => q) := ⟨fun _ _ => ⟨h, h'⟩, fun i j hi hj _ => by omega⟩
theorem zPf.co {T G T' : zH} {b q ci N : Nat} {e : zE} {fs : List Value} {qs : List (Nat × zE)} {ad : Nat → Nat} (hq : T q = none) (hC : zCo (zset T q e) G q ci fs qs) (hT : ∀ a, G a ≠ none → a ≠ b → T' a = G a) (hb : T b ≠ none) (hqs : ∀ k, k < N → ad k = q ∨ ∃ p, p ∈ qs ∧ ad k = p.1) (ha : zApart ad N) : zPf T T' N ad := by
  refine ⟨fun k hk => ?_, ha⟩
  rcases hqs k hk with h | ⟨p, hp, h⟩
  · have hne : q ≠ b := fun z => hb (by rw [← z]; exact hq)
    have h1 : G q ≠ none := by rw [hC.1]; exact Option.some_ne_none _
    rw [h]
    exact ⟨hq, by rw [hT q h1 hne]; exact h1⟩
  · obtain ⟨h1, h2⟩ := hC.2.1 p hp
    have hpq : p.1 ≠ q := fun z => by
      rw [z, zset_s] at h2
      cases h2
    rw [zset_n hpq] at h2
    have h3 : G p.1 ≠ none := by rw [h1]; exact Option.some_ne_none _
    rw [h]
    exact ⟨h2, by rw [hT p.1 h3 (fun z => hb (by rw [← z]; exact h2))]; exact h3⟩
theorem zCo.ex {T G : zH} {q ci : Nat} {e : zE} {fs : List Value} {qs : List (Nat × zE)} (hq : T q = none) (hC : zCo (zset T q e) G q ci fs qs) : ∀ a, T a ≠ none → G a = T a := fun a ha => by
  have hne : a ≠ q := fun z => ha (by rw [z]; exact hq)
  have h1 : zset T q e a = T a := zset_n hne
  rw [hC.2.2.2.1 a (by rw [h1]; exact ha) hne, h1]
/-- the History's cells in a row: the object, its ring, the rivers -/
def zah (q rq : Nat) (adr : Nat → Nat → Nat) : Nat → Nat := fun k => if k = 0 then q else if k = 1 then rq else adr ((k - 2) / 19) ((k - 2) % 19)
theorem zPf.hi {T G T' : zH} {b q rq : Nat} {e : zE} {adr : Nat → Nat → Nat} (hq : T q = none) (hH : zHi (zset T q e) G q rq adr 8) (hT : ∀ a, G a ≠ none → a ≠ b → T' a = G a) (hb : T b ≠ none) : zPf T T' 154 (zah q rq adr) := by
  obtain ⟨h1, h2, h3, h4, h5, h6, h7, h8, h9⟩ := hH
  have hqr : rq ≠ q := fun z => by
    rw [z, zset_s] at h3
    cases h3
  have hra : ∀ s j, s < 8 → j < 19 → adr s j ≠ q := fun s j hs hj z => by
    have := h5 s j hs hj
    rw [z, zset_s] at this
    cases this
  have key : ∀ c, T c = none → G c ≠ none → T c = none ∧ T' c ≠ none := fun c hc hG => ⟨hc, by rw [hT c hG (fun z => hb (by rw [← z]; exact hc))]; exact hG⟩
  have hr0 : T rq = none := by rw [zset_n hqr] at h3; exact h3
  refine ⟨fun k hk => ?_, fun i j hi hj e9 => ?_⟩
  · unfold zah
    by_cases k0 : k = 0
    · rw [if_pos k0]; exact key q hq (by rw [h1]; exact Option.some_ne_none _)
    · rw [if_neg k0]
      by_cases k1 : k = 1
      · rw [if_pos k1]; exact key rq hr0 (by rw [h2]; exact Option.some_ne_none _)
      · rw [if_neg k1]
        have a1 : (k - 2) / 19 < 8 := by omega
        have a2 : (k - 2) % 19 < 19 := by omega
        have a3 := h5 _ _ a1 a2
        rw [zset_n (hra _ _ a1 a2)] at a3
        exact key _ a3 ((h4 _ a1).ne a2)
  · unfold zah at e9
    have b1 : ∀ k, k < 154 → (k - 2) / 19 < 8 ∧ (k - 2) % 19 < 19 := fun k _ => by omega
    by_cases i0 : i = 0
    · by_cases j0 : j = 0
      · omega
      · rw [if_pos i0, if_neg j0] at e9
        by_cases j1 : j = 1
        · rw [if_pos j1] at e9; exact absurd e9.symm hqr
        · rw [if_neg j1] at e9; exact absurd e9.symm (hra _ _ (b1 j hj).1 (b1 j hj).2)
    · rw [if_neg i0] at e9
      by_cases i1 : i = 1
      · rw [if_pos i1] at e9
        by_cases j0 : j = 0
        · rw [if_pos j0] at e9; exact absurd e9 hqr
        · rw [if_neg j0] at e9
          by_cases j1 : j = 1
          · omega
          · rw [if_neg j1] at e9; exact absurd e9.symm (h7 _ _ (b1 j hj).1 (b1 j hj).2)
      · rw [if_neg i1] at e9
        by_cases j0 : j = 0
        · rw [if_pos j0] at e9; exact absurd e9 (hra _ _ (b1 i hi).1 (b1 i hi).2)
        · rw [if_neg j0] at e9
          by_cases j1 : j = 1
          · rw [if_pos j1] at e9; exact absurd e9 (h7 _ _ (b1 i hi).1 (b1 i hi).2)
          · rw [if_neg j1] at e9
            have := h6 _ _ _ _ (b1 i hi).1 (b1 j hj).1 (b1 i hi).2 (b1 j hj).2 e9
            omega
/-- the numbers of a new object -/
def zg0 : zSt := fun r => match r with
  | 0 => fun j => match j with
    | 1 => -1
    | _ => 0
  | _ => fun _ => 0
section ZMK
variable {Γ : zG} {mi : zMI} {d mc ms pc k n : Nat} {lv : List (Option Value)} {st : List Value} {G : zH} {Post : zP}
/-- a river made and laid into a field of the class -/
theorem z_mkR {b jf kf : Nat} {fs : List Value} (fs' : Nat → List Value) (hcl : mi.1.cls = RX10) (d0 : decode mi.2.1 pc = .ok (.new 7, 3)) (d3 : decode mi.2.1 (pc + 3) = .ok (.dup, 1)) (d4 : decode mi.2.1 (pc + 3 + 1) = .ok (.invokespecial 9, 3)) (d7 : decode mi.2.1 (pc + 3 + 1 + 3) = .ok (.putfield jf, 3)) (hf : zFL mi.1.cls jf 10 kf true (.object RX6)) (hini : mi.1.name = "<init>") (hb : G b = some (.inr (10, fs))) (hl : kf < fs.length) (hfs : ∀ v, fs.set kf (.ref v) = fs' v) (hst : (st.map fun v => v.category).sum ≤ 6) (hk : k + 19 ≤ mc) (hn : n + 313 ≤ ms)
    (kk : ∀ T' ad, T' b = some (.inr (10, fs' (ad 0))) → zNw G T' b → zRiv T' ad zz0 → (∀ k, k < 19 → G (ad k) = none) → zX Γ mi (d + 2) mc ms (pc + 3 + 1 + 3 + 3) lv st T' (k + 19) (n + 313) Post) : zX Γ mi (d + 2) mc ms pc lv (.ref b :: st) G k n Post := by
  refine z_new (fs := [.int 0, .null, .null, .null, .null, .null]) d0 zc6 (by rw [hcl]; exact gX10_7) (by decide) (by omega) (by omega) (fun q hq => ?_)
  refine z_dup d3 rfl ?_
  refine z_callN0 (mi' := mX6_init) (mc' := 18) (ms' := 307) d4 (by rw [hcl]; exact List.mem_of_getElem? (i := 0) rfl) niX6_init iiX6_init rfl rfl nX6_init kX6_init (Nat.le_of_ble_eq_true rfl) (by
    show 1 + (1 + (st.map fun v => v.category).sum) ≤ 8
    omega) (by omega) (by omega) ?_
  refine sX6_init (zset_s _ _ _) (fun G2 ad h0 hR hf2 hN => ?_)
  have hE := zNw.ex hq hN
  have hb0 : G b ≠ none := by rw [hb]; exact Option.some_ne_none _
  have hbq : b ≠ q := fun z => hb0 (by rw [z]; exact hq)
  have hF := zNw.fr hq h0 hR hf2
  refine z_putF d7 hf hini ((hE b hb0).trans hb) rfl rfl hl ?_
  rw [← h0]
  rw [hfs]
  refine kk _ ad (zset_s _ _ _) (fun a ha hab => (zset_n hab).trans (hE a ha)) (hR.kp (fun k9 hk9 => zset_n (fun z => hb0 (by rw [← z]; exact hF k9 hk9)))) hF
theorem z_pwF {H : zH} {b j kf : Nat} {fs fs' : List Value} {v : Value} {fty : FieldType} (hd : decode mi.2.1 pc = .ok (.putfield j, 3)) (hf : zFL mi.1.cls j 10 kf true fty) (hini : mi.1.name = "<init>") (hb : H b = some (.inr (10, fs))) (hn : narrow fty v = v) (hfit : fits fty v = true) (hl9 : kf < fs.length) (hfs : fs.set kf v = fs') (kk : ∀ T', T' b = some (.inr (10, fs')) → (∀ a, a ≠ b → T' a = H a) → zX Γ mi d mc ms (pc + 3) (lv) (st) T' (k) (n) Post) : zX Γ mi d mc ms (pc) (lv) (v :: .ref b :: st) H (k) (n) Post := z_putF hd hf hini hb hn hfit hl9 (kk _ (by rw [zset_s, hfs]) (fun _ h => zset_n h))
theorem z_pw {H : zH} {b j kf : Nat} {fs fs' : List Value} {v : Value} {fty : FieldType} (hd : decode mi.2.1 pc = .ok (.putfield j, 3)) (hf : zFL mi.1.cls j 10 kf false fty) (hb : H b = some (.inr (10, fs))) (hn : narrow fty v = v) (hfit : fits fty v = true) (hl9 : kf < fs.length) (hfs : fs.set kf v = fs') (kk : ∀ T', T' b = some (.inr (10, fs')) → (∀ a, a ≠ b → T' a = H a) → zX Γ mi d mc ms (pc + 3) (lv) (st) T' (k) (n) Post) : zX Γ mi d mc ms (pc) (lv) (v :: .ref b :: st) H (k) (n) Post := z_put hd hf hb hn hfit hl9 (kk _ (by rw [zset_s, hfs]) (fun _ h => zset_n h))
end ZMK
set_option maxHeartbeats 4000000 in
set_option maxRecDepth 10000 in
theorem TEMP {Γ : zG} {d : Nat} {G : zH} {Post : zV} {b : Nat} (hG : G b = some (.inr (10, [.null, .null, .null, .int 0, .null, .null, .null, .int 0, .null, .null]))) (hP0 : False) : zM Γ (d + 3) mX10_init 219 3795 [.ref b] G Post := by
  refine zM_of pnX10 rfl (Nat.le_of_ble_eq_true rfl) rfl ?_
  have hb0 : G b ≠ none := by rw [hG]; exact Option.some_ne_none _
  refine z_aload_n dX10_init_0 rfl ?_
  refine z_objInit dX10_init_1 loX10_1 (by decide) ?_
  refine z_aload_n dX10_init_4 rfl ?_
  refine z_mkR (fun v => [.ref v, .null, .null, .int 0, .null, .null, .null, .int 0, .null, .null]) (kf := 0) rfl dX10_init_5 dX10_init_8 dX10_init_9 dX10_init_12 fX10_10 rfl hG (Nat.le_of_ble_eq_true rfl) (fun _ => rfl) (by decide) (by decide) (by decide) (fun T1 ad0 hb1 hN1 hR0 hF0 => ?_)
  refine z_aload_n dX10_init_15 rfl ?_
  refine z_mkR (fun v => [.ref (ad0 0), .ref v, .null, .int 0, .null, .null, .null, .int 0, .null, .null]) (kf := 1) rfl dX10_init_16 dX10_init_19 dX10_init_20 dX10_init_23 fX10_16 rfl hb1 (Nat.le_of_ble_eq_true rfl) (fun _ => rfl) (by decide) (by decide) (by decide) (fun T2 ad1 hb2 hN2 hR1 hF1 => ?_)
  refine z_aload_n dX10_init_26 rfl ?_
  refine z_mkR (fun v => [.ref (ad0 0), .ref (ad1 0), .ref v, .int 0, .null, .null, .null, .int 0, .null, .null]) (kf := 2) rfl dX10_init_27 dX10_init_30 dX10_init_31 dX10_init_34 fX10_19 rfl hb2 (Nat.le_of_ble_eq_true rfl) (fun _ => rfl) (by decide) (by decide) (by decide) (fun T3 ad2 hb3 hN3 hR2 hF2 => ?_)
  refine z_aload_n dX10_init_37 rfl ?_
  refine z_iconst (v := 0) dX10_init_38 (by decide) ?_
  refine z_pw (fs' := [.ref (ad0 0), .ref (ad1 0), .ref (ad2 0), .int 0, .null, .null, .null, .int 0, .null, .null]) dX10_init_39 fX10_22 hb3 rfl rfl (Nat.le_of_ble_eq_true rfl) rfl (fun T4 hb4 hK4 => ?_)
  have hN4 : zNw T3 T4 b := fun a ha hab => (hK4 a hab)
  have hx4 : T4 b ≠ none := by rw [hb4]; exact Option.some_ne_none _
  refine z_aload_n dX10_init_42 rfl ?_
  refine z_new (fs := [.null, .int 0, .int 0]) dX10_init_43 zc3 gX10_26 (by decide) (by decide) (by decide) (fun q1 hq5 => ?_)
  refine z_dup dX10_init_46 rfl ?_
  refine z_bipush (v := 8) dX10_init_47 (by decide) ?_
  refine z_callI1 (mi' := mX3_init) (mc' := 153) (ms' := 2512) dX10_init_49 lX10_28 rfl rfl nX3_init kX3_init (Nat.le_of_ble_eq_true rfl) (Nat.le_of_ble_eq_true rfl) (by decide) (by decide) ?_
  refine sX3_init (zset_s _ _ _) (fun H5 rq adr hH => ?_)
  have hE5 := zNw.ex hq5 hH.2.2.2.2.2.2.2.1
  have hbE5 := (hE5 b hx4).trans hb4
  refine z_pwF (fs' := [.ref (ad0 0), .ref (ad1 0), .ref (ad2 0), .int 0, .ref q1, .null, .null, .int 0, .null, .null]) dX10_init_52 fX10_31 rfl hbE5 rfl rfl (Nat.le_of_ble_eq_true rfl) rfl (fun T5 hb5 hK5 => ?_)
  have hN5 : zNw T4 T5 b := fun a ha hab => (hK5 a hab).trans (hE5 a ha)
  have hx5 : T5 b ≠ none := by rw [hb5]; exact Option.some_ne_none _
  refine z_aload_n dX10_init_55 rfl ?_
  refine z_new (fs := [.int 0, .int 0, .int 0]) dX10_init_56 zc5 gX10_35 (by decide) (by decide) (by decide) (fun q3 hq6 => ?_)
  refine z_dup dX10_init_59 rfl ?_
  refine z_callN0 (mi' := mX5_init) (mc' := 0) (ms' := 0) dX10_init_60 (List.mem_of_getElem? (i := 7) rfl) niX5_init iiX5_init rfl rfl nX5_init kX5_init (Nat.le_of_ble_eq_true rfl) (Nat.le_of_ble_eq_true rfl) (by decide) (by decide) ?_
  refine sX5_init (zset_s _ _ _) (fun H6 hC6 => ?_)
  have hE6 := zCo.ex hq6 hC6
  have hbE6 := (hE6 b hx5).trans hb5
  refine z_pwF (fs' := [.ref (ad0 0), .ref (ad1 0), .ref (ad2 0), .int 0, .ref q1, .ref q3, .null, .int 0, .null, .null]) dX10_init_63 fX10_38 rfl hbE6 rfl rfl (Nat.le_of_ble_eq_true rfl) rfl (fun T6 hb6 hK6 => ?_)
  have hN6 : zNw T5 T6 b := fun a ha hab => (hK6 a hab).trans (hE6 a ha)
  have hx6 : T6 b ≠ none := by rw [hb6]; exact Option.some_ne_none _
  refine z_aload_n dX10_init_66 rfl ?_
  refine z_new (fs := [.null, .int 0, .null, .null, .int 0, .int 0]) dX10_init_67 zc9 gX10_42 (by decide) (by decide) (by decide) (fun q4 hq7 => ?_)
  refine z_dup dX10_init_70 rfl ?_
  refine z_callN0 (mi' := mX9_init) (mc' := 3) (ms' := 300) dX10_init_71 (List.mem_of_getElem? (i := 8) rfl) niX9_init iiX9_init rfl rfl nX9_init kX9_init (Nat.le_of_ble_eq_true rfl) (Nat.le_of_ble_eq_true rfl) (by decide) (by decide) ?_
  refine sX9_init (zset_s _ _ _) (fun H7 q5 q6 q7 hC7 => ?_)
  have hE7 := zCo.ex hq7 hC7
  have hbE7 := (hE7 b hx6).trans hb6
  refine z_pwF (fs' := [.ref (ad0 0), .ref (ad1 0), .ref (ad2 0), .int 0, .ref q1, .ref q3, .ref q4, .int 0, .null, .null]) dX10_init_74 fX10_45 rfl hbE7 rfl rfl (Nat.le_of_ble_eq_true rfl) rfl (fun T7 hb7 hK7 => ?_)
  have hN7 : zNw T6 T7 b := fun a ha hab => (hK7 a hab).trans (hE7 a ha)
  have hx7 : T7 b ≠ none := by rw [hb7]; exact Option.some_ne_none _
  refine z_aload_n dX10_init_77 rfl ?_
  refine z_iconst (v := (-1)) dX10_init_78 (by decide) ?_
  refine z_pw (fs' := [.ref (ad0 0), .ref (ad1 0), .ref (ad2 0), .int 0, .ref q1, .ref q3, .ref q4, .int (-1), .null, .null]) dX10_init_79 fX10_49 hb7 rfl rfl (Nat.le_of_ble_eq_true rfl) rfl (fun T8 hb8 hK8 => ?_)
  have hN8 : zNw T7 T8 b := fun a ha hab => (hK8 a hab)
  have hx8 : T8 b ≠ none := by rw [hb8]; exact Option.some_ne_none _
  refine z_aload_n dX10_init_82 rfl ?_
  refine z_new (fs := [.null, .int 0, .int 0, .int 0]) dX10_init_83 zc7 gX10_53 (by decide) (by decide) (by decide) (fun q9 hq9 => ?_)
  refine z_dup dX10_init_86 rfl ?_
  refine z_callI0 (mi' := mJ4_init_da8c8) (mc' := 1) (ms' := 16) dX10_init_87 lX10_55 rfl rfl nJ4_init_da8c8 kJ4_init_da8c8 (Nat.le_of_ble_eq_true rfl) (Nat.le_of_ble_eq_true rfl) (by decide) (by decide) ?_
  refine sJ4_init (zset_s _ _ _) (fun H9 bq hC9 => ?_)
  have hE9 := zCo.ex hq9 hC9
  have hbE9 := (hE9 b hx8).trans hb8
  refine z_pwF (fs' := [.ref (ad0 0), .ref (ad1 0), .ref (ad2 0), .int 0, .ref q1, .ref q3, .ref q4, .int (-1), .ref q9, .null]) dX10_init_90 fX10_56 rfl hbE9 rfl rfl (Nat.le_of_ble_eq_true rfl) rfl (fun T9 hb9 hK9 => ?_)
  have hN9 : zNw T8 T9 b := fun a ha hab => (hK9 a hab).trans (hE9 a ha)
  have hx9 : T9 b ≠ none := by rw [hb9]; exact Option.some_ne_none _
  refine z_aload_n dX10_init_93 rfl ?_
  refine z_bipush (v := 12) dX10_init_94 (by decide) ?_
  refine z_newa_i (N := 12) dX10_init_96 (by decide) (by decide) (by decide) (by decide) (by decide) (fun q8 hq10 => ?_)
  have hE10 : ∀ a, T9 a ≠ none → zset T9 q8 (.inl (.int, (12, .inl (fun _ => 0)))) a = T9 a := fun a ha => zset_n (fun z => ha (by rw [z]; exact hq10))
  have hbE10 := (hE10 b hx9).trans hb9
  refine z_pwF (fs' := [.ref (ad0 0), .ref (ad1 0), .ref (ad2 0), .int 0, .ref q1, .ref q3, .ref q4, .int (-1), .ref q9, .ref q8]) dX10_init_98 fX10_62 rfl hbE10 rfl rfl (Nat.le_of_ble_eq_true rfl) rfl (fun TE hb10 hK10 => ?_)
  have hN10 : zNw T9 TE b := fun a ha hab => (hK10 a hab).trans (hE10 a ha)
  have hx10 : TE b ≠ none := by rw [hb10]; exact Option.some_ne_none _
  refine z_vreturn (mi := mX10_init) dX10_init_101 rfl (by decide) (by decide) ?_
  exact hP0.elim
  --  T2 T3 T4 T5 T6 T7 T8 T9 TE H5 H6 H7 H9 ad0 ad1 ad2 q1 rq adr q3 q4 q5 q6 q7 q9 bq q8 hb1 hb2 hb3 hb4 hb5 hb6 hb7 hb8 hb9 hb10 hN1 hN2 hN3 hN4 hN5 hN6 hN7 hN8 hN9 hN10 hR0 hF0 hR1 hF1 hR2 hF2 hq5 hH hK5 hq6 hC6 hK6 hq7 hC7 hK7 hq9 hC9 hK9 hq10 hT10
