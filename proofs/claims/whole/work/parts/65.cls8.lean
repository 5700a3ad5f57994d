/-- the builder holds the text tx -/
def zBt (γ : zSt) (m : Nat) (tx : List Nat) : Prop := m ≤ 200 ∧ (∀ i, i < m → fits .byte (.int (γ 5 i)) = true) ∧ γ 0 10 = nI tx.length ∧ tx.length ≤ m ∧ (∀ i, i < tx.length → γ 5 i = nI (tx.getD i 0)) ∧ (∀ c, c ∈ tx → c < 128)
theorem zCls.bu {G : zH} {ax : Nat → Nat} {bq m : Nat} {ρ : Nat → zSt} {γ : zSt} {tx : List Nat} (hC : zCls G ax bq m ρ γ) (hT : zBt γ m tx) : zBu G (ax 9) bq m (γ 5) (γ 0 11) tx.length := by
  obtain ⟨h1, h2, h3, h4, h5, h6⟩ := hT
  refine ⟨?_, hC.2.2.2.1, Ne.symm (hC.2.2.2.2 9 (by decide)), h1, h2, h4⟩
  rw [hC.1 9 (by decide), ← h3]
  rfl
def zLw (G G1 : zH) (ax : Nat → Nat) (bq q1 : Nat) (ρ : Nat → zSt) (γ γ1 : zSt) (m1 : Nat) (tx : List Nat) : Prop := zCls G1 ax q1 m1 ρ γ1 ∧ zFC G G1 ax bq ∧ zQn G bq q1 ∧ (∀ r, r ≠ 0 → r ≠ 5 → γ1 r = γ r) ∧ (∀ j, j ≠ 10 → j ≠ 11 → γ1 0 j = γ 0 j) ∧ zBt γ1 m1 tx
theorem zCls.wr {G G1 : zH} {ax : Nat → Nat} {bq q1 m m1 ct1 : Nat} {ρ : Nat → zSt} {γ : zSt} {f1 : Nat → Int32} {ml1 : Int32} (hC : zCls G ax bq m ρ γ) (hB : zBu G1 (ax 9) q1 m1 f1 ml1 ct1) (hq : zQn G bq q1) (hF : zFB G G1 (ax 9) bq) : zCls G1 ax q1 m1 ρ (zu (zu (zrw γ 5 f1) 0 10 (nI ct1)) 0 11 ml1) := by
  obtain ⟨h1, h2, h3, h4, h5⟩ := hC
  have hne : ∀ k, k < 219 → k ≠ 9 → ax k ≠ ax 9 := fun k hk h z => h (h3 k 9 hk (by decide) z)
  have hk : ∀ k, k < 219 → k ≠ 9 → G (ax k) ≠ none → G1 (ax k) = G (ax k) := fun k hk h h9 => hF (ax k) (hne k hk h) (Ne.symm (h5 k hk)) h9
  have hr : ∀ r, r ≠ 0 → r ≠ 5 → zu (zu (zrw γ 5 f1) 0 10 (nI ct1)) 0 11 ml1 r = γ r := fun r a b => by rw [zu_r a, zu_r a, zrw_n b]
  have h0 : ∀ j, j ≠ 10 → j ≠ 11 → zu (zu (zrw γ 5 f1) 0 10 (nI ct1)) 0 11 ml1 0 j = γ 0 j := fun j a b => by rw [zu_j b, zu_j a, zrw_n (by decide)]
  refine ⟨fun k hk9 => ?_, fun r hr9 => ?_, h3, ?_, fun k hk9 => ?_⟩
  · by_cases e : k = 9
    · rw [e, hB.1]
      rfl
    · rw [hk k (by omega) e (by rw [h1 k hk9]; exact Option.some_ne_none _), h1 k hk9]
      refine congrArg some ?_
      rcases (by omega : k = 0 ∨ k = 1 ∨ k = 2 ∨ k = 3 ∨ k = 4 ∨ k = 5 ∨ k = 6 ∨ k = 7 ∨ k = 8) with rfl | rfl | rfl | rfl | rfl | rfl | rfl | rfl | rfl
      · rfl
      · rfl
      · rfl
      · rfl
      · rfl
      · simp only [zclE, hr 1 (by decide) (by decide)]
      · simp only [zclE, hr 2 (by decide) (by decide)]
      · simp only [zclE, hr 3 (by decide) (by decide)]
      · simp only [zclE, hr 4 (by decide) (by decide)]
  · refine ⟨fun j hj => ?_, (h2 r hr9).2⟩
    have h9 := (h2 r hr9).1 j hj
    have e : zar ax r j = ax (10 + 19 * r + j) := rfl
    rw [e] at h9 ⊢
    rw [hk _ (by omega) (by omega) (by rw [h9]; exact Option.some_ne_none _)]
    exact h9
  · rw [hB.2.1, zu_r (by decide), zu_r (by decide), zrw_s]
  · rcases hq with h | h
    · rw [h]; exact h5 k hk9
    · intro z
      by_cases e : k = 9
      · rw [e] at z; exact hB.2.2.1 z.symm
      · have h9 : G (ax k) ≠ none := by
          by_cases e2 : k < 10
          · rw [h1 k e2]; exact Option.some_ne_none _
          · have := (h2 ((k - 10) / 19) (by omega)).1 ((k - 10) % 19) (by omega)
            rw [show zar ax ((k - 10) / 19) ((k - 10) % 19) = ax (10 + 19 * ((k - 10) / 19) + (k - 10) % 19) from rfl, show 10 + 19 * ((k - 10) / 19) + (k - 10) % 19 = k by omega] at this
            rw [this]; exact Option.some_ne_none _
        rw [← z] at h9
        exact h9 h
theorem zLw.ap {G G1 G2 : zH} {ax : Nat → Nat} {bq q1 q2 m1 m2 : Nat} {ρ : Nat → zSt} {γ γ1 : zSt} {tx u : List Nat} {f2 : Nat → Int32} {ml2 : Int32} (h : zLw G G1 ax bq q1 ρ γ γ1 m1 tx) (hB : zBu G2 (ax 9) q2 m2 f2 ml2 (tx.length + u.length)) (ho : ∀ i, i < tx.length → f2 i = γ1 5 i) (hn : ∀ i, i < u.length → f2 (tx.length + i) = nI (u.getD i 0)) (hq : zQn G1 q1 q2) (hF : zFB G1 G2 (ax 9) q1) (hu : ∀ c, c ∈ u → c < 128) : ∃ γ2, zLw G G2 ax bq q2 ρ γ γ2 m2 (tx ++ u) := by
  obtain ⟨k1, k2, k3, k4, k5, k6⟩ := h
  have hb1 : G1 (ax 9) ≠ none := by rw [k1.1 9 (by decide)]; exact Option.some_ne_none _
  refine ⟨_, k1.wr hB hq hF, fun a ha hb hn9 => ?_, ?_, fun r a b => by rw [zu_r a, zu_r a, zrw_n b, k4 r a b], fun j a b => by rw [zu_j b, zu_j a, zrw_n (by decide), k5 j a b], hB.2.2.2.1, fun i hi => ?_, ?_, ?_, fun i hi => ?_, fun c hc => ?_⟩
  · have e := k2 a ha hb hn9
    have hq1 : a ≠ q1 := fun z => by
      rcases k3 with h | h
      · exact hb (z.trans h)
      · rw [z] at hn9; exact hn9 h
    exact (hF a (ha 9 (by decide)) hq1 (by rw [e]; exact hn9)).trans e
  · rcases hq with h | h
    · rw [h]; exact k3
    · by_cases e1 : q2 = bq
      · exact Or.inl e1
      · refine Or.inr ?_
        cases hz : G q2 with
        | none => rfl
        | some e =>
          have ha : ∀ k, k < 219 → q2 ≠ ax k := fun k hk z => by
            by_cases e9 : k < 10
            · have := k1.1 k e9
              rw [← z, h] at this
              cases this
            · have := (k1.2.1 ((k - 10) / 19) (by omega)).1 ((k - 10) % 19) (by omega)
              rw [show zar ax ((k - 10) / 19) ((k - 10) % 19) = ax (10 + 19 * ((k - 10) / 19) + (k - 10) % 19) from rfl, show 10 + 19 * ((k - 10) / 19) + (k - 10) % 19 = k by omega, ← z, h] at this
              cases this
          have := k2 q2 ha e1 (by rw [hz]; exact Option.some_ne_none e)
          rw [h, hz] at this
          cases this
  · rw [zu_r (by decide), zu_r (by decide), zrw_s]
    exact hB.2.2.2.2.1 i hi
  · rw [zu_j (by decide), zu_s, List.length_append]
  · rw [List.length_append]; exact hB.2.2.2.2.2
  · rw [List.length_append] at hi
    rw [zu_r (by decide), zu_r (by decide), zrw_s]
    by_cases e : i < tx.length
    · rw [ho i e, k6.2.2.2.2.1 i e]
      simp [List.getD, List.getElem?_append_left e]
    · have h9 := hn (i - tx.length) (by omega)
      rw [show tx.length + (i - tx.length) = i by omega] at h9
      rw [h9]
      simp [List.getD, List.getElem?_append_right (Nat.le_of_not_lt e)]
  · rcases List.mem_append.mp hc with h | h
    · exact k6.2.2.2.2.2 c h
    · exact hu c h
theorem zLw.cl {G G1 G2 : zH} {ax : Nat → Nat} {bq q1 m1 : Nat} {ρ : Nat → zSt} {γ γ1 : zSt} {tx : List Nat} {ml2 : Int32} (h : zLw G G1 ax bq q1 ρ γ γ1 m1 tx) (hB : zBu G2 (ax 9) q1 m1 (γ1 5) ml2 0) (hF : zFB G1 G2 (ax 9) q1) : ∃ γ2, zLw G G2 ax bq q1 ρ γ γ2 m1 [] := by
  have h0 : zLw G G1 ax bq q1 ρ γ γ1 m1 [] ∨ True := Or.inr trivial
  obtain ⟨k1, k2, k3, k4, k5, k6⟩ := h
  refine ⟨_, k1.wr hB zQn.rf hF, fun a ha hb hn9 => ?_, k3, fun r a b => by rw [zu_r a, zu_r a, zrw_n b, k4 r a b], fun j a b => by rw [zu_j b, zu_j a, zrw_n (by decide), k5 j a b], hB.2.2.2.1, fun i hi => ?_, by rw [zu_j (by decide), zu_s]; rfl, Nat.zero_le _, fun i hi => absurd hi (Nat.not_lt_zero i), fun c hc => absurd hc List.not_mem_nil⟩
  · have e := k2 a ha hb hn9
    have hq1 : a ≠ q1 := fun z => by
      rcases k3 with h | h
      · exact hb (z.trans h)
      · rw [z] at hn9; exact hn9 h
    exact (hF a (ha 9 (by decide)) hq1 (by rw [e]; exact hn9)).trans e
  · rw [zu_r (by decide), zu_r (by decide), zrw_s]
    exact hB.2.2.2.2.1 i hi
theorem z_kn {Γ : zG} {mi : zMI} {d mc ms pc k n k' n' : Nat} {lv : List (Option Value)} {st : List Value} {G : zH} {Post : zP} (hk : k' = k) (hn : n' = n) (h : zX Γ mi d mc ms pc lv st G k' n' Post) : zX Γ mi d mc ms pc lv st G k n Post := by
  rw [← hk, ← hn]
  exact h
theorem zone1 {f : Nat → Int32} {t c : Nat} (h : f t = nI c) : ∀ i, i < [c].length → f (t + i) = nI ([c].getD i 0) := fun i hi => by
  obtain rfl : i = 0 := by simp only [List.length_cons, List.length_nil] at hi; omega
  exact h
theorem zone2 {c : Nat} (h : c < 128) : ∀ x, x ∈ [c] → x < 128 := fun x hx => by rw [List.mem_singleton.mp hx]; exact h
set_option maxHeartbeats 4000000 in
set_option maxRecDepth 10000 in
theorem sX10_line {Γ : zG} {d : Nat} {G : zH} {ax : Nat → Nat} {bq m : Nat} {ρ : Nat → zSt} {γ : zSt} (hC : zCls G ax bq m ρ γ) {S F E K : Nat} (hN : zN (ρ 0) S F E K) {g : Nat → Int32} {mm : Nat → Nat} {fl : Nat → Nat → Nat} (hL : zRel (ρ 0) S F E K g mm fl) {Y : Int} (hBd : zBnd (ρ 0) S F E K Y) (hD : zDis (ρ 0) S F) (hY : Y ≤ 9999999) {tx : List Nat} (hT : zBt γ m tx) {Post : zP} {x : Int32} (hO : ∀ s, s < S → x = nI s → ∀ G1 q1 m1 γ1, zLw G G1 ax bq q1 ρ γ γ1 m1 (zln (ρ 0) s (mm s)) → Post (zvi (nI (zln (ρ 0) s (mm s)).length)) G1) (hE9 : ¬ (0 ≤ x ∧ x < ρ 0 13 1) → Post (.inr zIO) G) : zMX Γ (d + 6) mX10_line 32 6400 [.ref (ax 0), .int x] G Post := by
  refine zMX_of pnX10 rfl (Nat.le_of_ble_eq_true rfl) rfl ?_
  obtain ⟨hS, hS6, hF, hF12, hE, hE4, hK, hK3⟩ := id hN
  have hW : zLw G G ax bq bq ρ γ γ m tx := ⟨hC, zFC.rf, zQn.rf, fun _ _ _ => rfl, fun _ _ _ => rfl, hT⟩
  refine z_aload_n dX10_line_0 rfl ?_
  refine z_get dX10_line_1 fX10_10.r (hC.1 _ (by decide)) rfl ?_
  refine z_get dX10_line_4 fX10_81 ((hC.2.1 0 (by decide)).1 _ (by decide)) rfl ?_
  refine z_iload_n dX10_line_7 rfl ?_
  refine z_V1 (mi' := mX8_has) dX10_line_8 lX10_188 nX8_has kX8_has (by decide) (Nat.le_of_ble_eq_true rfl) (by omega) (by omega) ((hC.2.1 0 (by decide)).1 _ (by decide)) rfl rfl ?_
  refine sX8_has (hC.2.1 0 (by decide)) ?_
  refine z_if_ne (tgt := 24) dX10_line_11 (by decide) (fun c1 => ?_) (fun c1 => ?_)
  · have e11 := zb_n.mp c1
    obtain ⟨s, hs, rfl⟩ := zhas (n := S) (by omega) (by rw [← hS]; exact e11)
    refine z_aload_n dX10_line_24 rfl ?_
    refine z_get dX10_line_25 fX10_56.r (hC.1 _ (by decide)) rfl ?_
    refine z_iconst (v := 0) dX10_line_28 (by decide) ?_
    refine z_callV (mi' := mJ4_setLength_d00df) (As := [.int 0]) (mc' := 1) (ms' := 200) (z := 1) dX10_line_29 lX10_384 nJ4_setLength_d00df kJ4_setLength_d00df (by decide) rfl (Nat.le_of_ble_eq_true rfl) (by omega) (by omega) (hC.1 9 (by decide)) rfl rfl ?_
    refine sJ4_setLength_d00df (hC.bu hW.2.2.2.2.2) (fun G9 ml9 hB9 g4 => ?_)
    obtain ⟨γ9, hW⟩ := hW.cl hB9 g4
    have hC := hW.1
    have l0 := zdg_len 0 s (by omega)
    refine z_aload_n dX10_line_32 rfl ?_
    refine z_get dX10_line_33 fX10_56.r (hC.1 _ (by decide)) rfl ?_
    refine z_iload_n dX10_line_36 rfl ?_
    refine z_callV (mi' := mJ4_append_bf812) (As := [.int (nI (s))]) (mc' := 1) (ms' := 200) (z := 1) dX10_line_37 lX10_387 nJ4_append_bf812 kJ4_append_bf812 (by decide) rfl (Nat.le_of_ble_eq_true rfl) (by omega) (by omega) (hC.1 9 (by decide)) rfl rfl ?_
    refine sJ4_append_bf812 (hC.bu hW.2.2.2.2.2) (n := s) (by omega) (by simp only [List.length_nil]; omega) (fun G9 q9 m9 f9 hB9 g1 g2 g3 g4 => ?_)
    obtain ⟨γ9, hW⟩ := hW.ap hB9 g1 g2 g3 g4 (zdg_c 6 _ (by omega))
    have hC := hW.1
    refine z_bipush (v := 58) dX10_line_40 (by decide) ?_
    refine z_callV (mi' := mJ4_append_cf468) (As := [.int 58]) (mc' := 1) (ms' := 200) (z := 1) dX10_line_42 lX10_391 nJ4_append_cf468 kJ4_append_cf468 (by decide) rfl (Nat.le_of_ble_eq_true rfl) (by omega) (by omega) (hC.1 9 (by decide)) rfl rfl ?_
    refine sJ4_append_cf468 (hC.bu hW.2.2.2.2.2) (c := 58) (by decide) (by simp only [List.nil_append]; omega) (fun G9 q9 m9 f9 hB9 g1 g2 g3 g4 => ?_)
    obtain ⟨γ9, hW⟩ := hW.ap (u := [58]) hB9 g1 (zone1 g2) g3 g4 (zone2 (by decide))
    have hC := hW.1
    refine z_pop dX10_line_45 rfl ?_
    refine z_aload_n dX10_line_46 rfl ?_
    refine z_get dX10_line_47 fX10_10.r (hC.1 _ (by decide)) rfl ?_
    refine z_get dX10_line_50 fX10_145 ((hC.2.1 0 (by decide)).1 _ (by decide)) rfl ?_
    refine z_iload_n dX10_line_53 rfl ?_
    refine z_V1 (mi' := mX4_countOn) dX10_line_54 lX10_215 nX4_countOn kX4_countOn (by decide) (Nat.le_of_ble_eq_true rfl) (by omega) (by omega) ((hC.2.1 0 (by decide)).1 _ (by decide)) rfl rfl ?_
    refine sX4_countOn (hC.2.1 0 (by decide)) (show s < 6 by omega) ?_
    rw [hL.many hs hL.F12 (Nat.le_refl 12)]
    have hm6 := hL.m6 hs
    refine z_istore_n dX10_line_57 (by decide) rfl ?_
    refine z_iconst (v := 0) dX10_line_58 (by decide) ?_
    refine z_istore_n dX10_line_59 (by decide) rfl ?_
    have key : ∀ (r : Nat) (i : Nat) (G1 : zH) (q1 m1 : Nat) (γ1 : zSt), i ≤ mm s → mm s < i + r → zLw G G1 ax bq q1 ρ γ γ1 m1 (zln (ρ 0) s i) → (zln (ρ 0) s i).length ≤ 2 + 11 * i → zX Γ mX10_line (d + 6) 32 6400 60 [some (.ref (ax 0)), some (.int (nI s)), some (.int (nI (mm s))), some (.int (nI i)), none] [] G1 (3 + 4 * i) (600 + 800 * i) (Post) := by
      intro r
      induction r with
      | zero =>
        intro i G1 q1 m1 γ1 hi1 hi2 hW hlen
        exact absurd hi2 (by omega)
      | succ r ih =>
        intro i G1 q1 m1 γ1 hi1 hi2 hW hlen
        have hC := hW.1
        refine z_iload_n dX10_line_60 rfl ?_
        refine z_iload_n dX10_line_61 rfl ?_
        refine z_icmp_ge (tgt := 139) dX10_line_62 (by decide) (fun c1 => ?_) (fun c1 => ?_)
        · have hi9 := zgeN (N := mm s) rfl (by omega) (by omega) c1
          have hi8 : i = mm s := by omega
          refine z_aload_n dX10_line_139 rfl ?_
          refine z_get dX10_line_140 fX10_56.r (hC.1 _ (by decide)) rfl ?_
          refine z_callV (mi' := mJ4_length_8abf5) (As := []) (mc' := 0) (ms' := 0) (z := 0) dX10_line_143 lX10_394 nJ4_length_8abf5 kJ4_length_8abf5 (by decide) rfl (Nat.le_of_ble_eq_true rfl) (by omega) (by omega) (hC.1 9 (by decide)) rfl rfl ?_
          refine sJ4_length_8abf5 (hC.bu hW.2.2.2.2.2) ?_
          exact z_ireturn (mi := mX10_line) dX10_line_146 rfl rfl (by omega) (by omega) (by rw [hi8] at hW ⊢; exact hO s hs rfl _ _ _ _ hW)
        · have hi9 := zltN (N := mm s) rfl (by omega) (by omega) c1
          obtain ⟨k, hk, ek, ef, hf12⟩ := hL.nth hD hs hi9
          have hfF := (hL.mk hs hk).1
          have hmk := (hL.on hs hf12).mpr ⟨k, hk, rfl⟩
          have b1 := (hBd.2.2.2.2.1 s _ hs hfF hmk).1
          have b2 := (hBd.2.1 _ hfF).1
          have n1 := znat_lt b1 (by decide) (n := 100) (by decide)
          have n2 := znat_lt b2 (by decide) (n := 10000000) (by omega)
          have l1 := zdg_len 1 (znat (ρ 0 10 (12 * s + fl s k))) n1
          have l2 := zdg_len 6 (znat (ρ 0 4 (fl s k))) n2
          have hz9 : zln (ρ 0) s i ++ [32] ++ zdg (znat (ρ 0 10 (12 * s + fl s k))) ++ [61] ++ zdg (znat (ρ 0 4 (fl s k))) = zln (ρ 0) s (i + 1) := by
            rw [zln, zlnE, ef]
            simp only [List.append_assoc]
          have hlen9 : (zln (ρ 0) s (i + 1)).length ≤ 2 + 11 * (i + 1) := by
            rw [← hz9]
            simp only [List.length_append, List.length_cons, List.length_nil]
            omega
          have e1 := znat_e b1 (by decide)
          have e2 := znat_e b2 (by decide)
          refine z_aload_n dX10_line_65 rfl ?_
          refine z_get dX10_line_66 fX10_10.r (hC.1 _ (by decide)) rfl ?_
          refine z_get dX10_line_69 fX10_145 ((hC.2.1 0 (by decide)).1 _ (by decide)) rfl ?_
          refine z_iload_n dX10_line_72 rfl ?_
          refine z_iload_n dX10_line_73 rfl ?_
          refine z_V2 (mi' := mX4_floodAtPlace) dX10_line_74 lX10_290 nX4_floodAtPlace kX4_floodAtPlace (by decide) (Nat.le_of_ble_eq_true rfl) (by omega) (by omega) ((hC.2.1 0 (by decide)).1 _ (by decide)) rfl rfl ?_
          refine sX4_floodAtPlace (hC.2.1 0 (by decide)) (show s < 6 by omega) ?_
          rw [zfi_eq ef hf12]
          refine z_istore dX10_line_77 (by decide) rfl ?_
          refine z_aload_n dX10_line_79 rfl ?_
          refine z_get dX10_line_80 fX10_56.r (hC.1 _ (by decide)) rfl ?_
          refine z_bipush (v := 32) dX10_line_83 (by decide) ?_
          refine z_callV (mi' := mJ4_append_cf468) (As := [.int 32]) (mc' := 1) (ms' := 200) (z := 1) dX10_line_85 lX10_391 nJ4_append_cf468 kJ4_append_cf468 (by decide) rfl (Nat.le_of_ble_eq_true rfl) (by omega) (by omega) (hC.1 9 (by decide)) rfl rfl ?_
          refine sJ4_append_cf468 (hC.bu hW.2.2.2.2.2) (c := 32) (by decide) (by omega) (fun G9 q9 m9 f9 hB9 g1 g2 g3 g4 => ?_)
          obtain ⟨γ9, hW⟩ := hW.ap (u := [32]) hB9 g1 (zone1 g2) g3 g4 (zone2 (by decide))
          have hC := hW.1
          refine z_aload_n dX10_line_88 rfl ?_
          refine z_get dX10_line_89 fX10_10.r (hC.1 _ (by decide)) rfl ?_
          refine z_get dX10_line_92 fX10_145 ((hC.2.1 0 (by decide)).1 _ (by decide)) rfl ?_
          refine z_iload_n dX10_line_95 rfl ?_
          refine z_iload dX10_line_96 rfl ?_
          refine z_V2 (mi' := mX4_heightAt) dX10_line_98 lX10_275 nX4_heightAt kX4_heightAt (by decide) (Nat.le_of_ble_eq_true rfl) (by omega) (by omega) ((hC.2.1 0 (by decide)).1 _ (by decide)) rfl rfl ?_
          refine sX4_heightAt (hC.2.1 0 (by decide)) (show s < 6 by omega) hf12 ?_
          rw [e1]
          refine z_callV (mi' := mJ4_append_bf812) (As := [.int (nI (znat (ρ 0 10 (12 * s + fl s k))))]) (mc' := 1) (ms' := 200) (z := 1) dX10_line_101 lX10_387 nJ4_append_bf812 kJ4_append_bf812 (by decide) rfl (Nat.le_of_ble_eq_true rfl) (by omega) (by omega) (hC.1 9 (by decide)) rfl rfl ?_
          refine sJ4_append_bf812 (hC.bu hW.2.2.2.2.2) (n := znat (ρ 0 10 (12 * s + fl s k))) (by omega) (by simp only [List.length_append, List.length_cons, List.length_nil]; omega) (fun G9 q9 m9 f9 hB9 g1 g2 g3 g4 => ?_)
          obtain ⟨γ9, hW⟩ := hW.ap hB9 g1 g2 g3 g4 (zdg_c 6 _ (by omega))
          have hC := hW.1
          refine z_pop dX10_line_104 rfl ?_
          refine z_aload_n dX10_line_105 rfl ?_
          refine z_get dX10_line_106 fX10_56.r (hC.1 _ (by decide)) rfl ?_
          refine z_bipush (v := 61) dX10_line_109 (by decide) ?_
          refine z_callV (mi' := mJ4_append_cf468) (As := [.int 61]) (mc' := 1) (ms' := 200) (z := 1) dX10_line_111 lX10_391 nJ4_append_cf468 kJ4_append_cf468 (by decide) rfl (Nat.le_of_ble_eq_true rfl) (by omega) (by omega) (hC.1 9 (by decide)) rfl rfl ?_
          refine sJ4_append_cf468 (hC.bu hW.2.2.2.2.2) (c := 61) (by decide) (by simp only [List.length_append, List.length_cons, List.length_nil]; omega) (fun G9 q9 m9 f9 hB9 g1 g2 g3 g4 => ?_)
          obtain ⟨γ9, hW⟩ := hW.ap (u := [61]) hB9 g1 (zone1 g2) g3 g4 (zone2 (by decide))
          have hC := hW.1
          refine z_aload_n dX10_line_114 rfl ?_
          refine z_get dX10_line_115 fX10_10.r (hC.1 _ (by decide)) rfl ?_
          refine z_get dX10_line_118 fX10_96 ((hC.2.1 0 (by decide)).1 _ (by decide)) rfl ?_
          refine z_get dX10_line_121 fX10_229 ((hC.2.1 0 (by decide)).1 _ (by decide)) rfl ?_
          refine z_iload dX10_line_124 rfl ?_
          refine z_S2 (mi' := mX7_at) dX10_line_126 lX10_200 nX7_at kX7_at (by decide) (Nat.le_of_ble_eq_true rfl) (by omega) (by omega) ?_
          refine sX7_at ((hC.2.1 0 (by decide)).1 _ (by decide)) (by decide) hf12 ?_
          rw [e2]
          refine z_callV (mi' := mJ4_append_bf812) (As := [.int (nI (znat (ρ 0 4 (fl s k))))]) (mc' := 1) (ms' := 200) (z := 1) dX10_line_129 lX10_387 nJ4_append_bf812 kJ4_append_bf812 (by decide) rfl (Nat.le_of_ble_eq_true rfl) (by omega) (by omega) (hC.1 9 (by decide)) rfl rfl ?_
          refine sJ4_append_bf812 (hC.bu hW.2.2.2.2.2) (n := znat (ρ 0 4 (fl s k))) n2 (by simp only [List.length_append, List.length_cons, List.length_nil]; omega) (fun G9 q9 m9 f9 hB9 g1 g2 g3 g4 => ?_)
          obtain ⟨γ9, hW⟩ := hW.ap hB9 g1 g2 g3 g4 (zdg_c 6 _ n2)
          have hC := hW.1
          refine z_pop dX10_line_132 rfl ?_
          refine z_iinc dX10_line_133 rfl rfl (by decide) rfl ?_
          refine z_goto (tgt := 60) dX10_line_136 (by decide) ?_
          exact z_kn (by omega) (by omega) (z_sub (lv' := [some (.ref (ax 0)), some (.int (nI s)), some (.int (nI (mm s))), some (.int (nI (i + 1))), none]) ⟨rfl, rfl, rfl, zsl (zinc i), trivial⟩ (ih (i + 1) _ _ _ _ (by omega) (by omega) (by rw [hz9] at hW; exact hW) hlen9))
    exact z_kn (by omega) (by omega) (z_sub (lv' := [some (.ref (ax 0)), some (.int (nI s)), some (.int (nI (mm s))), some (.int (nI 0)), none]) ⟨rfl, rfl, rfl, rfl, trivial⟩ (key (mm s + 1) 0 _ _ _ _ (by omega) (by omega) hW (by rw [zln, List.length_append, List.length_singleton]; omega)))
  · have e11 := zb_0.mp c1
    exact z_throw (mi := mX10_line) (cls := "java/lang/IndexOutOfBoundsException") (ic := 196) (i := 16) rfl (by decide) gX10_192 rfl rfl dX10_line_14 dX10_line_17 dX10_line_18 dX10_line_20 dX10_line_23 (Nat.le_of_ble_eq_true rfl) (Nat.le_of_ble_eq_true rfl) (Nat.le_of_ble_eq_true rfl) (hE9 e11)
theorem zgetD_m {l : List Nat} {i : Nat} (h : i < l.length) : l.getD i 0 ∈ l := by
  have e : l.getD i 0 = l[i] := by simp [List.getD, h]
  rw [e]
  exact List.getElem_mem h
set_option maxHeartbeats 4000000 in
set_option maxRecDepth 10000 in
theorem sX10_character {Γ : zG} {d : Nat} {G : zH} {ax : Nat → Nat} {bq m : Nat} {ρ : Nat → zSt} {γ : zSt} (hC : zCls G ax bq m ρ γ) {tx : List Nat} (hT : zBt γ m tx) {Post : zP} {x : Int32} (hO : ∀ i, i < tx.length → x = nI i → Post (zvi (nI (tx.getD i 0))) G) (hE9 : ¬ (0 ≤ x ∧ x < nI tx.length) → Post (.inr zIO) G) : zMX Γ (d + 4) mX10_character 1 6 [.ref (ax 0), .int x] G Post := by
  refine zMX_of pnX10 rfl (Nat.le_of_ble_eq_true rfl) rfl ?_
  have hm := hT.1
  have hl := hT.2.2.2.1
  refine z_iload_n dX10_character_0 rfl ?_
  refine z_if_lt (tgt := 15) dX10_character_1 (by decide) (fun c1 => ?_) (fun c1 => ?_)
  · exact z_throwW (mi := mX10_character) (cls := "java/lang/IndexOutOfBoundsException") (ic := 196) (i := 34) rfl (by decide) gX10_192 rfl rfl dX10_character_15 dX10_character_18 dX10_character_19 dX10_character_22 dX10_character_25 (Nat.le_of_ble_eq_true rfl) (Nat.le_of_ble_eq_true rfl) (Nat.le_of_ble_eq_true rfl) (hE9 (fun q => Int32.not_lt.mpr q.1 c1))
  · refine z_iload_n dX10_character_4 rfl ?_
    refine z_aload_n dX10_character_5 rfl ?_
    refine z_get dX10_character_6 fX10_56.r (hC.1 _ (by decide)) rfl ?_
    refine z_callV (mi' := mJ4_length_8abf5) (As := []) (mc' := 0) (ms' := 0) (z := 0) dX10_character_9 lX10_394 nJ4_length_8abf5 kJ4_length_8abf5 (by decide) rfl (Nat.le_of_ble_eq_true rfl) (by omega) (by omega) (hC.1 9 (by decide)) rfl rfl ?_
    refine sJ4_length_8abf5 (hC.bu hT) ?_
    refine z_icmp_lt (tgt := 26) dX10_character_12 (by decide) (fun c2 => ?_) (fun c2 => ?_)
    · obtain ⟨i, hi, rfl⟩ := zhas (n := tx.length) (by omega) ⟨Int32.not_lt.mp c1, c2⟩
      have hci : tx.getD i 0 < 128 := hT.2.2.2.2.2 _ (zgetD_m hi)
      refine z_aload_n dX10_character_26 rfl ?_
      refine z_get dX10_character_27 fX10_56.r (hC.1 _ (by decide)) rfl ?_
      refine z_iload_n dX10_character_30 rfl ?_
      refine z_callV (mi' := mJ4_charAt_5068e) (As := [.int (nI i)]) (mc' := 0) (ms' := 0) (z := 1) dX10_character_31 lX10_399 nJ4_charAt_5068e kJ4_charAt_5068e (by decide) rfl (Nat.le_of_ble_eq_true rfl) (by omega) (by omega) (hC.1 9 (by decide)) rfl rfl ?_
      refine sJ4_charAt_5068e (hC.bu hT) hi hci (hT.2.2.2.2.1 i hi) ?_
      exact z_ireturn (mi := mX10_character) dX10_character_34 rfl (znarR _ hci) (by omega) (by omega) (hO i hi rfl)
    · exact z_throwW (mi := mX10_character) (cls := "java/lang/IndexOutOfBoundsException") (ic := 196) (i := 34) rfl (by decide) gX10_192 rfl rfl dX10_character_15 dX10_character_18 dX10_character_19 dX10_character_22 dX10_character_25 (Nat.le_of_ble_eq_true rfl) (Nat.le_of_ble_eq_true rfl) (Nat.le_of_ble_eq_true rfl) (hE9 (fun q => c2 q.2))
