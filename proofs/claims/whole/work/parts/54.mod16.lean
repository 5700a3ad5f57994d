theorem zscan_F {c : Nat → Int32} {n p q : Nat} {ns : List Int32} (f : Nat) (h : zcmd c n p = (false, q, ns)) : zscan c n (f + 1) p = (some q, []) := by rw [zscan, h]
theorem zscan_E {c : Nat → Int32} {n p q : Nat} {ns : List Int32} (f : Nat) (h : zcmd c n p = (true, q, ns)) (hq : n ≤ q) : zscan c n (f + 1) p = (none, [(c p, ns)]) := by
  rw [zscan, h]
  exact if_pos hq
theorem zscan_B {c : Nat → Int32} {n p q : Nat} {ns : List Int32} (f : Nat) (h : zcmd c n p = (true, q, ns)) (hq : ¬ n ≤ q) (h5 : ¬ c q = 59) : zscan c n (f + 1) p = (some q, []) := by
  rw [zscan, h]
  exact (if_neg hq).trans (if_neg h5)
theorem zscan_S {c : Nat → Int32} {n p q : Nat} {ns : List Int32} (f : Nat) (h : zcmd c n p = (true, q, ns)) (hq : ¬ n ≤ q) (h5 : c q = 59) : zscan c n (f + 1) p = ((zscan c n f (q + 1)).1, (c p, ns) :: (zscan c n f (q + 1)).2) := by
  rw [zscan, h]
  exact (if_neg hq).trans (if_pos h5)
/-- so far l0 was found, and p is come to -/
def zSc (c : Nat → Int32) (n p : Nat) (l0 : List (Int32 × List Int32)) : Prop := zscan c n 60 0 = ((zscan c n (60 - l0.length) p).1, l0 ++ (zscan c n (60 - l0.length) p).2) ∧ (∀ x, x ∈ l0 → zwf x) ∧ 3 * l0.length ≤ p
section ZSC
variable {c : Nat → Int32} {n p q : Nat} {l0 : List (Int32 × List Int32)} {ns : List Int32}
theorem zSc_0 : zSc c n 0 [] := ⟨rfl, fun x h => absurd h List.not_mem_nil, Nat.le_refl _⟩
theorem zSc_fuel (h : zSc c n p l0) (hp : p ≤ n) (hn : n ≤ 60) : 60 - l0.length = (59 - l0.length) + 1 := by
  have := h.2.2
  omega
theorem zSc.F (h : zSc c n p l0) (hp : p ≤ n) (hn : n ≤ 60) (hz : zcmd c n p = (false, q, ns)) : zscan c n 60 0 = (some q, l0) := by
  rw [h.1, zSc_fuel h hp hn, zscan_F _ hz, List.append_nil]
theorem zSc.B (h : zSc c n p l0) (hp : p ≤ n) (hn : n ≤ 60) (hz : zcmd c n p = (true, q, ns)) (hq : ¬ n ≤ q) (h5 : ¬ c q = 59) : zscan c n 60 0 = (some q, l0) := by
  rw [h.1, zSc_fuel h hp hn, zscan_B _ hz hq h5, List.append_nil]
theorem zSc.E (h : zSc c n p l0) (hp : p ≤ n) (hn : n ≤ 60) (hz : zcmd c n p = (true, q, ns)) (hq : n ≤ q) : zscan c n 60 0 = (none, l0 ++ [(c p, ns)]) := by
  rw [h.1, zSc_fuel h hp hn, zscan_E _ hz hq]
theorem zSc.S (h : zSc c n p l0) (hp : p ≤ n) (hn : n ≤ 60) (hz : zcmd c n p = (true, q, ns)) (hq : ¬ n ≤ q) (h5 : c q = 59) : zSc c n (q + 1) (l0 ++ [(c p, ns)]) := by
  have h9 := zcmd_len hz
  have hl := h.2.2
  refine ⟨?_, fun x hx => ?_, ?_⟩
  · rw [h.1, zSc_fuel h hp hn, zscan_S _ hz hq h5, List.length_append, List.length_singleton, show 60 - (l0.length + 1) = 59 - l0.length by omega, List.append_assoc]
    rfl
  · rw [List.mem_append, List.mem_singleton] at hx
    rcases hx with hx | hx
    · exact h.2.1 x hx
    · rw [hx]; exact h9.1
  · rw [List.length_append, List.length_singleton]
    omega
theorem zwf_all {l : List (Int32 × List Int32)} (h : ∀ x, x ∈ l → zwf x) : ∀ j, j < l.length → zwf (l.getD j (0, [])) := fun j hj => by
  have e : l.getD j (0, []) = l[j] := by simp [List.getD, hj]
  rw [e]
  exact h _ (List.getElem_mem hj)
end ZSC
set_option maxHeartbeats 4000000 in
set_option maxRecDepth 10000 in
theorem sX11_isText {Γ : zG} {d : Nat} {G : zH} {Post : zV} {am : Nat → Nat} {μ : zSt} (hM : zMod G am μ) {c : Nat → Int32} {n : Nat} (hn : μ 0 13 = nI n) (hn60 : n ≤ 60) (hc : μ 5 = c) (hFl : ∀ q l, zscan c n 60 0 = (some q, l) → ∀ G1 ν, zMod G1 am ν → zFrm G G1 am 8 → zSm μ ν → ν 0 17 = nI q → q ≤ n → Post (some (.int 0)) G1) (hTr : ∀ l, zscan c n 60 0 = (none, l) → ∀ G1 ν, zMod G1 am ν → zFrm G G1 am 8 → zSm μ ν → ν 0 19 = nI l.length → zTold (ν 7) l → (∀ x, x ∈ l → zwf x) → l.length ≤ 20 → Post (some (.int 1)) G1) : zM Γ (d + 3) mX11_isText 0 0 [.ref (am 0)] G Post := by
  refine zM_of pnX11 rfl (Nat.le_of_ble_eq_true rfl) rfl ?_
  have hQ : zFrm G G am 8 := zFrm.rf
  have key : ∀ (r : Nat) (p : Nat) (G1 : zH) (ν : zSt) (l0 : List (Int32 × List Int32)), p ≤ n → n < p + r → zMod G1 am ν → zFrm G G1 am 8 → zAt ν c n p → zSm μ ν → ν 0 19 = nI l0.length → zTold (ν 7) l0 → zSc c n p l0 → zX Γ mX11_isText (d + 3) 0 0 10 [some (.ref (am 0))] [] G1 0 0 (zlift Post) := by
    intro r
    induction r with
    | zero =>
      intro p G1 ν l0 hi1 hi2 hM hQ hA hS hm hTo hSc
      exact absurd hi2 (by omega)
    | succ r ih =>
      intro p G1 ν l0 hi1 hi2 hM hQ hA hS hm hTo hSc
      have hn60 := hA.2.1
      refine z_aload_n dX11_isText_10 rfl ?_
      refine z_V0 (mi' := mX11_commandHere) dX11_isText_11 lX11_195 nX11_commandHere kX11_commandHere (by decide) (Nat.le_of_ble_eq_true rfl) (Nat.le_refl _) (Nat.le_refl _) (hM.1 _ (by decide)) rfl rfl ?_
      have hl20 : l0.length ≤ 20 := by have := hSc.2.2; omega
      refine sX11_commandHere hM hA (k := l0.length) hm hl20 (fun q10 ns z10 G10 ν10 hM hF hA10 hS10 hm10 => ?_) (fun q10 ns z10 G10 ν10 hM hF hA10 hS10 ho10 ht10 hu10 hm10 => ?_)
      · have hQ := hQ.tr hF
        refine z_if_ne (tgt := 19) dX11_isText_14 (by decide) (fun c1 => ?_) (fun c1 => ?_)
        · exact absurd rfl c1
        · refine z_iconst (v := 0) dX11_isText_17 (by decide) ?_
          exact z_ireturn (mi := mX11_isText) dX11_isText_18 rfl rfl (Nat.le_refl _) (Nat.le_refl _) (hFl q10 l0 (hSc.F hi1 hn60 z10) _ _ hM hQ (hS.tr hS10) hA10.2.2.1 hA10.2.2.2.1)
      · have hQ := hQ.tr hF
        have hq10 := zcmd_len z10
        have hTo2 : zTold (ν10 7) (l0 ++ [(c p, ns)]) := (hTo.cg (fun j hj => zwf_3 (zwf_all hSc.2.1 j hj)) ho10).snoc ht10 hu10
        refine z_if_ne (tgt := 19) dX11_isText_14 (by decide) (fun c2 => ?_) (fun c2 => ?_)
        · refine z_aload_n dX11_isText_19 rfl ?_
          refine z_dup dX11_isText_20 rfl ?_
          refine z_get dX11_isText_21 fX11_186.r (hM.1 _ (by decide)) rfl ?_
          refine z_iconst (v := 1) dX11_isText_24 (by decide) ?_
          rw [hm10.trans hm]
          refine z_iadd dX11_isText_25 ?_
          rw [nI_1]
          refine z_put dX11_isText_26 fX11_186 (hM.1 _ (by decide)) rfl rfl (Nat.le_of_ble_eq_true rfl) ?_
          refine z_mset hM 0 19 (nI (l0.length + 1)) (by decide) rfl (fun _ hM hF => ?_)
          have hQ := hQ.tr hF
          refine z_aload_n dX11_isText_29 rfl ?_
          refine z_bipush (v := 59) dX11_isText_30 (by decide) ?_
          refine z_V1 (mi' := mX11_skips) dX11_isText_32 lX11_189 nX11_skips kX11_skips (by decide) (Nat.le_of_ble_eq_true rfl) (Nat.le_refl _) (Nat.le_refl _) (hM.1 _ (by decide)) rfl rfl ?_
          refine sX11_skips hM (hA10.m _) (x := 59) (by decide) (fun z29 => ?_) (fun z29 G29 ν29 hM hF hA29 hS29 h729 hm29 => ?_)
          · refine z_if_ne (tgt := 10) dX11_isText_35 (by decide) (fun c3 => ?_) (fun c3 => ?_)
            · exact absurd rfl c3
            · refine z_aload_n dX11_isText_38 rfl ?_
              refine z_get dX11_isText_39 fX11_180.r (hM.1 _ (by decide)) rfl ?_
              refine z_aload_n dX11_isText_42 rfl ?_
              refine z_get dX11_isText_43 fX11_177.r (hM.1 _ (by decide)) rfl ?_
              rw [(hA10.m (nI (l0.length + 1))).2.2.1, (hA10.m (nI (l0.length + 1))).1]
              refine z_icmp_ne (tgt := 53) dX11_isText_46 (by decide) (fun c4 => ?_) (fun c4 => ?_)
              · have hne : q10 ≠ n := fun q => c4 (by rw [q])
                refine z_iconst (v := 0) dX11_isText_53 (by decide) ?_
                exact z_ireturn (mi := mX11_isText) dX11_isText_54 rfl rfl (Nat.le_refl _) (Nat.le_refl _) (hFl q10 l0 (hSc.B hi1 hn60 z10 (by omega) (fun h => (of_decide_eq_false z29) ⟨by omega, h⟩)) _ _ hM hQ (hS.tr (hS10.tr (zSm.m _))) (hA10.m _).2.2.1 (by omega))
              · have hqn : q10 = n := znI_inj (by omega) (by omega) c4
                refine z_iconst (v := 1) dX11_isText_49 (by decide) ?_
                refine z_goto (tgt := 54) dX11_isText_50 (by decide) ?_
                exact z_ireturn (mi := mX11_isText) dX11_isText_54 rfl rfl (Nat.le_refl _) (Nat.le_refl _) (hTr (l0 ++ [(c p, ns)]) (hSc.E hi1 hn60 z10 (by omega)) _ _ hM hQ (hS.tr (hS10.tr (zSm.m _))) (by rw [zu_s, List.length_append, List.length_singleton]) (by rw [zu_r (show (7 : Nat) ≠ 0 by decide)]; exact hTo2) (fun x hx => (List.mem_append.mp hx).elim (hSc.2.1 x) (fun hx => by rw [List.mem_singleton.mp hx]; exact hq10.1)) (by rw [List.length_append, List.length_singleton]; have := hSc.2.2; omega))
          · have hQ := hQ.tr hF
            have h59 := zlit_t z29
            refine z_if_ne (tgt := 10) dX11_isText_35 (by decide) (fun c5 => ?_) (fun c5 => ?_)
            · exact z_sub (lv' := [some (.ref (am 0))]) ⟨rfl, trivial⟩ (ih (q10 + 1) _ _ _ (by omega) (by omega) hM hQ hA29 (hS.tr (hS10.tr ((zSm.m _).tr hS29))) (hm29.trans (by rw [zu_s, List.length_append, List.length_singleton])) (by rw [h729, zu_r (show (7 : Nat) ≠ 0 by decide)]; exact hTo2) (hSc.S hi1 hn60 z10 (by omega) h59.2))
            · exact absurd c5 zi10
        · exact absurd c2 zi10
  refine z_aload_n dX11_isText_0 rfl ?_
  refine z_iconst (v := 0) dX11_isText_1 (by decide) ?_
  refine z_put dX11_isText_2 fX11_180 (hM.1 _ (by decide)) rfl rfl (Nat.le_of_ble_eq_true rfl) ?_
  refine z_mset hM 0 17 (0) (by decide) rfl (fun _ hM hF => ?_)
  have hQ := hQ.tr hF
  refine z_aload_n dX11_isText_5 rfl ?_
  refine z_iconst (v := 0) dX11_isText_6 (by decide) ?_
  refine z_put dX11_isText_7 fX11_186 (hM.1 _ (by decide)) rfl rfl (Nat.le_of_ble_eq_true rfl) ?_
  refine z_mset hM 0 19 (0) (by decide) rfl (fun _ hM hF => ?_)
  have hQ := hQ.tr hF
  exact z_sub (lv' := [some (.ref (am 0))]) ⟨rfl, trivial⟩ (key (n + 1) 0 _ _ [] (by omega) (by omega) hM hQ ⟨hn, hn60, rfl, Nat.zero_le n, (by rw [zu_r (by decide), zu_r (by decide)]; exact hc)⟩ ((zSm.p _).tr (zSm.m _)) rfl (fun j h => absurd h (Nat.not_lt_zero j)) zSc_0)
theorem zRel.oCut' {σ : zSt} {S F E K : Nat} {mm : Nat → Nat} {fl : Nat → Nat → Nat} {ν : zSt} (hL : zRel σ S F E K (ν 1) mm fl) {s0 f0 c0 : Nat} {h dp yr ed : Int32} (hs0 : s0 < S) (hf0 : f0 < F) (hc0 : c0 < K) (hm : mm s0 < 6) (hmk : ¬ zmk σ s0 f0 = true) (hdp : 0 < dp) : ∃ mm' fl', zRel (zu (zu (zu (zu (zu σ 10 (12 * s0 + f0) h) 11 (12 * s0 + f0) dp) 12 (12 * s0 + f0) yr) 13 5 (σ 13 5 + 1)) 9 c0 ed) S F E K ((zu (zu (zu (zu (zu (zu (zu ν 1 (5 + 29 * s0 + 5 + 4 * mm s0) (nI f0)) 1 ((5 + 29 * s0 + 5 + 4 * mm s0) + 1) h) 1 ((5 + 29 * s0 + 5 + 4 * mm s0) + 2) dp) 1 ((5 + 29 * s0 + 5 + 4 * mm s0) + 3) yr) 1 (5 + 29 * s0 + 4) (nI (mm s0 + 1))) 1 (226 + c0) ed) 1 1 (σ 13 5 + 1)) 1) mm' fl' :=
  ⟨fun s => if s = s0 then mm s0 + 1 else mm s, fun s k => if s = s0 ∧ k = mm s0 then f0 else fl s k, hL.oCut hs0 hf0 hc0 hm hmk hdp (if_pos rfl) (fun s h => if_neg h) (if_pos ⟨rfl, rfl⟩) (fun s k h => if_neg (fun q => by have := h q.1; omega))⟩
theorem zRel.oEff' {σ : zSt} {S F E K : Nat} {mm : Nat → Nat} {fl : Nat → Nat → Nat} {ν : zSt} (hL : zRel σ S F E K (ν 1) mm fl) {s f k : Nat} (hs : s < S) (hk : k < mm s) (hf : fl s k = f) (x : Int32) : ∃ mm' fl', zRel (zu (zu σ 11 (12 * s + f) 0) 13 6 x) S F E K (zu (zmdrop ν s k (mm s)) 1 2 x 1) mm' fl' := by
  obtain ⟨mm', fl', h, _, _⟩ := hL.drop' hs hk (ν' := ν) (fun _ _ => rfl)
  rw [hf] at h
  exact ⟨mm', fl', h.oNum6⟩
theorem zrX_109 {σ : zSt} {E : Nat} {x1 : Int32} {ns : List Int32} (h : x1 = 109) : zrX σ E (x1, ns) = (zrCu σ E (ns.getD 0 0) (ns.getD 1 0) (ns.getD 2 0)) := by
  rw [zrX, if_pos h]
theorem znx_109 {σ : zSt} {E S : Nat} {x1 : Int32} {ns : List Int32} (h : x1 = 109) : znx σ E S (x1, ns) = zcut σ E (ns.getD 0 0).toNatClampNeg (ns.getD 1 0).toNatClampNeg (ns.getD 2 0).toNatClampNeg := by
  rw [znx, if_pos h]
theorem zrX_120 {σ : zSt} {E : Nat} {x1 : Int32} {ns : List Int32} (h : x1 = 120) : zrX σ E (x1, ns) = (zrEf σ (ns.getD 0 0) (ns.getD 1 0)) := by
  rw [zrX, if_neg (show ¬ x1 = 109 by rw [h]; decide), if_pos h]
theorem znx_120 {σ : zSt} {E S : Nat} {x1 : Int32} {ns : List Int32} (h : x1 = 120) : znx σ E S (x1, ns) = zu (zu σ 11 (12 * (ns.getD 0 0).toNatClampNeg + (ns.getD 1 0).toNatClampNeg) 0) 13 6 (σ 13 6 + 1) := by
  rw [znx, if_neg (show ¬ x1 = 109 by rw [h]; decide), if_pos h]
theorem zrX_107 {σ : zSt} {E : Nat} {x1 : Int32} {ns : List Int32} (h : x1 = 107) : zrX σ E (x1, ns) = (zrCk σ (ns.getD 0 0)) := by
  rw [zrX, if_neg (show ¬ x1 = 109 by rw [h]; decide), if_neg (show ¬ x1 = 120 by rw [h]; decide), if_pos h]
theorem znx_107 {σ : zSt} {E S : Nat} {x1 : Int32} {ns : List Int32} (h : x1 = 107) : znx σ E S (x1, ns) = zu σ 3 (ns.getD 0 0).toNatClampNeg 0 := by
  rw [znx, if_neg (show ¬ x1 = 109 by rw [h]; decide), if_neg (show ¬ x1 = 120 by rw [h]; decide), if_pos h]
theorem zrX_115 {σ : zSt} {E : Nat} {x1 : Int32} {ns : List Int32} (h : x1 = 115) : zrX σ E (x1, ns) = (zrSh σ (ns.getD 0 0)) := by
  rw [zrX, if_neg (show ¬ x1 = 109 by rw [h]; decide), if_neg (show ¬ x1 = 120 by rw [h]; decide), if_neg (show ¬ x1 = 107 by rw [h]; decide), if_pos h]
theorem znx_115 {σ : zSt} {E S : Nat} {x1 : Int32} {ns : List Int32} (h : x1 = 115) : znx σ E S (x1, ns) = zu σ 9 (ns.getD 0 0).toNatClampNeg 20 := by
  rw [znx, if_neg (show ¬ x1 = 109 by rw [h]; decide), if_neg (show ¬ x1 = 120 by rw [h]; decide), if_neg (show ¬ x1 = 107 by rw [h]; decide), if_pos h]
theorem zrX_119 {σ : zSt} {E : Nat} {x1 : Int32} {ns : List Int32} (h : x1 = 119) : zrX σ E (x1, ns) = (zrWi σ (ns.getD 0 0) (ns.getD 1 0)) := by
  rw [zrX, if_neg (show ¬ x1 = 109 by rw [h]; decide), if_neg (show ¬ x1 = 120 by rw [h]; decide), if_neg (show ¬ x1 = 107 by rw [h]; decide), if_neg (show ¬ x1 = 115 by rw [h]; decide), if_pos h]
theorem znx_119 {σ : zSt} {E S : Nat} {x1 : Int32} {ns : List Int32} (h : x1 = 119) : znx σ E S (x1, ns) = zu σ 6 (ns.getD 0 0).toNatClampNeg (σ 6 (ns.getD 0 0).toNatClampNeg + ns.getD 1 0) := by
  rw [znx, if_neg (show ¬ x1 = 109 by rw [h]; decide), if_neg (show ¬ x1 = 120 by rw [h]; decide), if_neg (show ¬ x1 = 107 by rw [h]; decide), if_neg (show ¬ x1 = 115 by rw [h]; decide), if_pos h]
theorem zrX_121 {σ : zSt} {E : Nat} {x1 : Int32} {ns : List Int32} (h : x1 = 121) : zrX σ E (x1, ns) = (zrYe (ns.getD 0 0)) := by
  rw [zrX, if_neg (show ¬ x1 = 109 by rw [h]; decide), if_neg (show ¬ x1 = 120 by rw [h]; decide), if_neg (show ¬ x1 = 107 by rw [h]; decide), if_neg (show ¬ x1 = 115 by rw [h]; decide), if_neg (show ¬ x1 = 119 by rw [h]; decide)]
theorem znx_121 {σ : zSt} {E S : Nat} {x1 : Int32} {ns : List Int32} (h : x1 = 121) : znx σ E S (x1, ns) = (zyrs σ S (ns.getD 0 0).toNatClampNeg).1 := by
  rw [znx, if_neg (show ¬ x1 = 109 by rw [h]; decide), if_neg (show ¬ x1 = 120 by rw [h]; decide), if_neg (show ¬ x1 = 107 by rw [h]; decide), if_neg (show ¬ x1 = 115 by rw [h]; decide), if_neg (show ¬ x1 = 119 by rw [h]; decide)]
set_option maxHeartbeats 4000000 in
set_option maxRecDepth 10000 in
theorem sX11_carries {Γ : zG} {d : Nat} {G : zH} {Post : zV} {am : Nat → Nat} {μ : zSt} (hM : zMod G am μ) {σ : zSt} {S F E K : Nat} {mm : Nat → Nat} {fl : Nat → Nat → Nat} (hL : zRel σ S F E K (μ 1) mm fl) {ct : Nat} (hct : μ 0 5 = nI ct) (hc8 : ct ≤ 8) (hD : zDis σ S F) {Y : Int} (hB : zBnd σ S F E K Y) {x1 : Int32} {ns : List Int32} {j : Nat} (hwi : ¬ μ 0 6 = 0) (hj : j ≤ 20) (hk0 : μ 7 (4 * j) = x1) (hu : ∀ i, i < ns.length → μ 7 (4 * j + 1 + i) = ns.getD i 0) (hwf : zwf (x1, ns)) (hO : zrX σ E (x1, ns) = none → ∀ G1 ν, zMod G1 am ν → zFrm G G1 am 8 → (∀ r, r ≠ 1 → ν r = zu μ 0 7 0 r) → (∃ mm' fl', zRel (znx σ E S (x1, ns)) S F E K (ν 1) mm' fl') → ∀ v, Post (some (.int v)) G1) (hR : ∀ rn rd, zrX σ E (x1, ns) = some (rn, rd) → ∀ G1, zMod G1 am (zmref μ rn rd) → zFrm G G1 am 8 → Post (some (.int 0)) G1) : zM Γ (d + 5) mX11_carries 0 0 [.ref (am 0), .int (nI (4 * j))] G Post := by
  refine zM_of pnX11 rfl (Nat.le_of_ble_eq_true rfl) rfl ?_
  have hS6 := hL.S6
  have hF12 := hL.F12
  have hE4 := hL.E4
  have hK3 := hL.K3
  refine z_aload_n dX11_carries_0 rfl ?_
  refine z_get dX11_carries_1 fX11_33.r (hM.1 _ (by decide)) rfl ?_
  refine z_iload_n dX11_carries_4 rfl ?_
  refine z_iald dX11_carries_5 (hM.1 7 (by decide)) (vp_in_nI (show 4 * j < 124 by omega) (by decide)) ?_
  rw [nI_clamp (show 4 * j < 2147483648 by omega), hk0]
  by_cases t107 : x1 = 107
  · rw [t107]
    refine z_tableIn (tgt := 126) dX11_carries_6 (by decide) (by decide) rfl (by decide) ?_
    have tq : x1 = 107 := t107
    have hlen : ns.length = 1 := by rcases hwf with ⟨e, e2⟩ | ⟨e, e2⟩ | ⟨e, e2⟩ | ⟨e, e2⟩ | ⟨e, e2⟩ | ⟨e, e2⟩ <;> first | exact e2 | exact absurd (tq.symm.trans e) (by decide)
    have hu1 : μ 7 (4 * j + 1) = ns.getD 0 0 := hu 0 (by omega)
    refine z_aload_n dX11_carries_126 rfl ?_
    refine z_aload_n dX11_carries_127 rfl ?_
    refine z_get dX11_carries_128 fX11_33.r (hM.1 _ (by decide)) rfl ?_
    refine z_iload_n dX11_carries_131 rfl ?_
    refine z_iconst (v := 1) dX11_carries_132 (by decide) ?_
    refine z_iadd dX11_carries_133 ?_
    rw [nI_1]
    refine z_iald dX11_carries_134 (hM.1 7 (by decide)) (vp_in_nI (show 4 * j + 1 < 124 by omega) (by decide)) ?_
    rw [nI_clamp (show 4 * j + 1 < 2147483648 by omega), hu1]
    refine z_V1 (mi' := mX11_check) dX11_carries_135 lX11_205 nX11_check kX11_check (by decide) (Nat.le_of_ble_eq_true rfl) (Nat.zero_le _) (Nat.zero_le _) (hM.1 _ (by decide)) rfl rfl ?_
    refine sX11_check hM hL hct hc8 ?_ ?_
    · intro hz s hs e1 ν hν G2 hM hQ
      have hL2 : zRel σ S F E K (ν 1) mm fl := by rw [hν, zmkeep_r (by decide) (by decide)]; exact hL
      exact z_ireturn (mi := mX11_carries) dX11_carries_138 rfl rfl (Nat.zero_le _) (Nat.zero_le _) (hO (by rw [zrX_107 tq]; exact hz) _ _ hM hQ (fun r hr => by simp only [zu_r hr]; rw [hν, zmkeep_in hwi]) (by rw [znx_107 tq, e1, nI_clamp (show s < 2147483648 by omega)]; exact ⟨mm, fl, hL2.oErr hs⟩) _)
    · intro rn rd hz G2 hM hQ
      exact z_ireturn (mi := mX11_carries) dX11_carries_138 rfl rfl (Nat.zero_le _) (Nat.zero_le _) (hR rn rd (by rw [zrX_107 tq]; exact hz) _ hM hQ)
  by_cases t108 : x1 = 108
  · rw [t108]
    refine z_tableIn (tgt := 173) dX11_carries_6 (by decide) (by decide) rfl (by decide) ?_
    have tq : x1 = 121 := by rcases hwf with ⟨e, e2⟩ | ⟨e, e2⟩ | ⟨e, e2⟩ | ⟨e, e2⟩ | ⟨e, e2⟩ | ⟨e, e2⟩ <;> first | exact e | (exfalso; simp_all)
    have hlen : ns.length = 1 := by rcases hwf with ⟨e, e2⟩ | ⟨e, e2⟩ | ⟨e, e2⟩ | ⟨e, e2⟩ | ⟨e, e2⟩ | ⟨e, e2⟩ <;> first | exact e2 | exact absurd (tq.symm.trans e) (by decide)
    have hu1 : μ 7 (4 * j + 1) = ns.getD 0 0 := hu 0 (by omega)
    refine z_aload_n dX11_carries_173 rfl ?_
    refine z_aload_n dX11_carries_174 rfl ?_
    refine z_get dX11_carries_175 fX11_33.r (hM.1 _ (by decide)) rfl ?_
    refine z_iload_n dX11_carries_178 rfl ?_
    refine z_iconst (v := 1) dX11_carries_179 (by decide) ?_
    refine z_iadd dX11_carries_180 ?_
    rw [nI_1]
    refine z_iald dX11_carries_181 (hM.1 7 (by decide)) (vp_in_nI (show 4 * j + 1 < 124 by omega) (by decide)) ?_
    rw [nI_clamp (show 4 * j + 1 < 2147483648 by omega), hu1]
    refine z_V1 (mi' := mX11_years) dX11_carries_182 lX11_214 nX11_years kX11_years (by decide) (Nat.le_of_ble_eq_true rfl) (Nat.zero_le _) (Nat.zero_le _) (hM.1 _ (by decide)) rfl rfl ?_
    refine sX11_years hM hL hct hc8 ?_ ?_
    · intro hz i hi1 hi2 e1 ν0 hν G2 ν hM hQ hr9 hL9
      exact z_ireturn (mi := mX11_carries) dX11_carries_185 rfl rfl (Nat.zero_le _) (Nat.zero_le _) (hO (by rw [zrX_121 tq]; exact hz) _ _ hM hQ (fun r hr => by rw [hr9 r hr, hν, zmkeep_in hwi]) (by rw [znx_121 tq, e1, nI_clamp (show i < 2147483648 by omega)]; exact hL9) _)
    · intro rn rd hz G2 hM hQ
      exact z_ireturn (mi := mX11_carries) dX11_carries_185 rfl rfl (Nat.zero_le _) (Nat.zero_le _) (hR rn rd (by rw [zrX_121 tq]; exact hz) _ hM hQ)
  by_cases t109 : x1 = 109
  · rw [t109]
    refine z_tableIn (tgt := 76) dX11_carries_6 (by decide) (by decide) rfl (by decide) ?_
    have tq : x1 = 109 := t109
    have hlen : ns.length = 3 := by rcases hwf with ⟨e, e2⟩ | ⟨e, e2⟩ | ⟨e, e2⟩ | ⟨e, e2⟩ | ⟨e, e2⟩ | ⟨e, e2⟩ <;> first | exact e2 | exact absurd (tq.symm.trans e) (by decide)
    have hu1 : μ 7 (4 * j + 1) = ns.getD 0 0 := hu 0 (by omega)
    have hu2 : μ 7 (4 * j + 2) = ns.getD 1 0 := hu 1 (by omega)
    have hu3 : μ 7 (4 * j + 3) = ns.getD 2 0 := hu 2 (by omega)
    refine z_aload_n dX11_carries_76 rfl ?_
    refine z_aload_n dX11_carries_77 rfl ?_
    refine z_get dX11_carries_78 fX11_33.r (hM.1 _ (by decide)) rfl ?_
    refine z_iload_n dX11_carries_81 rfl ?_
    refine z_iconst (v := 1) dX11_carries_82 (by decide) ?_
    refine z_iadd dX11_carries_83 ?_
    rw [nI_1]
    refine z_iald dX11_carries_84 (hM.1 7 (by decide)) (vp_in_nI (show 4 * j + 1 < 124 by omega) (by decide)) ?_
    rw [nI_clamp (show 4 * j + 1 < 2147483648 by omega), hu1]
    refine z_aload_n dX11_carries_85 rfl ?_
    refine z_get dX11_carries_86 fX11_33.r (hM.1 _ (by decide)) rfl ?_
    refine z_iload_n dX11_carries_89 rfl ?_
    refine z_iconst (v := 2) dX11_carries_90 (by decide) ?_
    refine z_iadd dX11_carries_91 ?_
    rw [show nI (4 * j) + 2 = nI (4 * j + 2) from nI_add (4 * j) 2]
    refine z_iald dX11_carries_92 (hM.1 7 (by decide)) (vp_in_nI (show 4 * j + 2 < 124 by omega) (by decide)) ?_
    rw [nI_clamp (show 4 * j + 2 < 2147483648 by omega), hu2]
    refine z_aload_n dX11_carries_93 rfl ?_
    refine z_get dX11_carries_94 fX11_33.r (hM.1 _ (by decide)) rfl ?_
    refine z_iload_n dX11_carries_97 rfl ?_
    refine z_iconst (v := 3) dX11_carries_98 (by decide) ?_
    refine z_iadd dX11_carries_99 ?_
    rw [show nI (4 * j) + 3 = nI (4 * j + 3) from nI_add (4 * j) 3]
    refine z_iald dX11_carries_100 (hM.1 7 (by decide)) (vp_in_nI (show 4 * j + 3 < 124 by omega) (by decide)) ?_
    rw [nI_clamp (show 4 * j + 3 < 2147483648 by omega), hu3]
    refine z_V3 (mi' := mX11_cut) dX11_carries_101 lX11_199 nX11_cut kX11_cut (by decide) (Nat.le_of_ble_eq_true rfl) (Nat.zero_le _) (Nat.zero_le _) (hM.1 _ (by decide)) rfl rfl ?_
    refine sX11_cut hM hL hct hc8 hD ?_ ?_
    · intro hz s f c hs hf hc hmm e1 e2 e3 ν hν G2 hM hQ
      have hL2 : zRel σ S F E K (ν 1) mm fl := by rw [hν, zmkeep_r (by decide) (by decide)]; exact hL
      have hcb := zcutB hL hB hD hs hf hc (zrCu_1 (by omega) (by omega) (by omega) (by rw [← e1, ← e2, ← e3]; exact hz))
      exact z_ireturn (mi := mX11_carries) dX11_carries_104 rfl rfl (Nat.zero_le _) (Nat.zero_le _) (hO (by rw [zrX_109 tq]; exact hz) _ _ hM hQ (fun r hr => by simp only [zu_r hr]; rw [hν, zmkeep_in hwi]) (by rw [znx_109 tq, e1, e2, e3, nI_clamp (show s < 2147483648 by omega), nI_clamp (show f < 2147483648 by omega), nI_clamp (show c < 2147483648 by omega)]; exact hL2.oCut' hs hf hc hmm hcb.2.2.2 hcb.2.2.1) _)
    · intro rn rd hz G2 hM hQ
      exact z_ireturn (mi := mX11_carries) dX11_carries_104 rfl rfl (Nat.zero_le _) (Nat.zero_le _) (hR rn rd (by rw [zrX_109 tq]; exact hz) _ hM hQ)
  by_cases t110 : x1 = 110
  · rw [t110]
    refine z_tableIn (tgt := 173) dX11_carries_6 (by decide) (by decide) rfl (by decide) ?_
    have tq : x1 = 121 := by rcases hwf with ⟨e, e2⟩ | ⟨e, e2⟩ | ⟨e, e2⟩ | ⟨e, e2⟩ | ⟨e, e2⟩ | ⟨e, e2⟩ <;> first | exact e | (exfalso; simp_all)
    have hlen : ns.length = 1 := by rcases hwf with ⟨e, e2⟩ | ⟨e, e2⟩ | ⟨e, e2⟩ | ⟨e, e2⟩ | ⟨e, e2⟩ | ⟨e, e2⟩ <;> first | exact e2 | exact absurd (tq.symm.trans e) (by decide)
    have hu1 : μ 7 (4 * j + 1) = ns.getD 0 0 := hu 0 (by omega)
    refine z_aload_n dX11_carries_173 rfl ?_
    refine z_aload_n dX11_carries_174 rfl ?_
    refine z_get dX11_carries_175 fX11_33.r (hM.1 _ (by decide)) rfl ?_
    refine z_iload_n dX11_carries_178 rfl ?_
    refine z_iconst (v := 1) dX11_carries_179 (by decide) ?_
    refine z_iadd dX11_carries_180 ?_
    rw [nI_1]
    refine z_iald dX11_carries_181 (hM.1 7 (by decide)) (vp_in_nI (show 4 * j + 1 < 124 by omega) (by decide)) ?_
    rw [nI_clamp (show 4 * j + 1 < 2147483648 by omega), hu1]
    refine z_V1 (mi' := mX11_years) dX11_carries_182 lX11_214 nX11_years kX11_years (by decide) (Nat.le_of_ble_eq_true rfl) (Nat.zero_le _) (Nat.zero_le _) (hM.1 _ (by decide)) rfl rfl ?_
    refine sX11_years hM hL hct hc8 ?_ ?_
    · intro hz i hi1 hi2 e1 ν0 hν G2 ν hM hQ hr9 hL9
      exact z_ireturn (mi := mX11_carries) dX11_carries_185 rfl rfl (Nat.zero_le _) (Nat.zero_le _) (hO (by rw [zrX_121 tq]; exact hz) _ _ hM hQ (fun r hr => by rw [hr9 r hr, hν, zmkeep_in hwi]) (by rw [znx_121 tq, e1, nI_clamp (show i < 2147483648 by omega)]; exact hL9) _)
    · intro rn rd hz G2 hM hQ
      exact z_ireturn (mi := mX11_carries) dX11_carries_185 rfl rfl (Nat.zero_le _) (Nat.zero_le _) (hR rn rd (by rw [zrX_121 tq]; exact hz) _ hM hQ)
  by_cases t111 : x1 = 111
  · rw [t111]
    refine z_tableIn (tgt := 173) dX11_carries_6 (by decide) (by decide) rfl (by decide) ?_
    have tq : x1 = 121 := by rcases hwf with ⟨e, e2⟩ | ⟨e, e2⟩ | ⟨e, e2⟩ | ⟨e, e2⟩ | ⟨e, e2⟩ | ⟨e, e2⟩ <;> first | exact e | (exfalso; simp_all)
    have hlen : ns.length = 1 := by rcases hwf with ⟨e, e2⟩ | ⟨e, e2⟩ | ⟨e, e2⟩ | ⟨e, e2⟩ | ⟨e, e2⟩ | ⟨e, e2⟩ <;> first | exact e2 | exact absurd (tq.symm.trans e) (by decide)
    have hu1 : μ 7 (4 * j + 1) = ns.getD 0 0 := hu 0 (by omega)
    refine z_aload_n dX11_carries_173 rfl ?_
    refine z_aload_n dX11_carries_174 rfl ?_
    refine z_get dX11_carries_175 fX11_33.r (hM.1 _ (by decide)) rfl ?_
    refine z_iload_n dX11_carries_178 rfl ?_
    refine z_iconst (v := 1) dX11_carries_179 (by decide) ?_
    refine z_iadd dX11_carries_180 ?_
    rw [nI_1]
    refine z_iald dX11_carries_181 (hM.1 7 (by decide)) (vp_in_nI (show 4 * j + 1 < 124 by omega) (by decide)) ?_
    rw [nI_clamp (show 4 * j + 1 < 2147483648 by omega), hu1]
    refine z_V1 (mi' := mX11_years) dX11_carries_182 lX11_214 nX11_years kX11_years (by decide) (Nat.le_of_ble_eq_true rfl) (Nat.zero_le _) (Nat.zero_le _) (hM.1 _ (by decide)) rfl rfl ?_
    refine sX11_years hM hL hct hc8 ?_ ?_
    · intro hz i hi1 hi2 e1 ν0 hν G2 ν hM hQ hr9 hL9
      exact z_ireturn (mi := mX11_carries) dX11_carries_185 rfl rfl (Nat.zero_le _) (Nat.zero_le _) (hO (by rw [zrX_121 tq]; exact hz) _ _ hM hQ (fun r hr => by rw [hr9 r hr, hν, zmkeep_in hwi]) (by rw [znx_121 tq, e1, nI_clamp (show i < 2147483648 by omega)]; exact hL9) _)
    · intro rn rd hz G2 hM hQ
      exact z_ireturn (mi := mX11_carries) dX11_carries_185 rfl rfl (Nat.zero_le _) (Nat.zero_le _) (hR rn rd (by rw [zrX_121 tq]; exact hz) _ hM hQ)
  by_cases t112 : x1 = 112
  · rw [t112]
    refine z_tableIn (tgt := 173) dX11_carries_6 (by decide) (by decide) rfl (by decide) ?_
    have tq : x1 = 121 := by rcases hwf with ⟨e, e2⟩ | ⟨e, e2⟩ | ⟨e, e2⟩ | ⟨e, e2⟩ | ⟨e, e2⟩ | ⟨e, e2⟩ <;> first | exact e | (exfalso; simp_all)
    have hlen : ns.length = 1 := by rcases hwf with ⟨e, e2⟩ | ⟨e, e2⟩ | ⟨e, e2⟩ | ⟨e, e2⟩ | ⟨e, e2⟩ | ⟨e, e2⟩ <;> first | exact e2 | exact absurd (tq.symm.trans e) (by decide)
    have hu1 : μ 7 (4 * j + 1) = ns.getD 0 0 := hu 0 (by omega)
    refine z_aload_n dX11_carries_173 rfl ?_
    refine z_aload_n dX11_carries_174 rfl ?_
    refine z_get dX11_carries_175 fX11_33.r (hM.1 _ (by decide)) rfl ?_
    refine z_iload_n dX11_carries_178 rfl ?_
    refine z_iconst (v := 1) dX11_carries_179 (by decide) ?_
    refine z_iadd dX11_carries_180 ?_
    rw [nI_1]
    refine z_iald dX11_carries_181 (hM.1 7 (by decide)) (vp_in_nI (show 4 * j + 1 < 124 by omega) (by decide)) ?_
    rw [nI_clamp (show 4 * j + 1 < 2147483648 by omega), hu1]
    refine z_V1 (mi' := mX11_years) dX11_carries_182 lX11_214 nX11_years kX11_years (by decide) (Nat.le_of_ble_eq_true rfl) (Nat.zero_le _) (Nat.zero_le _) (hM.1 _ (by decide)) rfl rfl ?_
    refine sX11_years hM hL hct hc8 ?_ ?_
    · intro hz i hi1 hi2 e1 ν0 hν G2 ν hM hQ hr9 hL9
      exact z_ireturn (mi := mX11_carries) dX11_carries_185 rfl rfl (Nat.zero_le _) (Nat.zero_le _) (hO (by rw [zrX_121 tq]; exact hz) _ _ hM hQ (fun r hr => by rw [hr9 r hr, hν, zmkeep_in hwi]) (by rw [znx_121 tq, e1, nI_clamp (show i < 2147483648 by omega)]; exact hL9) _)
    · intro rn rd hz G2 hM hQ
      exact z_ireturn (mi := mX11_carries) dX11_carries_185 rfl rfl (Nat.zero_le _) (Nat.zero_le _) (hR rn rd (by rw [zrX_121 tq]; exact hz) _ hM hQ)
  by_cases t113 : x1 = 113
  · rw [t113]
    refine z_tableIn (tgt := 173) dX11_carries_6 (by decide) (by decide) rfl (by decide) ?_
    have tq : x1 = 121 := by rcases hwf with ⟨e, e2⟩ | ⟨e, e2⟩ | ⟨e, e2⟩ | ⟨e, e2⟩ | ⟨e, e2⟩ | ⟨e, e2⟩ <;> first | exact e | (exfalso; simp_all)
    have hlen : ns.length = 1 := by rcases hwf with ⟨e, e2⟩ | ⟨e, e2⟩ | ⟨e, e2⟩ | ⟨e, e2⟩ | ⟨e, e2⟩ | ⟨e, e2⟩ <;> first | exact e2 | exact absurd (tq.symm.trans e) (by decide)
    have hu1 : μ 7 (4 * j + 1) = ns.getD 0 0 := hu 0 (by omega)
    refine z_aload_n dX11_carries_173 rfl ?_
    refine z_aload_n dX11_carries_174 rfl ?_
    refine z_get dX11_carries_175 fX11_33.r (hM.1 _ (by decide)) rfl ?_
    refine z_iload_n dX11_carries_178 rfl ?_
    refine z_iconst (v := 1) dX11_carries_179 (by decide) ?_
    refine z_iadd dX11_carries_180 ?_
    rw [nI_1]
    refine z_iald dX11_carries_181 (hM.1 7 (by decide)) (vp_in_nI (show 4 * j + 1 < 124 by omega) (by decide)) ?_
    rw [nI_clamp (show 4 * j + 1 < 2147483648 by omega), hu1]
    refine z_V1 (mi' := mX11_years) dX11_carries_182 lX11_214 nX11_years kX11_years (by decide) (Nat.le_of_ble_eq_true rfl) (Nat.zero_le _) (Nat.zero_le _) (hM.1 _ (by decide)) rfl rfl ?_
    refine sX11_years hM hL hct hc8 ?_ ?_
    · intro hz i hi1 hi2 e1 ν0 hν G2 ν hM hQ hr9 hL9
      exact z_ireturn (mi := mX11_carries) dX11_carries_185 rfl rfl (Nat.zero_le _) (Nat.zero_le _) (hO (by rw [zrX_121 tq]; exact hz) _ _ hM hQ (fun r hr => by rw [hr9 r hr, hν, zmkeep_in hwi]) (by rw [znx_121 tq, e1, nI_clamp (show i < 2147483648 by omega)]; exact hL9) _)
    · intro rn rd hz G2 hM hQ
      exact z_ireturn (mi := mX11_carries) dX11_carries_185 rfl rfl (Nat.zero_le _) (Nat.zero_le _) (hR rn rd (by rw [zrX_121 tq]; exact hz) _ hM hQ)
  by_cases t114 : x1 = 114
  · rw [t114]
    refine z_tableIn (tgt := 173) dX11_carries_6 (by decide) (by decide) rfl (by decide) ?_
    have tq : x1 = 121 := by rcases hwf with ⟨e, e2⟩ | ⟨e, e2⟩ | ⟨e, e2⟩ | ⟨e, e2⟩ | ⟨e, e2⟩ | ⟨e, e2⟩ <;> first | exact e | (exfalso; simp_all)
    have hlen : ns.length = 1 := by rcases hwf with ⟨e, e2⟩ | ⟨e, e2⟩ | ⟨e, e2⟩ | ⟨e, e2⟩ | ⟨e, e2⟩ | ⟨e, e2⟩ <;> first | exact e2 | exact absurd (tq.symm.trans e) (by decide)
    have hu1 : μ 7 (4 * j + 1) = ns.getD 0 0 := hu 0 (by omega)
    refine z_aload_n dX11_carries_173 rfl ?_
    refine z_aload_n dX11_carries_174 rfl ?_
    refine z_get dX11_carries_175 fX11_33.r (hM.1 _ (by decide)) rfl ?_
    refine z_iload_n dX11_carries_178 rfl ?_
    refine z_iconst (v := 1) dX11_carries_179 (by decide) ?_
    refine z_iadd dX11_carries_180 ?_
    rw [nI_1]
    refine z_iald dX11_carries_181 (hM.1 7 (by decide)) (vp_in_nI (show 4 * j + 1 < 124 by omega) (by decide)) ?_
    rw [nI_clamp (show 4 * j + 1 < 2147483648 by omega), hu1]
    refine z_V1 (mi' := mX11_years) dX11_carries_182 lX11_214 nX11_years kX11_years (by decide) (Nat.le_of_ble_eq_true rfl) (Nat.zero_le _) (Nat.zero_le _) (hM.1 _ (by decide)) rfl rfl ?_
    refine sX11_years hM hL hct hc8 ?_ ?_
    · intro hz i hi1 hi2 e1 ν0 hν G2 ν hM hQ hr9 hL9
      exact z_ireturn (mi := mX11_carries) dX11_carries_185 rfl rfl (Nat.zero_le _) (Nat.zero_le _) (hO (by rw [zrX_121 tq]; exact hz) _ _ hM hQ (fun r hr => by rw [hr9 r hr, hν, zmkeep_in hwi]) (by rw [znx_121 tq, e1, nI_clamp (show i < 2147483648 by omega)]; exact hL9) _)
    · intro rn rd hz G2 hM hQ
      exact z_ireturn (mi := mX11_carries) dX11_carries_185 rfl rfl (Nat.zero_le _) (Nat.zero_le _) (hR rn rd (by rw [zrX_121 tq]; exact hz) _ hM hQ)
  by_cases t115 : x1 = 115
  · rw [t115]
    refine z_tableIn (tgt := 139) dX11_carries_6 (by decide) (by decide) rfl (by decide) ?_
    have tq : x1 = 115 := t115
    have hlen : ns.length = 1 := by rcases hwf with ⟨e, e2⟩ | ⟨e, e2⟩ | ⟨e, e2⟩ | ⟨e, e2⟩ | ⟨e, e2⟩ | ⟨e, e2⟩ <;> first | exact e2 | exact absurd (tq.symm.trans e) (by decide)
    have hu1 : μ 7 (4 * j + 1) = ns.getD 0 0 := hu 0 (by omega)
    refine z_aload_n dX11_carries_139 rfl ?_
    refine z_aload_n dX11_carries_140 rfl ?_
    refine z_get dX11_carries_141 fX11_33.r (hM.1 _ (by decide)) rfl ?_
    refine z_iload_n dX11_carries_144 rfl ?_
    refine z_iconst (v := 1) dX11_carries_145 (by decide) ?_
    refine z_iadd dX11_carries_146 ?_
    rw [nI_1]
    refine z_iald dX11_carries_147 (hM.1 7 (by decide)) (vp_in_nI (show 4 * j + 1 < 124 by omega) (by decide)) ?_
    rw [nI_clamp (show 4 * j + 1 < 2147483648 by omega), hu1]
    refine z_V1 (mi' := mX11_sharpen) dX11_carries_148 lX11_208 nX11_sharpen kX11_sharpen (by decide) (Nat.le_of_ble_eq_true rfl) (Nat.zero_le _) (Nat.zero_le _) (hM.1 _ (by decide)) rfl rfl ?_
    refine sX11_sharpen hM hL hct hc8 ?_ ?_
    · intro hz c hc e1 ν hν G2 hM hQ
      have hL2 : zRel σ S F E K (ν 1) mm fl := by rw [hν, zmkeep_r (by decide) (by decide)]; exact hL
      exact z_ireturn (mi := mX11_carries) dX11_carries_151 rfl rfl (Nat.zero_le _) (Nat.zero_le _) (hO (by rw [zrX_115 tq]; exact hz) _ _ hM hQ (fun r hr => by simp only [zu_r hr]; rw [hν, zmkeep_in hwi]) (by rw [znx_115 tq, e1, nI_clamp (show c < 2147483648 by omega)]; exact ⟨mm, fl, hL2.oSharpen hc⟩) _)
    · intro rn rd hz G2 hM hQ
      exact z_ireturn (mi := mX11_carries) dX11_carries_151 rfl rfl (Nat.zero_le _) (Nat.zero_le _) (hR rn rd (by rw [zrX_115 tq]; exact hz) _ hM hQ)
  by_cases t116 : x1 = 116
  · rw [t116]
    refine z_tableIn (tgt := 173) dX11_carries_6 (by decide) (by decide) rfl (by decide) ?_
    have tq : x1 = 121 := by rcases hwf with ⟨e, e2⟩ | ⟨e, e2⟩ | ⟨e, e2⟩ | ⟨e, e2⟩ | ⟨e, e2⟩ | ⟨e, e2⟩ <;> first | exact e | (exfalso; simp_all)
    have hlen : ns.length = 1 := by rcases hwf with ⟨e, e2⟩ | ⟨e, e2⟩ | ⟨e, e2⟩ | ⟨e, e2⟩ | ⟨e, e2⟩ | ⟨e, e2⟩ <;> first | exact e2 | exact absurd (tq.symm.trans e) (by decide)
    have hu1 : μ 7 (4 * j + 1) = ns.getD 0 0 := hu 0 (by omega)
    refine z_aload_n dX11_carries_173 rfl ?_
    refine z_aload_n dX11_carries_174 rfl ?_
    refine z_get dX11_carries_175 fX11_33.r (hM.1 _ (by decide)) rfl ?_
    refine z_iload_n dX11_carries_178 rfl ?_
    refine z_iconst (v := 1) dX11_carries_179 (by decide) ?_
    refine z_iadd dX11_carries_180 ?_
    rw [nI_1]
    refine z_iald dX11_carries_181 (hM.1 7 (by decide)) (vp_in_nI (show 4 * j + 1 < 124 by omega) (by decide)) ?_
    rw [nI_clamp (show 4 * j + 1 < 2147483648 by omega), hu1]
    refine z_V1 (mi' := mX11_years) dX11_carries_182 lX11_214 nX11_years kX11_years (by decide) (Nat.le_of_ble_eq_true rfl) (Nat.zero_le _) (Nat.zero_le _) (hM.1 _ (by decide)) rfl rfl ?_
    refine sX11_years hM hL hct hc8 ?_ ?_
    · intro hz i hi1 hi2 e1 ν0 hν G2 ν hM hQ hr9 hL9
      exact z_ireturn (mi := mX11_carries) dX11_carries_185 rfl rfl (Nat.zero_le _) (Nat.zero_le _) (hO (by rw [zrX_121 tq]; exact hz) _ _ hM hQ (fun r hr => by rw [hr9 r hr, hν, zmkeep_in hwi]) (by rw [znx_121 tq, e1, nI_clamp (show i < 2147483648 by omega)]; exact hL9) _)
    · intro rn rd hz G2 hM hQ
      exact z_ireturn (mi := mX11_carries) dX11_carries_185 rfl rfl (Nat.zero_le _) (Nat.zero_le _) (hR rn rd (by rw [zrX_121 tq]; exact hz) _ hM hQ)
  by_cases t117 : x1 = 117
  · rw [t117]
    refine z_tableIn (tgt := 173) dX11_carries_6 (by decide) (by decide) rfl (by decide) ?_
    have tq : x1 = 121 := by rcases hwf with ⟨e, e2⟩ | ⟨e, e2⟩ | ⟨e, e2⟩ | ⟨e, e2⟩ | ⟨e, e2⟩ | ⟨e, e2⟩ <;> first | exact e | (exfalso; simp_all)
    have hlen : ns.length = 1 := by rcases hwf with ⟨e, e2⟩ | ⟨e, e2⟩ | ⟨e, e2⟩ | ⟨e, e2⟩ | ⟨e, e2⟩ | ⟨e, e2⟩ <;> first | exact e2 | exact absurd (tq.symm.trans e) (by decide)
    have hu1 : μ 7 (4 * j + 1) = ns.getD 0 0 := hu 0 (by omega)
    refine z_aload_n dX11_carries_173 rfl ?_
    refine z_aload_n dX11_carries_174 rfl ?_
    refine z_get dX11_carries_175 fX11_33.r (hM.1 _ (by decide)) rfl ?_
    refine z_iload_n dX11_carries_178 rfl ?_
    refine z_iconst (v := 1) dX11_carries_179 (by decide) ?_
    refine z_iadd dX11_carries_180 ?_
    rw [nI_1]
    refine z_iald dX11_carries_181 (hM.1 7 (by decide)) (vp_in_nI (show 4 * j + 1 < 124 by omega) (by decide)) ?_
    rw [nI_clamp (show 4 * j + 1 < 2147483648 by omega), hu1]
    refine z_V1 (mi' := mX11_years) dX11_carries_182 lX11_214 nX11_years kX11_years (by decide) (Nat.le_of_ble_eq_true rfl) (Nat.zero_le _) (Nat.zero_le _) (hM.1 _ (by decide)) rfl rfl ?_
    refine sX11_years hM hL hct hc8 ?_ ?_
    · intro hz i hi1 hi2 e1 ν0 hν G2 ν hM hQ hr9 hL9
      exact z_ireturn (mi := mX11_carries) dX11_carries_185 rfl rfl (Nat.zero_le _) (Nat.zero_le _) (hO (by rw [zrX_121 tq]; exact hz) _ _ hM hQ (fun r hr => by rw [hr9 r hr, hν, zmkeep_in hwi]) (by rw [znx_121 tq, e1, nI_clamp (show i < 2147483648 by omega)]; exact hL9) _)
    · intro rn rd hz G2 hM hQ
      exact z_ireturn (mi := mX11_carries) dX11_carries_185 rfl rfl (Nat.zero_le _) (Nat.zero_le _) (hR rn rd (by rw [zrX_121 tq]; exact hz) _ hM hQ)
  by_cases t118 : x1 = 118
  · rw [t118]
    refine z_tableIn (tgt := 173) dX11_carries_6 (by decide) (by decide) rfl (by decide) ?_
    have tq : x1 = 121 := by rcases hwf with ⟨e, e2⟩ | ⟨e, e2⟩ | ⟨e, e2⟩ | ⟨e, e2⟩ | ⟨e, e2⟩ | ⟨e, e2⟩ <;> first | exact e | (exfalso; simp_all)
    have hlen : ns.length = 1 := by rcases hwf with ⟨e, e2⟩ | ⟨e, e2⟩ | ⟨e, e2⟩ | ⟨e, e2⟩ | ⟨e, e2⟩ | ⟨e, e2⟩ <;> first | exact e2 | exact absurd (tq.symm.trans e) (by decide)
    have hu1 : μ 7 (4 * j + 1) = ns.getD 0 0 := hu 0 (by omega)
    refine z_aload_n dX11_carries_173 rfl ?_
    refine z_aload_n dX11_carries_174 rfl ?_
    refine z_get dX11_carries_175 fX11_33.r (hM.1 _ (by decide)) rfl ?_
    refine z_iload_n dX11_carries_178 rfl ?_
    refine z_iconst (v := 1) dX11_carries_179 (by decide) ?_
    refine z_iadd dX11_carries_180 ?_
    rw [nI_1]
    refine z_iald dX11_carries_181 (hM.1 7 (by decide)) (vp_in_nI (show 4 * j + 1 < 124 by omega) (by decide)) ?_
    rw [nI_clamp (show 4 * j + 1 < 2147483648 by omega), hu1]
    refine z_V1 (mi' := mX11_years) dX11_carries_182 lX11_214 nX11_years kX11_years (by decide) (Nat.le_of_ble_eq_true rfl) (Nat.zero_le _) (Nat.zero_le _) (hM.1 _ (by decide)) rfl rfl ?_
    refine sX11_years hM hL hct hc8 ?_ ?_
    · intro hz i hi1 hi2 e1 ν0 hν G2 ν hM hQ hr9 hL9
      exact z_ireturn (mi := mX11_carries) dX11_carries_185 rfl rfl (Nat.zero_le _) (Nat.zero_le _) (hO (by rw [zrX_121 tq]; exact hz) _ _ hM hQ (fun r hr => by rw [hr9 r hr, hν, zmkeep_in hwi]) (by rw [znx_121 tq, e1, nI_clamp (show i < 2147483648 by omega)]; exact hL9) _)
    · intro rn rd hz G2 hM hQ
      exact z_ireturn (mi := mX11_carries) dX11_carries_185 rfl rfl (Nat.zero_le _) (Nat.zero_le _) (hR rn rd (by rw [zrX_121 tq]; exact hz) _ hM hQ)
  by_cases t119 : x1 = 119
  · rw [t119]
    refine z_tableIn (tgt := 152) dX11_carries_6 (by decide) (by decide) rfl (by decide) ?_
    have tq : x1 = 119 := t119
    have hlen : ns.length = 2 := by rcases hwf with ⟨e, e2⟩ | ⟨e, e2⟩ | ⟨e, e2⟩ | ⟨e, e2⟩ | ⟨e, e2⟩ | ⟨e, e2⟩ <;> first | exact e2 | exact absurd (tq.symm.trans e) (by decide)
    have hu1 : μ 7 (4 * j + 1) = ns.getD 0 0 := hu 0 (by omega)
    have hu2 : μ 7 (4 * j + 2) = ns.getD 1 0 := hu 1 (by omega)
    refine z_aload_n dX11_carries_152 rfl ?_
    refine z_aload_n dX11_carries_153 rfl ?_
    refine z_get dX11_carries_154 fX11_33.r (hM.1 _ (by decide)) rfl ?_
    refine z_iload_n dX11_carries_157 rfl ?_
    refine z_iconst (v := 1) dX11_carries_158 (by decide) ?_
    refine z_iadd dX11_carries_159 ?_
    rw [nI_1]
    refine z_iald dX11_carries_160 (hM.1 7 (by decide)) (vp_in_nI (show 4 * j + 1 < 124 by omega) (by decide)) ?_
    rw [nI_clamp (show 4 * j + 1 < 2147483648 by omega), hu1]
    refine z_aload_n dX11_carries_161 rfl ?_
    refine z_get dX11_carries_162 fX11_33.r (hM.1 _ (by decide)) rfl ?_
    refine z_iload_n dX11_carries_165 rfl ?_
    refine z_iconst (v := 2) dX11_carries_166 (by decide) ?_
    refine z_iadd dX11_carries_167 ?_
    rw [show nI (4 * j) + 2 = nI (4 * j + 2) from nI_add (4 * j) 2]
    refine z_iald dX11_carries_168 (hM.1 7 (by decide)) (vp_in_nI (show 4 * j + 2 < 124 by omega) (by decide)) ?_
    rw [nI_clamp (show 4 * j + 2 < 2147483648 by omega), hu2]
    refine z_V2 (mi' := mX11_witness) dX11_carries_169 lX11_211 nX11_witness kX11_witness (by decide) (Nat.le_of_ble_eq_true rfl) (Nat.zero_le _) (Nat.zero_le _) (hM.1 _ (by decide)) rfl rfl ?_
    refine sX11_witness hM hL hct hc8 ?_ ?_
    · intro hz f hf e1 ν hν G2 hM hQ
      have hL2 : zRel σ S F E K (ν 1) mm fl := by rw [hν, zmkeep_r (by decide) (by decide)]; exact hL
      exact z_ireturn (mi := mX11_carries) dX11_carries_172 rfl rfl (Nat.zero_le _) (Nat.zero_le _) (hO (by rw [zrX_119 tq]; exact hz) _ _ hM hQ (fun r hr => by simp only [zu_r hr]; rw [hν, zmkeep_in hwi]) (by rw [znx_119 tq, e1, nI_clamp (show f < 2147483648 by omega)]; exact ⟨mm, fl, hL2.oWitness hf⟩) _)
    · intro rn rd hz G2 hM hQ
      exact z_ireturn (mi := mX11_carries) dX11_carries_172 rfl rfl (Nat.zero_le _) (Nat.zero_le _) (hR rn rd (by rw [zrX_119 tq]; exact hz) _ hM hQ)
  by_cases t120 : x1 = 120
  · rw [t120]
    refine z_tableIn (tgt := 105) dX11_carries_6 (by decide) (by decide) rfl (by decide) ?_
    have tq : x1 = 120 := t120
    have hlen : ns.length = 2 := by rcases hwf with ⟨e, e2⟩ | ⟨e, e2⟩ | ⟨e, e2⟩ | ⟨e, e2⟩ | ⟨e, e2⟩ | ⟨e, e2⟩ <;> first | exact e2 | exact absurd (tq.symm.trans e) (by decide)
    have hu1 : μ 7 (4 * j + 1) = ns.getD 0 0 := hu 0 (by omega)
    have hu2 : μ 7 (4 * j + 2) = ns.getD 1 0 := hu 1 (by omega)
    refine z_aload_n dX11_carries_105 rfl ?_
    refine z_aload_n dX11_carries_106 rfl ?_
    refine z_get dX11_carries_107 fX11_33.r (hM.1 _ (by decide)) rfl ?_
    refine z_iload_n dX11_carries_110 rfl ?_
    refine z_iconst (v := 1) dX11_carries_111 (by decide) ?_
    refine z_iadd dX11_carries_112 ?_
    rw [nI_1]
    refine z_iald dX11_carries_113 (hM.1 7 (by decide)) (vp_in_nI (show 4 * j + 1 < 124 by omega) (by decide)) ?_
    rw [nI_clamp (show 4 * j + 1 < 2147483648 by omega), hu1]
    refine z_aload_n dX11_carries_114 rfl ?_
    refine z_get dX11_carries_115 fX11_33.r (hM.1 _ (by decide)) rfl ?_
    refine z_iload_n dX11_carries_118 rfl ?_
    refine z_iconst (v := 2) dX11_carries_119 (by decide) ?_
    refine z_iadd dX11_carries_120 ?_
    rw [show nI (4 * j) + 2 = nI (4 * j + 2) from nI_add (4 * j) 2]
    refine z_iald dX11_carries_121 (hM.1 7 (by decide)) (vp_in_nI (show 4 * j + 2 < 124 by omega) (by decide)) ?_
    rw [nI_clamp (show 4 * j + 2 < 2147483648 by omega), hu2]
    refine z_V2 (mi' := mX11_efface) dX11_carries_122 lX11_202 nX11_efface kX11_efface (by decide) (Nat.le_of_ble_eq_true rfl) (Nat.zero_le _) (Nat.zero_le _) (hM.1 _ (by decide)) rfl rfl ?_
    refine sX11_efface hM hL hct hc8 ?_ ?_
    · intro hz s f k hs hf hk ef e1 e2 ν hν G2 hM hQ
      have hL2 : zRel σ S F E K (ν 1) mm fl := by rw [hν, zmkeep_r (by decide) (by decide)]; exact hL
      exact z_ireturn (mi := mX11_carries) dX11_carries_125 rfl rfl (Nat.zero_le _) (Nat.zero_le _) (hO (by rw [zrX_120 tq]; exact hz) _ _ hM hQ (fun r hr => by unfold zmdrop; simp only [zu_r hr, zrw_n hr]; rw [hν, zmkeep_in hwi]) (by rw [znx_120 tq, e1, e2, nI_clamp (show s < 2147483648 by omega), nI_clamp (show f < 2147483648 by omega)]; exact hL2.oEff' hs hk ef (σ 13 6 + 1)) _)
    · intro rn rd hz G2 hM hQ
      exact z_ireturn (mi := mX11_carries) dX11_carries_125 rfl rfl (Nat.zero_le _) (Nat.zero_le _) (hR rn rd (by rw [zrX_120 tq]; exact hz) _ hM hQ)
  refine z_tableOut (tgt := 173) dX11_carries_6 (by have u107 := lv_neT (a := 107) t107 (by decide); have u108 := lv_neT (a := 108) t108 (by decide); have u109 := lv_neT (a := 109) t109 (by decide); have u110 := lv_neT (a := 110) t110 (by decide); have u111 := lv_neT (a := 111) t111 (by decide); have u112 := lv_neT (a := 112) t112 (by decide); have u113 := lv_neT (a := 113) t113 (by decide); have u114 := lv_neT (a := 114) t114 (by decide); have u115 := lv_neT (a := 115) t115 (by decide); have u116 := lv_neT (a := 116) t116 (by decide); have u117 := lv_neT (a := 117) t117 (by decide); have u118 := lv_neT (a := 118) t118 (by decide); have u119 := lv_neT (a := 119) t119 (by decide); have u120 := lv_neT (a := 120) t120 (by decide); omega) (by decide) ?_
  have tq : x1 = 121 := by rcases hwf with ⟨e, e2⟩ | ⟨e, e2⟩ | ⟨e, e2⟩ | ⟨e, e2⟩ | ⟨e, e2⟩ | ⟨e, e2⟩ <;> first | exact e | (exfalso; simp_all)
  have hlen : ns.length = 1 := by rcases hwf with ⟨e, e2⟩ | ⟨e, e2⟩ | ⟨e, e2⟩ | ⟨e, e2⟩ | ⟨e, e2⟩ | ⟨e, e2⟩ <;> first | exact e2 | exact absurd (tq.symm.trans e) (by decide)
  have hu1 : μ 7 (4 * j + 1) = ns.getD 0 0 := hu 0 (by omega)
  refine z_aload_n dX11_carries_173 rfl ?_
  refine z_aload_n dX11_carries_174 rfl ?_
  refine z_get dX11_carries_175 fX11_33.r (hM.1 _ (by decide)) rfl ?_
  refine z_iload_n dX11_carries_178 rfl ?_
  refine z_iconst (v := 1) dX11_carries_179 (by decide) ?_
  refine z_iadd dX11_carries_180 ?_
  rw [nI_1]
  refine z_iald dX11_carries_181 (hM.1 7 (by decide)) (vp_in_nI (show 4 * j + 1 < 124 by omega) (by decide)) ?_
  rw [nI_clamp (show 4 * j + 1 < 2147483648 by omega), hu1]
  refine z_V1 (mi' := mX11_years) dX11_carries_182 lX11_214 nX11_years kX11_years (by decide) (Nat.le_of_ble_eq_true rfl) (Nat.zero_le _) (Nat.zero_le _) (hM.1 _ (by decide)) rfl rfl ?_
  refine sX11_years hM hL hct hc8 ?_ ?_
  · intro hz i hi1 hi2 e1 ν0 hν G2 ν hM hQ hr9 hL9
    exact z_ireturn (mi := mX11_carries) dX11_carries_185 rfl rfl (Nat.zero_le _) (Nat.zero_le _) (hO (by rw [zrX_121 tq]; exact hz) _ _ hM hQ (fun r hr => by rw [hr9 r hr, hν, zmkeep_in hwi]) (by rw [znx_121 tq, e1, nI_clamp (show i < 2147483648 by omega)]; exact hL9) _)
  · intro rn rd hz G2 hM hQ
    exact z_ireturn (mi := mX11_carries) dX11_carries_185 rfl rfl (Nat.zero_le _) (Nat.zero_le _) (hR rn rd (by rw [zrX_121 tq]; exact hz) _ hM hQ)
