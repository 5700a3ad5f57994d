theorem zRiv.kp {G G' : zH} {ad : Nat → Nat} {σ : zSt} (h : zRiv G ad σ) (hk : ∀ k, k < 19 → G' (ad k) = G (ad k)) : zRiv G' ad σ := ⟨fun k h9 => (hk k h9).trans (h.1 k h9), h.2⟩
theorem zRiv.ne {G : zH} {ad : Nat → Nat} {σ : zSt} (h : zRiv G ad σ) {k : Nat} (hk : k < 19) : G (ad k) ≠ none := by rw [h.1 k hk]; exact Option.some_ne_none _
theorem zNw.rf {G : zH} {b : Nat} : zNw G G b := fun _ _ _ => rfl
theorem zNw.tr {G G1 G2 : zH} {b : Nat} (h1 : zNw G G1 b) (h2 : zNw G1 G2 b) : zNw G G2 b := fun a ha hb => (h2 a (by rw [h1 a ha hb]; exact ha) hb).trans (h1 a ha hb)
/-- what was stays when q is made and built -/
theorem zNw.ex {G G1 : zH} {q : Nat} {e : zE} (hq : G q = none) (h : zNw (zset G q e) G1 q) : ∀ a, G a ≠ none → G1 a = G a := fun a ha => by
  have hne : a ≠ q := fun z => ha (by rw [z]; exact hq)
  have h1 : zset G q e a = G a := zset_n hne
  rw [h a (by rw [h1]; exact ha) hne, h1]
theorem zNw.fr {G G1 : zH} {q : Nat} {e : zE} {ad : Nat → Nat} {σ : zSt} (hq : G q = none) (h0 : ad 0 = q) (hR : zRiv G1 ad σ) (hf : ∀ k, 1 ≤ k → k < 19 → zset G q e (ad k) = none) : ∀ k, k < 19 → G (ad k) = none := fun k hk => by
  rcases Nat.eq_zero_or_pos k with z | z
  · rw [z, h0]; exact hq
  · have h9 := hf k z hk
    have hne : ad k ≠ q := fun e9 => by
      have := hR.2 k 0 hk (by decide) (e9.trans h0.symm)
      omega
    rw [zset_n hne] at h9
    exact h9
/-- the History half built: i rivers stand in its ring -/
def zHi (G G1 : zH) (b rq : Nat) (adr : Nat → Nat → Nat) (i : Nat) : Prop := G1 b = some (.inr (3, [.ref rq, .int 0, .int 0])) ∧ G1 rq = some (.inl (.object RX6, (8, .inr (.inr (.inr (.inr (fun j => if j < i then some (adr j 0) else none))))))) ∧ G rq = none ∧ (∀ s, s < i → zRiv G1 (adr s) zz0) ∧ (∀ s j, s < i → j < 19 → G (adr s j) = none) ∧ (∀ s j s' j', s < i → s' < i → j < 19 → j' < 19 → adr s j = adr s' j' → s = s' ∧ j = j') ∧ (∀ s j, s < i → j < 19 → adr s j ≠ rq) ∧ zNw G G1 b ∧ G b ≠ none
theorem zHi.step {G G1 G2 : zH} {b rq i q : Nat} {e : zE} {adr : Nat → Nat → Nat} {ad : Nat → Nat} (h : zHi G G1 b rq adr i) (hq : G1 q = none) (h0 : ad 0 = q) (hR : zRiv G2 ad zz0) (hf : ∀ k, 1 ≤ k → k < 19 → zset G1 q e (ad k) = none) (hN : zNw (zset G1 q e) G2 q) : zHi G (zset G2 rq (.inl (.object RX6, (8, .inr (.inr (.inr (.inr (va_up (fun j => if j < i then some (adr j 0) else none) i (some q))))))))) b rq (fun s => if s = i then ad else adr s) (i + 1) := by
  have hE := zNw.ex hq hN
  have hF := zNw.fr hq h0 hR hf
  obtain ⟨h1, h2, h3, h4, h5, h6, h7, h8, h9⟩ := h
  have hbr : b ≠ rq := fun z => h9 (by rw [z]; exact h3)
  have hr1 : G1 rq ≠ none := by rw [h2]; exact Option.some_ne_none _
  have hb1 : G1 b ≠ none := by rw [h1]; exact Option.some_ne_none _
  have hFr : ∀ k, k < 19 → ad k ≠ rq := fun k hk z => hr1 (by rw [← z]; exact hF k hk)
  have hFG : ∀ k, k < 19 → G (ad k) = none := fun k hk => Classical.byContradiction fun z => by
    have hne : ad k ≠ b := fun e9 => hb1 (by rw [← e9]; exact hF k hk)
    have := h8 _ z hne
    rw [hF k hk] at this
    exact z this.symm
  have hold : ∀ s j, s < i → j < 19 → G1 (adr s j) ≠ none := fun s j hs hj => (h4 s hs).ne hj
  refine ⟨?_, ?_, h3, fun s hs => ?_, fun s j hs hj => ?_, fun s j s' j' hs hs' hj hj' e9 => ?_, fun s j hs hj => ?_, fun a ha hb => ?_, h9⟩
  · rw [zset_n hbr, hE b hb1]; exact h1
  · rw [zset_s]
    refine congrArg some (congrArg Sum.inl ?_)
    refine congrArg (fun f => (((.object RX6, (8, .inr (.inr (.inr (.inr f))))) : FieldType × vp_A))) (funext fun j => ?_)
    unfold va_up
    by_cases e1 : j = i
    · subst e1
      simp only [if_pos, if_pos (Nat.lt_succ_self j)]
      rw [h0]
    · by_cases e2 : j < i
      · simp only [if_neg e1, if_pos e2, if_pos (Nat.lt_succ_of_lt e2)]
      · simp only [if_neg e1, if_neg e2, if_neg (show ¬ j < i + 1 by omega)]
  · by_cases e1 : s = i
    · simp only [if_pos e1]
      exact hR.kp (fun k hk => zset_n (hFr k hk))
    · simp only [if_neg e1]
      have hs' : s < i := by omega
      exact (h4 s hs').kp (fun k hk => by rw [zset_n (h7 s k hs' hk)]; exact hE _ (hold s k hs' hk))
  · by_cases e1 : s = i
    · simp only [if_pos e1]; exact hFG j hj
    · simp only [if_neg e1]; exact h5 s j (by omega) hj
  · by_cases e1 : s = i
    · by_cases e2 : s' = i
      · simp only [if_pos e1, if_pos e2] at e9
        exact ⟨e1.trans e2.symm, hR.2 j j' hj hj' e9⟩
      · simp only [if_pos e1, if_neg e2] at e9
        exact absurd (hF j hj) (by rw [e9]; exact hold s' j' (by omega) hj')
    · by_cases e2 : s' = i
      · simp only [if_neg e1, if_pos e2] at e9
        exact absurd (hF j' hj') (by rw [← e9]; exact hold s j (by omega) hj)
      · simp only [if_neg e1, if_neg e2] at e9
        exact h6 s j s' j' (by omega) (by omega) hj hj' e9
  · by_cases e1 : s = i
    · simp only [if_pos e1]; exact hFr j hj
    · simp only [if_neg e1]; exact h7 s j (by omega) hj
  · have e1 := h8 a ha hb
    rw [zset_n (fun z => ha (by rw [z]; exact h3)), hE a (by rw [e1]; exact ha), e1]
set_option maxHeartbeats 4000000 in
set_option maxRecDepth 10000 in
theorem sX3_init {Γ : zG} {d : Nat} {G : zH} {Post : zV} {b : Nat} (hG : G b = some (.inr (3, [.null, .int 0, .int 0]))) (hP : ∀ G1 rq adr, zHi G G1 b rq adr 8 → Post none G1) : zM Γ (d + 2) mX3_init 153 2512 [.ref b, .int (nI 8)] G Post := by
  refine zM_of pnX3 rfl (Nat.le_of_ble_eq_true rfl) rfl ?_
  have hb0 : G b ≠ none := by rw [hG]; exact Option.some_ne_none _
  have key : ∀ (r i : Nat) (G1 : zH) (rq : Nat) (adr : Nat → Nat → Nat), i ≤ 8 → 8 < i + r → zHi G G1 b rq adr i → zX Γ mX3_init (d + 2) 153 2512 32 [some (.ref b), some (.int (nI 8)), some (.int (nI i))] [] G1 (1 + 19 * i) (8 + 313 * i) (zlift Post) := by
    intro r
    induction r with
    | zero => intro i G1 rq adr h8 h9 hH; omega
    | succ r ih =>
      intro i G1 rq adr h8 h9 hH
      refine z_iload_n dX3_init_32 rfl ?_
      refine z_aload_n dX3_init_33 rfl ?_
      refine z_get dX3_init_34 fX3_18.r hH.1 rfl ?_
      refine z_alen (v := nI 8) dX3_init_37 hH.2.1 rfl ?_
      refine z_icmp_ge (tgt := 60) dX3_init_38 (by decide) (fun c1 => ?_) (fun c1 => ?_)
      · have hi := (nI_leI (by decide) (by omega)).mp c1
        obtain rfl : i = 8 := by omega
        exact z_vreturn (mi := mX3_init) dX3_init_60 rfl (by decide) (by decide) (hP _ rq adr hH)
      · have hi : i < 8 := Nat.lt_of_not_le fun q => c1 ((nI_leI (by decide) (by omega)).mpr q)
        refine z_aload_n dX3_init_41 rfl ?_
        refine z_get dX3_init_42 fX3_18.r hH.1 rfl ?_
        refine z_iload_n dX3_init_45 rfl ?_
        refine z_new (fs := [.int 0, .null, .null, .null, .null, .null]) dX3_init_46 zc6 gX3_16 (by decide) (by omega) (by omega) (fun q hq => ?_)
        refine z_dup dX3_init_49 rfl ?_
        refine z_callN0 (mi' := mX6_init) (mc' := 18) (ms' := 307) dX3_init_50 (List.mem_of_getElem? (i := 6) rfl) niX6_init iiX6_init rfl rfl nX6_init kX6_init (Nat.le_of_ble_eq_true rfl) (Nat.le_of_ble_eq_true rfl) (by omega) (by omega) ?_
        refine sX6_init (zset_s _ _ _) (fun G2 ad h0 hR hf hN => ?_)
        have hE := zNw.ex hq hN
        have hq2 : G2 q = some (.inr (6, [.int 100, .ref (ad 1), .ref (ad 2), .ref (ad 3), .ref (ad 4), .ref (ad 5)])) := by
          rw [← h0]; exact hR.1 0 (by decide)
        refine z_qast (ci := 6) dX3_init_53 rfl ((hE rq (by rw [hH.2.1]; exact Option.some_ne_none _)).trans hH.2.1) hq2 (vp_in_nI (n := i) (by omega) (by decide)) ?_
        rw [nI_clamp (show i < 2147483648 by omega)]
        refine z_iinc dX3_init_54 rfl rfl (by decide) rfl ?_
        refine z_goto (tgt := 32) dX3_init_57 (by decide) ?_
        have h9 := ih (i + 1) _ rq _ (by omega) (by omega) (hH.step hq h0 hR hf hN)
        rw [show 1 + 19 * (i + 1) = 1 + 19 * i + 1 + 18 by omega, show 8 + 313 * (i + 1) = 8 + 313 * i + 6 + 307 by omega] at h9
        exact z_sub (lv' := [some (.ref b), some (.int (nI 8)), some (.int (nI (i + 1)))]) ⟨rfl, rfl, zsl (zinc i), trivial⟩ h9
  refine z_aload_n dX3_init_0 rfl ?_
  refine z_objInit dX3_init_1 loX3_1 (by decide) ?_
  refine z_aload_n dX3_init_4 rfl ?_
  refine z_iconst (v := 0) dX3_init_5 (by decide) ?_
  refine z_put dX3_init_6 fX3_7 hG rfl rfl (Nat.le_of_ble_eq_true rfl) ?_
  refine z_aload_n dX3_init_9 rfl ?_
  refine z_iconst (v := 0) dX3_init_10 (by decide) ?_
  refine z_put dX3_init_11 fX3_13 (zset_s _ _ _) rfl rfl (Nat.le_of_ble_eq_true rfl) ?_
  refine z_aload_n dX3_init_14 rfl ?_
  refine z_iload_n dX3_init_15 rfl ?_
  refine z_if_le (tgt := 23) dX3_init_16 (by decide) (fun c1 => absurd c1 (by decide)) (fun _ => ?_)
  refine z_iload_n dX3_init_19 rfl ?_
  refine z_goto (tgt := 24) dX3_init_20 (by decide) ?_
  refine z_newq (N := 8) dX3_init_24 gX3_16 (by decide) (by decide) (by decide) (by decide) (by decide) (fun rq hrq => ?_)
  have hbr : b ≠ rq := fun z => by
    rw [← z, zset_s] at hrq
    cases hrq
  rw [zset_n (Ne.symm hbr), zset_n (Ne.symm hbr)] at hrq
  refine z_putF dX3_init_27 fX3_18 rfl ((zset_n hbr).trans (zset_s _ _ _)) rfl rfl (Nat.le_of_ble_eq_true rfl) ?_
  refine z_iconst (v := 0) dX3_init_30 (by decide) ?_
  refine z_istore_n dX3_init_31 (by decide) rfl ?_
  refine key 9 0 _ rq (fun _ _ => 0) (by decide) (by decide) ⟨zset_s _ _ _, ?_, hrq, fun s hs => absurd hs (Nat.not_lt_zero s), fun s j hs => absurd hs (Nat.not_lt_zero s), fun s j s' j' hs => absurd hs (Nat.not_lt_zero s), fun s j hs => absurd hs (Nat.not_lt_zero s), fun a ha hb => ?_, hb0⟩
  · rw [zset_n (Ne.symm hbr), zset_s]
    rfl
  · rw [zset_n hb, zset_n (fun z => ha (by rw [z]; exact hrq)), zset_n hb, zset_n hb]
section ZCI
variable {Γ : zG} {mi : zMI} {d mc ms pc k n : Nat} {lv : List (Option Value)} {st : List Value} {G : zH} {Post : zP}
theorem z_callI1 {mi' : zMI} {mc' ms' j q : Nat} {v : Value} (hd : decode mi.2.1 pc = .ok (.invokespecial j, 3)) (hl9 : zLI mi.1.cls j mi'.1) (hni : mi'.1.name = "<init>") (hr : mi'.2.2.2.1 = none) (hds : zDs mi'.1 1) (hc : Cond.code mi'.1 mi'.2.1 mi'.2.2.1 mi'.2.2.2.1 ∈ lw_good) (hm : mi'.2.2.1 ≤ 45) (hst : (st.map fun v => v.category).sum ≤ 8) (hk : k + mc' ≤ mc) (hn : n + ms' ≤ ms)
    (hM : zM Γ d mi' mc' ms' [.ref q, v] G (fun v G' => zX Γ mi (d + 1) mc ms (pc + 3) lv (v.toList ++ st) G' (k + mc') (n + ms') Post)) : zX Γ mi (d + 1) mc ms pc lv (v :: .ref q :: st) G k n Post := z_callI (As := [v]) hd hl9 hni hr hds hc hm rfl hst hk hn hM
theorem z_callI0 {mi' : zMI} {mc' ms' j q : Nat} (hd : decode mi.2.1 pc = .ok (.invokespecial j, 3)) (hl9 : zLI mi.1.cls j mi'.1) (hni : mi'.1.name = "<init>") (hr : mi'.2.2.2.1 = none) (hds : zDs mi'.1 0) (hc : Cond.code mi'.1 mi'.2.1 mi'.2.2.1 mi'.2.2.2.1 ∈ lw_good) (hm : mi'.2.2.1 ≤ 45) (hst : (st.map fun v => v.category).sum ≤ 8) (hk : k + mc' ≤ mc) (hn : n + ms' ≤ ms)
    (hM : zM Γ d mi' mc' ms' [.ref q] G (fun v G' => zX Γ mi (d + 1) mc ms (pc + 3) lv (v.toList ++ st) G' (k + mc') (n + ms') Post)) : zX Γ mi (d + 1) mc ms pc lv (.ref q :: st) G k n Post := z_callI (As := []) hd hl9 hni hr hds hc hm rfl hst hk hn hM
end ZCI
set_option maxHeartbeats 4000000 in
set_option maxRecDepth 10000 in
theorem sJ5_init {Γ : zG} {d : Nat} {G : zH} {Post : zV} {b : Nat} (hG : G b = some (.inr (7, [.null, .int 0, .int 0, .int 0]))) (hP : ∀ G1 q1, zCo G G1 b 7 [.ref q1, .int 0, .int 0, .int 0] [(q1, .inl (.byte, (16, .inl (fun _ => 0))))] → Post none G1) : zM Γ d mJ5_init_d00df 1 16 [.ref b, .int 16] G Post := by
  refine zM_of pnJ5 rfl (Nat.le_of_ble_eq_true rfl) rfl ?_
  have hC := zCo.start hG
  refine z_aload_n dJ5_init_d00df_0 rfl ?_
  refine z_objInit dJ5_init_d00df_1 loJ5_3 (by decide) ?_
  refine z_gets dJ5_init_d00df_4 wJ5_18 zkCS ?_
  refine z_if_eq (tgt := 25) dJ5_init_d00df_7 (by decide) (fun c1 => absurd c1 (by decide)) (fun _ => ?_)
  refine z_aload_n dJ5_init_d00df_10 rfl ?_
  refine z_iload_n dJ5_init_d00df_11 rfl ?_
  refine z_cnew_b (N := 16) dJ5_init_d00df_12 hC (by decide) (by decide) (by decide) (by decide) (by decide) (fun G1 q1 hC => ?_)
  refine z_cput (fs' := [.ref q1, .int 0, .int 0, .int 0]) dJ5_init_d00df_14 fJ5_15 hC rfl rfl (Nat.le_of_ble_eq_true rfl) rfl (fun G2 hC => ?_)
  refine z_aload_n dJ5_init_d00df_17 rfl ?_
  refine z_iconst (v := 0) dJ5_init_d00df_18 (by decide) ?_
  refine z_cput (fs' := [.ref q1, .int 0, .int 0, .int 0]) dJ5_init_d00df_19 fJ5_22 hC rfl rfl (Nat.le_of_ble_eq_true rfl) rfl (fun G3 hC => ?_)
  refine z_goto (tgt := 38) dJ5_init_d00df_22 (by decide) ?_
  exact z_vreturn (mi := mJ5_init_d00df) dJ5_init_d00df_38 rfl (by decide) (by decide) (hP _ q1 hC)
set_option maxHeartbeats 4000000 in
set_option maxRecDepth 10000 in
theorem sJ4_init {Γ : zG} {d : Nat} {G : zH} {Post : zV} {b : Nat} (hG : G b = some (.inr (7, [.null, .int 0, .int 0, .int 0]))) (hP : ∀ G1 q1, zCo G G1 b 7 [.ref q1, .int 0, .int 0, .int 0] [(q1, .inl (.byte, (16, .inl (fun _ => 0))))] → Post none G1) : zM Γ (d + 1) mJ4_init_da8c8 1 16 [.ref b] G Post := by
  refine zM_of pnJ4 rfl (Nat.le_of_ble_eq_true rfl) rfl ?_
  refine z_aload_n dJ4_init_da8c8_0 rfl ?_
  refine z_bipush (v := 16) dJ4_init_da8c8_1 (by decide) ?_
  refine z_callI1 (mi' := mJ5_init_d00df) (mc' := 1) (ms' := 16) dJ4_init_da8c8_3 lJ4_1 rfl rfl nJ5_init_d00df kJ5_init_d00df (Nat.le_of_ble_eq_true rfl) (by decide) (by decide) (by decide) ?_
  refine sJ5_init hG (fun G1 q1 hC => ?_)
  exact z_vreturn (mi := mJ4_init_da8c8) dJ4_init_da8c8_6 rfl (by decide) (by decide) (hP _ q1 hC)
