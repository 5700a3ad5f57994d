/-- an object under construction: its fields, and the cells that were made for it -/
def zCo (G0 G : zH) (b ci : Nat) (fs : List Value) (qs : List (Nat × zE)) : Prop := G b = some (.inr (ci, fs)) ∧ (∀ p ∈ qs, G p.1 = some p.2 ∧ G0 p.1 = none) ∧ (qs.map Prod.fst).Nodup ∧ (∀ a, G0 a ≠ none → a ≠ b → G a = G0 a) ∧ G0 b ≠ none
theorem zCo.start {G : zH} {b ci : Nat} {fs : List Value} (h : G b = some (.inr (ci, fs))) : zCo G G b ci fs [] := ⟨h, fun p hp => absurd hp List.not_mem_nil, List.nodup_nil, fun _ _ _ => rfl, by rw [h]; exact Option.some_ne_none _⟩
section ZCO
variable {G0 G G1 : zH} {b ci : Nat} {fs : List Value} {qs : List (Nat × zE)}
theorem zCo.fresh {q : Nat} (h : zCo G0 G b ci fs qs) (hq : G q = none) : G0 q = none ∧ b ≠ q := by
  have hb : b ≠ q := fun z => by
    have := h.1
    rw [z, hq] at this
    cases this
  refine ⟨Classical.byContradiction fun e => e ?_, hb⟩
  rw [← h.2.2.2.1 q e (Ne.symm hb), hq]
theorem zCo.new {q : Nat} (h : zCo G0 G b ci fs qs) (hq : G q = none) (e : zE) : zCo G0 (zset G q e) b ci fs (qs ++ [(q, e)]) := by
  obtain ⟨hq0, hqb⟩ := h.fresh hq
  obtain ⟨h1, h2, h3, h4, h5⟩ := h
  refine ⟨by rw [zset_n hqb]; exact h1, fun p hp => ?_, ?_, fun a ha hb => ?_, h5⟩
  · rcases List.mem_append.mp hp with hp | hp
    · have h9 := h2 p hp
      have hne : p.1 ≠ q := fun z => by
        have := h9.1
        rw [z, hq] at this
        cases this
      exact ⟨by rw [zset_n hne]; exact h9.1, h9.2⟩
    · rw [List.mem_singleton] at hp
      rw [hp]
      exact ⟨zset_s _ _ _, hq0⟩
  · rw [List.map_append, List.nodup_append]
    refine ⟨h3, by simp, fun x hx y hy z => ?_⟩
    obtain ⟨p, hp, rfl⟩ := List.mem_map.mp hx
    have e1 : y = q := by simpa using hy
    have h9 := (h2 p hp).1
    rw [z, e1, hq] at h9
    cases h9
  · rw [zset_n (fun z => ha (by rw [z]; exact hq0))]
    exact h4 a ha hb
theorem zCo.put {fs' : List Value} (h : zCo G0 G b ci fs qs) : zCo G0 (zset G b (.inr (ci, fs'))) b ci fs' qs := by
  obtain ⟨h1, h2, h3, h4, h5⟩ := h
  refine ⟨zset_s _ _ _, fun p hp => ⟨?_, (h2 p hp).2⟩, h3, fun a ha hb => by rw [zset_n hb]; exact h4 a ha hb, h5⟩
  rw [zset_n (fun z => h5 (by rw [← z]; exact (h2 p hp).2))]
  exact (h2 p hp).1
theorem zCo.sub {q c2 c3 : Nat} {f2 f3 : List Value} {qs2 : List (Nat × zE)} (h : zCo G0 G b ci fs (qs ++ [(q, .inr (c2, f2))])) (h2 : zCo G G1 q c3 f3 qs2) : zCo G0 G1 b ci fs (qs ++ (q, .inr (c3, f3)) :: qs2) := by
  have hqm := h.2.1 (q, .inr (c2, f2)) (List.mem_append_right _ (List.mem_singleton.mpr rfl))
  have hbq : b ≠ q := fun z => h.2.2.2.2 (by rw [z]; exact hqm.2)
  have hnd := h.2.2.1
  rw [List.map_append, List.nodup_append] at hnd
  have hne : ∀ p, p ∈ qs → p.1 ≠ q := fun p hp => hnd.2.2 p.1 (List.mem_map.mpr ⟨p, hp, rfl⟩) q (by simp)
  have hex : ∀ p, p ∈ qs → G1 p.1 = some p.2 := fun p hp => by
    have h9 := (h.2.1 p (List.mem_append_left _ hp)).1
    rw [h2.2.2.2.1 p.1 (by rw [h9]; exact Option.some_ne_none _) (hne p hp)]
    exact h9
  have hfr : ∀ p, p ∈ qs2 → G0 p.1 = none := fun p hp => (h.fresh (h2.2.1 p hp).2).1
  refine ⟨?_, fun p hp => ?_, ?_, fun a ha hb => ?_, h.2.2.2.2⟩
  · rw [h2.2.2.2.1 b (by rw [h.1]; exact Option.some_ne_none _) hbq]
    exact h.1
  · rcases List.mem_append.mp hp with hp | hp
    · exact ⟨hex p hp, (h.2.1 p (List.mem_append_left _ hp)).2⟩
    · rcases List.mem_cons.mp hp with hp | hp
      · rw [hp]; exact ⟨h2.1, hqm.2⟩
      · exact ⟨(h2.2.1 p hp).1, hfr p hp⟩
  · rw [List.map_append, List.nodup_append]
    refine ⟨hnd.1, ?_, fun x hx y hy z => ?_⟩
    · rw [List.map_cons, List.nodup_cons]
      refine ⟨fun z => ?_, h2.2.2.1⟩
      obtain ⟨p, hp, e⟩ := List.mem_map.mp z
      have h9 := (h2.2.1 p hp).2
      rw [e, hqm.1] at h9
      cases h9
    · obtain ⟨p, hp, rfl⟩ := List.mem_map.mp hx
      rw [List.map_cons] at hy
      rcases List.mem_cons.mp hy with hy | hy
      · exact hne p hp (z.trans hy)
      · obtain ⟨p2, hp2, e⟩ := List.mem_map.mp hy
        have h9 := (h2.2.1 p2 hp2).2
        rw [e, ← z, (h.2.1 p (List.mem_append_left _ hp)).1] at h9
        cases h9
  · have h9 := h.2.2.2.1 a ha hb
    rw [h2.2.2.2.1 a (by rw [h9]; exact ha) (fun z => ha (by rw [z]; exact hqm.2)), h9]
theorem zCo.at (h : zCo G0 G b ci fs qs) (i : Nat) {a : Nat} {e : zE} (hi : qs[i]? = some (a, e)) : G a = some e ∧ G0 a = Option.none := h.2.1 (a, e) (List.mem_of_getElem? hi)
theorem zCo.ap (h : zCo G0 G b ci fs qs) {N : Nat} {ad : Nat → Nat} (π : Nat → Nat) (h0 : ∀ i, i < N → π i = 0 → ad i = b) (h1 : ∀ i k, i < N → π i = k + 1 → (qs.map Prod.fst)[k]? = some (ad i)) (hp : ∀ i, i < N → ∀ j, j < N → π i = π j → i = j) : zApart ad N := by
  intro i j hi hj e
  have hb : ∀ i, i < N → ∀ k, π i = k + 1 → ad i ≠ b := fun i hi k hk z => by
    have h9 := List.mem_of_getElem? (h1 i k hi hk)
    obtain ⟨p, hp, e9⟩ := List.mem_map.mp h9
    exact h.2.2.2.2 (by rw [← z, ← e9]; exact (h.2.1 p hp).2)
  refine hp i hi j hj ?_
  cases ei : π i with
  | zero =>
    cases ej : π j with
    | zero => rfl
    | succ k2 => exact absurd (e.symm.trans (h0 i hi ei)) (hb j hj k2 ej)
  | succ k =>
    cases ej : π j with
    | zero => exact absurd (e.trans (h0 j hj ej)) (hb i hi k ei)
    | succ k2 =>
      have a1 := h1 i k hi ei
      have a2 := h1 j k2 hj ej
      rw [← e] at a2
      have hn := h.2.2.1
      obtain ⟨l1, e1⟩ := List.getElem?_eq_some_iff.mp a1
      obtain ⟨l2, e2⟩ := List.getElem?_eq_some_iff.mp a2
      have := (List.getElem_inj (h₀ := l1) (h₁ := l2) hn).mp (e1.trans e2.symm)
      omega
end ZCO
section ZCR
variable {Γ : zG} {mi : zMI} {d mc ms pc k n : Nat} {lv : List (Option Value)} {st : List Value} {G0 G : zH} {Post : zP} {b ci : Nat} {fs : List Value} {qs : List (Nat × zE)}
theorem z_cput {j kf : Nat} {fs' : List Value} {v : Value} {fty : FieldType} (hd : decode mi.2.1 pc = .ok (.putfield j, 3)) (hf : zFL mi.1.cls j ci kf false fty) (hC : zCo G0 G b ci fs qs) (hn : narrow fty v = v) (hfit : fits fty v = true) (hl9 : kf < fs.length) (hfs : fs.set kf v = fs') (kk : ∀ G1, zCo G0 G1 b ci fs' qs → zX Γ mi d mc ms (pc + 3) (lv) (st) G1 (k) (n) Post) : zX Γ mi d mc ms (pc) (lv) (v :: .ref b :: st) G (k) (n) Post := z_put hd hf hC.1 hn hfit hl9 (kk _ (by rw [← hfs]; exact hC.put))
theorem z_cputF {j kf : Nat} {fs' : List Value} {v : Value} {fty : FieldType} (hd : decode mi.2.1 pc = .ok (.putfield j, 3)) (hf : zFL mi.1.cls j ci kf true fty) (hini : mi.1.name = "<init>") (hC : zCo G0 G b ci fs qs) (hn : narrow fty v = v) (hfit : fits fty v = true) (hl9 : kf < fs.length) (hfs : fs.set kf v = fs') (kk : ∀ G1, zCo G0 G1 b ci fs' qs → zX Γ mi d mc ms (pc + 3) (lv) (st) G1 (k) (n) Post) : zX Γ mi d mc ms (pc) (lv) (v :: .ref b :: st) G (k) (n) Post := z_putF hd hf hini hC.1 hn hfit hl9 (kk _ (by rw [← hfs]; exact hC.put))
theorem z_cnew_i {v : Int32} {N : Nat} (hd : decode mi.2.1 pc = .ok (.newarray .int, 2)) (hC : zCo G0 G b ci fs qs) (hn0 : ¬ v < 0) (hN : v.toNatClampNeg = N) (hB : N ≤ 67108864) (hk : k + 1 ≤ mc) (hn : n + N ≤ ms) (kk : ∀ G1 q, zCo G0 G1 b ci fs (qs ++ [(q, .inl (.int, (N, .inl (fun _ => 0))))]) → zX Γ mi d mc ms (pc + 2) (lv) (.ref q :: st) G1 (k + 1) (n + N) Post) : zX Γ mi d mc ms (pc) (lv) (.int v :: st) G (k) (n) Post := z_newa_i hd hn0 hN hB hk hn (fun q hq => kk _ q (hC.new hq _))
theorem z_cnew_c {v : Int32} {N : Nat} (hd : decode mi.2.1 pc = .ok (.newarray .char, 2)) (hC : zCo G0 G b ci fs qs) (hn0 : ¬ v < 0) (hN : v.toNatClampNeg = N) (hB : N ≤ 67108864) (hk : k + 1 ≤ mc) (hn : n + N ≤ ms) (kk : ∀ G1 q, zCo G0 G1 b ci fs (qs ++ [(q, .inl (.char, (N, .inl (fun _ => 0))))]) → zX Γ mi d mc ms (pc + 2) (lv) (.ref q :: st) G1 (k + 1) (n + N) Post) : zX Γ mi d mc ms (pc) (lv) (.int v :: st) G (k) (n) Post := z_newa_c hd hn0 hN hB hk hn (fun q hq => kk _ q (hC.new hq _))
theorem z_cnew_b {v : Int32} {N : Nat} (hd : decode mi.2.1 pc = .ok (.newarray .byte, 2)) (hC : zCo G0 G b ci fs qs) (hn0 : ¬ v < 0) (hN : v.toNatClampNeg = N) (hB : N ≤ 67108864) (hk : k + 1 ≤ mc) (hn : n + N ≤ ms) (kk : ∀ G1 q, zCo G0 G1 b ci fs (qs ++ [(q, .inl (.byte, (N, .inl (fun _ => 0))))]) → zX Γ mi d mc ms (pc + 2) (lv) (.ref q :: st) G1 (k + 1) (n + N) Post) : zX Γ mi d mc ms (pc) (lv) (.int v :: st) G (k) (n) Post := z_newa_b hd hn0 hN hB hk hn (fun q hq => kk _ q (hC.new hq _))
theorem z_cnew {j c2 N : Nat} {Cn : String} {T : u_T} {ty : Nat → FieldType} {f2 : List Value} (hd : decode mi.2.1 pc = .ok (.new j, 3)) (hC : zCo G0 G b ci fs qs) (hc : zCl c2 Cn T N ty) (hlk : Cond.classLink mi.1.cls j Cn ∈ lw_good) (hfs : ∀ i, i < N → defaultValue (ty i) = vp_V f2 i) (hk : k + 1 ≤ mc) (hn : n + N ≤ ms) (kk : ∀ G1 q, G1 q = some (.inr (c2, f2)) → zCo G0 G1 b ci fs (qs ++ [(q, .inr (c2, f2))]) → zX Γ mi d mc ms (pc + 3) (lv) (.ref q :: st) G1 (k + 1) (n + N) Post) : zX Γ mi d mc ms (pc) (lv) (st) G (k) (n) Post := z_new hd hc hlk hfs hk hn (fun q hq => kk _ q (zset_s _ _ _) (hC.new hq _))
theorem z_callN0 {mi' : zMI} {mc' ms' j q : Nat} {host : String} (hd : decode mi.2.1 pc = .ok (.invokespecial j, 3)) (hl9 : Cond.methodLinkNest mi.1.cls j mi'.1 host ∈ zNest) (him : Cond.instanceMethod mi'.1 ∈ lw_good) (hini : Cond.initialized mi'.1.cls ∈ lw_good) (hni : mi'.1.name = "<init>") (hr : mi'.2.2.2.1 = none) (hds : zDs mi'.1 0) (hc : Cond.code mi'.1 mi'.2.1 mi'.2.2.1 mi'.2.2.2.1 ∈ lw_good) (hm : mi'.2.2.1 ≤ 45) (hst : (st.map fun v => v.category).sum ≤ 8) (hk : k + mc' ≤ mc) (hn : n + ms' ≤ ms)
    (hM : zM Γ d mi' mc' ms' [.ref q] G (fun v G' => zX Γ mi (d + 1) mc ms (pc + 3) lv (v.toList ++ st) G' (k + mc') (n + ms') Post)) : zX Γ mi (d + 1) mc ms pc lv (.ref q :: st) G k n Post := z_callN (As := []) hd hl9 him hini hni hr hds hc hm rfl hst hk hn hM
theorem zdf_X6 : ∀ i, i < 6 → defaultValue (tyX6 i) = vp_V [.int 0, .null, .null, .null, .null, .null] i := by decide
end ZCR
set_option maxHeartbeats 4000000 in
set_option maxRecDepth 10000 in
theorem sX8_init {Γ : zG} {d : Nat} {G : zH} {Post : zV} {b : Nat} (hG : G b = some (.inr (8, [.int 0, .null, .null, .null, .null]))) (hP : ∀ G1 q1 q2 q3 q4, zCo G G1 b 8 [.int 0, .ref q1, .ref q2, .ref q3, .ref q4] [(q1, .inl (.int, (6, .inl (fun _ => 0)))), (q2, .inl (.int, (6, .inl (fun _ => 0)))), (q3, .inl (.int, (6, .inl (fun _ => 0)))), (q4, .inl (.int, (6, .inl (fun _ => 0))))] → Post none G1) : zM Γ d mX8_init 4 24 [.ref b] G Post := by
  refine zM_of pnX8 rfl (Nat.le_of_ble_eq_true rfl) rfl ?_
  have hC := zCo.start hG
  refine z_aload_n dX8_init_0 rfl ?_
  refine z_objInit dX8_init_1 loX8_1 (by decide) ?_
  refine z_aload_n dX8_init_4 rfl ?_
  refine z_iconst (v := 0) dX8_init_5 (by decide) ?_
  refine z_cput (fs' := [.int 0, .null, .null, .null, .null]) dX8_init_6 fX8_7 hC rfl rfl (Nat.le_of_ble_eq_true rfl) rfl (fun G1 hC => ?_)
  refine z_aload_n dX8_init_9 rfl ?_
  refine z_bipush (v := 6) dX8_init_10 (by decide) ?_
  refine z_cnew_i (N := 6) dX8_init_12 hC (by decide) (by decide) (by decide) (by decide) (by decide) (fun G2 q1 hC => ?_)
  refine z_cputF (fs' := [.int 0, .ref q1, .null, .null, .null]) dX8_init_14 fX8_13 rfl hC rfl rfl (Nat.le_of_ble_eq_true rfl) rfl (fun G3 hC => ?_)
  refine z_aload_n dX8_init_17 rfl ?_
  refine z_bipush (v := 6) dX8_init_18 (by decide) ?_
  refine z_cnew_i (N := 6) dX8_init_20 hC (by decide) (by decide) (by decide) (by decide) (by decide) (fun G4 q2 hC => ?_)
  refine z_cputF (fs' := [.int 0, .ref q1, .ref q2, .null, .null]) dX8_init_22 fX8_17 rfl hC rfl rfl (Nat.le_of_ble_eq_true rfl) rfl (fun G5 hC => ?_)
  refine z_aload_n dX8_init_25 rfl ?_
  refine z_bipush (v := 6) dX8_init_26 (by decide) ?_
  refine z_cnew_i (N := 6) dX8_init_28 hC (by decide) (by decide) (by decide) (by decide) (by decide) (fun G6 q3 hC => ?_)
  refine z_cputF (fs' := [.int 0, .ref q1, .ref q2, .ref q3, .null]) dX8_init_30 fX8_20 rfl hC rfl rfl (Nat.le_of_ble_eq_true rfl) rfl (fun G7 hC => ?_)
  refine z_aload_n dX8_init_33 rfl ?_
  refine z_bipush (v := 6) dX8_init_34 (by decide) ?_
  refine z_cnew_i (N := 6) dX8_init_36 hC (by decide) (by decide) (by decide) (by decide) (by decide) (fun G8 q4 hC => ?_)
  refine z_cputF (fs' := [.int 0, .ref q1, .ref q2, .ref q3, .ref q4]) dX8_init_38 fX8_23 rfl hC rfl rfl (Nat.le_of_ble_eq_true rfl) rfl (fun G9 hC => ?_)
  exact z_vreturn (mi := mX8_init) dX8_init_41 rfl (by decide) (by decide) (hP _ q1 q2 q3 q4 hC)
set_option maxHeartbeats 4000000 in
set_option maxRecDepth 10000 in
theorem sX2_init {Γ : zG} {d : Nat} {G : zH} {Post : zV} {b : Nat} (hG : G b = some (.inr (2, [.int 0, .null, .null, .null]))) (hP : ∀ G1 q1 q2 q3, zCo G G1 b 2 [.int 0, .ref q1, .ref q2, .ref q3] [(q1, .inl (.int, (12, .inl (fun _ => 0)))), (q2, .inl (.int, (12, .inl (fun _ => 0)))), (q3, .inl (.int, (12, .inl (fun _ => 0))))] → Post none G1) : zM Γ d mX2_init 3 36 [.ref b] G Post := by
  refine zM_of pnX2 rfl (Nat.le_of_ble_eq_true rfl) rfl ?_
  have hC := zCo.start hG
  refine z_aload_n dX2_init_0 rfl ?_
  refine z_objInit dX2_init_1 loX2_1 (by decide) ?_
  refine z_aload_n dX2_init_4 rfl ?_
  refine z_iconst (v := 0) dX2_init_5 (by decide) ?_
  refine z_cput (fs' := [.int 0, .null, .null, .null]) dX2_init_6 fX2_7 hC rfl rfl (Nat.le_of_ble_eq_true rfl) rfl (fun G1 hC => ?_)
  refine z_aload_n dX2_init_9 rfl ?_
  refine z_bipush (v := 12) dX2_init_10 (by decide) ?_
  refine z_cnew_i (N := 12) dX2_init_12 hC (by decide) (by decide) (by decide) (by decide) (by decide) (fun G2 q1 hC => ?_)
  refine z_cputF (fs' := [.int 0, .ref q1, .null, .null]) dX2_init_14 fX2_13 rfl hC rfl rfl (Nat.le_of_ble_eq_true rfl) rfl (fun G3 hC => ?_)
  refine z_aload_n dX2_init_17 rfl ?_
  refine z_bipush (v := 12) dX2_init_18 (by decide) ?_
  refine z_cnew_i (N := 12) dX2_init_20 hC (by decide) (by decide) (by decide) (by decide) (by decide) (fun G4 q2 hC => ?_)
  refine z_cputF (fs' := [.int 0, .ref q1, .ref q2, .null]) dX2_init_22 fX2_17 rfl hC rfl rfl (Nat.le_of_ble_eq_true rfl) rfl (fun G5 hC => ?_)
  refine z_aload_n dX2_init_25 rfl ?_
  refine z_bipush (v := 12) dX2_init_26 (by decide) ?_
  refine z_cnew_i (N := 12) dX2_init_28 hC (by decide) (by decide) (by decide) (by decide) (by decide) (fun G6 q3 hC => ?_)
  refine z_cputF (fs' := [.int 0, .ref q1, .ref q2, .ref q3]) dX2_init_30 fX2_20 rfl hC rfl rfl (Nat.le_of_ble_eq_true rfl) rfl (fun G7 hC => ?_)
  exact z_vreturn (mi := mX2_init) dX2_init_33 rfl (by decide) (by decide) (hP _ q1 q2 q3 hC)
set_option maxHeartbeats 4000000 in
set_option maxRecDepth 10000 in
theorem sX1_init {Γ : zG} {d : Nat} {G : zH} {Post : zV} {b : Nat} (hG : G b = some (.inr (1, [.int 0, .null, .null]))) (hP : ∀ G1 q1 q2, zCo G G1 b 1 [.int 0, .ref q1, .ref q2] [(q1, .inl (.int, (4, .inl (fun _ => 0)))), (q2, .inl (.int, (4, .inl (fun _ => 0))))] → Post none G1) : zM Γ d mX1_init 2 8 [.ref b] G Post := by
  refine zM_of pnX1 rfl (Nat.le_of_ble_eq_true rfl) rfl ?_
  have hC := zCo.start hG
  refine z_aload_n dX1_init_0 rfl ?_
  refine z_objInit dX1_init_1 loX1_1 (by decide) ?_
  refine z_aload_n dX1_init_4 rfl ?_
  refine z_iconst (v := 0) dX1_init_5 (by decide) ?_
  refine z_cput (fs' := [.int 0, .null, .null]) dX1_init_6 fX1_7 hC rfl rfl (Nat.le_of_ble_eq_true rfl) rfl (fun G1 hC => ?_)
  refine z_aload_n dX1_init_9 rfl ?_
  refine z_iconst (v := 4) dX1_init_10 (by decide) ?_
  refine z_cnew_i (N := 4) dX1_init_11 hC (by decide) (by decide) (by decide) (by decide) (by decide) (fun G2 q1 hC => ?_)
  refine z_cputF (fs' := [.int 0, .ref q1, .null]) dX1_init_13 fX1_13 rfl hC rfl rfl (Nat.le_of_ble_eq_true rfl) rfl (fun G3 hC => ?_)
  refine z_aload_n dX1_init_16 rfl ?_
  refine z_iconst (v := 4) dX1_init_17 (by decide) ?_
  refine z_cnew_i (N := 4) dX1_init_18 hC (by decide) (by decide) (by decide) (by decide) (by decide) (fun G4 q2 hC => ?_)
  refine z_cputF (fs' := [.int 0, .ref q1, .ref q2]) dX1_init_20 fX1_17 rfl hC rfl rfl (Nat.le_of_ble_eq_true rfl) rfl (fun G5 hC => ?_)
  exact z_vreturn (mi := mX1_init) dX1_init_23 rfl (by decide) (by decide) (hP _ q1 q2 hC)
set_option maxHeartbeats 4000000 in
set_option maxRecDepth 10000 in
theorem sX0_init {Γ : zG} {d : Nat} {G : zH} {Post : zV} {b : Nat} (hG : G b = some (.inr (0, [.int 0, .null]))) (hP : ∀ G1 q1, zCo G G1 b 0 [.int 0, .ref q1] [(q1, .inl (.int, (3, .inl (fun _ => 0))))] → Post none G1) : zM Γ d mX0_init 1 3 [.ref b] G Post := by
  refine zM_of pnX0 rfl (Nat.le_of_ble_eq_true rfl) rfl ?_
  have hC := zCo.start hG
  refine z_aload_n dX0_init_0 rfl ?_
  refine z_objInit dX0_init_1 loX0_1 (by decide) ?_
  refine z_aload_n dX0_init_4 rfl ?_
  refine z_iconst (v := 0) dX0_init_5 (by decide) ?_
  refine z_cput (fs' := [.int 0, .null]) dX0_init_6 fX0_7 hC rfl rfl (Nat.le_of_ble_eq_true rfl) rfl (fun G1 hC => ?_)
  refine z_aload_n dX0_init_9 rfl ?_
  refine z_iconst (v := 3) dX0_init_10 (by decide) ?_
  refine z_cnew_i (N := 3) dX0_init_11 hC (by decide) (by decide) (by decide) (by decide) (by decide) (fun G2 q1 hC => ?_)
  refine z_cputF (fs' := [.int 0, .ref q1]) dX0_init_13 fX0_13 rfl hC rfl rfl (Nat.le_of_ble_eq_true rfl) rfl (fun G3 hC => ?_)
  exact z_vreturn (mi := mX0_init) dX0_init_16 rfl (by decide) (by decide) (hP _ q1 hC)
set_option maxHeartbeats 4000000 in
set_option maxRecDepth 10000 in
theorem sX4_init {Γ : zG} {d : Nat} {G : zH} {Post : zV} {b : Nat} (hG : G b = some (.inr (4, [.null, .null, .null, .int 0, .int 0, .int 0]))) (hP : ∀ G1 q1 q2 q3, zCo G G1 b 4 [.ref q1, .ref q2, .ref q3, .int 0, .int 0, .int 0] [(q1, .inl (.int, (72, .inl (fun _ => 0)))), (q2, .inl (.int, (72, .inl (fun _ => 0)))), (q3, .inl (.int, (72, .inl (fun _ => 0))))] → Post none G1) : zM Γ d mX4_init 3 216 [.ref b] G Post := by
  refine zM_of pnX4 rfl (Nat.le_of_ble_eq_true rfl) rfl ?_
  have hC := zCo.start hG
  refine z_aload_n dX4_init_0 rfl ?_
  refine z_objInit dX4_init_1 loX4_5 (by decide) ?_
  refine z_aload_n dX4_init_4 rfl ?_
  refine z_bipush (v := 72) dX4_init_5 (by decide) ?_
  refine z_cnew_i (N := 72) dX4_init_7 hC (by decide) (by decide) (by decide) (by decide) (by decide) (fun G1 q1 hC => ?_)
  refine z_cputF (fs' := [.ref q1, .null, .null, .int 0, .int 0, .int 0]) dX4_init_9 fX4_13 rfl hC rfl rfl (Nat.le_of_ble_eq_true rfl) rfl (fun G2 hC => ?_)
  refine z_aload_n dX4_init_12 rfl ?_
  refine z_bipush (v := 72) dX4_init_13 (by decide) ?_
  refine z_cnew_i (N := 72) dX4_init_15 hC (by decide) (by decide) (by decide) (by decide) (by decide) (fun G3 q2 hC => ?_)
  refine z_cputF (fs' := [.ref q1, .ref q2, .null, .int 0, .int 0, .int 0]) dX4_init_17 fX4_17 rfl hC rfl rfl (Nat.le_of_ble_eq_true rfl) rfl (fun G4 hC => ?_)
  refine z_aload_n dX4_init_20 rfl ?_
  refine z_bipush (v := 72) dX4_init_21 (by decide) ?_
  refine z_cnew_i (N := 72) dX4_init_23 hC (by decide) (by decide) (by decide) (by decide) (by decide) (fun G5 q3 hC => ?_)
  refine z_cputF (fs' := [.ref q1, .ref q2, .ref q3, .int 0, .int 0, .int 0]) dX4_init_25 fX4_20 rfl hC rfl rfl (Nat.le_of_ble_eq_true rfl) rfl (fun G6 hC => ?_)
  refine z_aload_n dX4_init_28 rfl ?_
  refine z_iconst (v := 0) dX4_init_29 (by decide) ?_
  refine z_cput (fs' := [.ref q1, .ref q2, .ref q3, .int 0, .int 0, .int 0]) dX4_init_30 fX4_23 hC rfl rfl (Nat.le_of_ble_eq_true rfl) rfl (fun G7 hC => ?_)
  refine z_aload_n dX4_init_33 rfl ?_
  refine z_iconst (v := 0) dX4_init_34 (by decide) ?_
  refine z_cput (fs' := [.ref q1, .ref q2, .ref q3, .int 0, .int 0, .int 0]) dX4_init_35 fX4_27 hC rfl rfl (Nat.le_of_ble_eq_true rfl) rfl (fun G8 hC => ?_)
  refine z_aload_n dX4_init_38 rfl ?_
  refine z_iconst (v := 0) dX4_init_39 (by decide) ?_
  refine z_cput (fs' := [.ref q1, .ref q2, .ref q3, .int 0, .int 0, .int 0]) dX4_init_40 fX4_30 hC rfl rfl (Nat.le_of_ble_eq_true rfl) rfl (fun G9 hC => ?_)
  exact z_vreturn (mi := mX4_init) dX4_init_43 rfl (by decide) (by decide) (hP _ q1 q2 q3 hC)
set_option maxHeartbeats 4000000 in
set_option maxRecDepth 10000 in
theorem sX5_init {Γ : zG} {d : Nat} {G : zH} {Post : zV} {b : Nat} (hG : G b = some (.inr (5, [.int 0, .int 0, .int 0]))) (hP : ∀ G1, zCo G G1 b 5 [.int 0, .int 0, .int 0] [] → Post none G1) : zM Γ d mX5_init 0 0 [.ref b] G Post := by
  refine zM_of pnX5 rfl (Nat.le_of_ble_eq_true rfl) rfl ?_
  have hC := zCo.start hG
  refine z_aload_n dX5_init_0 rfl ?_
  refine z_objInit dX5_init_1 loX5_1 (by decide) ?_
  refine z_aload_n dX5_init_4 rfl ?_
  refine z_iconst (v := 0) dX5_init_5 (by decide) ?_
  refine z_cput (fs' := [.int 0, .int 0, .int 0]) dX5_init_6 fX5_7 hC rfl rfl (Nat.le_of_ble_eq_true rfl) rfl (fun G1 hC => ?_)
  refine z_aload_n dX5_init_9 rfl ?_
  refine z_iconst (v := 0) dX5_init_10 (by decide) ?_
  refine z_cput (fs' := [.int 0, .int 0, .int 0]) dX5_init_11 fX5_13 hC rfl rfl (Nat.le_of_ble_eq_true rfl) rfl (fun G2 hC => ?_)
  refine z_aload_n dX5_init_14 rfl ?_
  refine z_iconst (v := 0) dX5_init_15 (by decide) ?_
  refine z_cput (fs' := [.int 0, .int 0, .int 0]) dX5_init_16 fX5_16 hC rfl rfl (Nat.le_of_ble_eq_true rfl) rfl (fun G3 hC => ?_)
  exact z_vreturn (mi := mX5_init) dX5_init_19 rfl (by decide) (by decide) (hP _ hC)
set_option maxHeartbeats 4000000 in
set_option maxRecDepth 10000 in
theorem sX9_init {Γ : zG} {d : Nat} {G : zH} {Post : zV} {b : Nat} (hG : G b = some (.inr (9, [.null, .int 0, .null, .null, .int 0, .int 0]))) (hP : ∀ G1 q1 q2 q3, zCo G G1 b 9 [.ref q1, .int 0, .ref q2, .ref q3, .int 0, .int 0] [(q1, .inl (.char, (60, .inl (fun _ => 0)))), (q2, .inl (.int, (60, .inl (fun _ => 0)))), (q3, .inl (.int, (180, .inl (fun _ => 0))))] → Post none G1) : zM Γ d mX9_init 3 300 [.ref b] G Post := by
  refine zM_of pnX9 rfl (Nat.le_of_ble_eq_true rfl) rfl ?_
  have hC := zCo.start hG
  refine z_aload_n dX9_init_0 rfl ?_
  refine z_objInit dX9_init_1 loX9_1 (by decide) ?_
  refine z_aload_n dX9_init_4 rfl ?_
  refine z_bipush (v := 60) dX9_init_5 (by decide) ?_
  refine z_cnew_c (N := 60) dX9_init_7 hC (by decide) (by decide) (by decide) (by decide) (by decide) (fun G1 q1 hC => ?_)
  refine z_cputF (fs' := [.ref q1, .int 0, .null, .null, .int 0, .int 0]) dX9_init_9 fX9_9 rfl hC rfl rfl (Nat.le_of_ble_eq_true rfl) rfl (fun G2 hC => ?_)
  refine z_aload_n dX9_init_12 rfl ?_
  refine z_iconst (v := 0) dX9_init_13 (by decide) ?_
  refine z_cput (fs' := [.ref q1, .int 0, .null, .null, .int 0, .int 0]) dX9_init_14 fX9_13 hC rfl rfl (Nat.le_of_ble_eq_true rfl) rfl (fun G3 hC => ?_)
  refine z_aload_n dX9_init_17 rfl ?_
  refine z_bipush (v := 60) dX9_init_18 (by decide) ?_
  refine z_cnew_i (N := 60) dX9_init_20 hC (by decide) (by decide) (by decide) (by decide) (by decide) (fun G4 q2 hC => ?_)
  refine z_cputF (fs' := [.ref q1, .int 0, .ref q2, .null, .int 0, .int 0]) dX9_init_22 fX9_17 rfl hC rfl rfl (Nat.le_of_ble_eq_true rfl) rfl (fun G5 hC => ?_)
  refine z_aload_n dX9_init_25 rfl ?_
  refine z_sipush (v := 180) dX9_init_26 (by decide) ?_
  refine z_cnew_i (N := 180) dX9_init_29 hC (by decide) (by decide) (by decide) (by decide) (by decide) (fun G6 q3 hC => ?_)
  refine z_cputF (fs' := [.ref q1, .int 0, .ref q2, .ref q3, .int 0, .int 0]) dX9_init_31 fX9_21 rfl hC rfl rfl (Nat.le_of_ble_eq_true rfl) rfl (fun G7 hC => ?_)
  refine z_aload_n dX9_init_34 rfl ?_
  refine z_iconst (v := 0) dX9_init_35 (by decide) ?_
  refine z_cput (fs' := [.ref q1, .int 0, .ref q2, .ref q3, .int 0, .int 0]) dX9_init_36 fX9_24 hC rfl rfl (Nat.le_of_ble_eq_true rfl) rfl (fun G8 hC => ?_)
  refine z_aload_n dX9_init_39 rfl ?_
  refine z_iconst (v := 0) dX9_init_40 (by decide) ?_
  refine z_cput (fs' := [.ref q1, .int 0, .ref q2, .ref q3, .int 0, .int 0]) dX9_init_41 fX9_27 hC rfl rfl (Nat.le_of_ble_eq_true rfl) rfl (fun G9 hC => ?_)
  exact z_vreturn (mi := mX9_init) dX9_init_44 rfl (by decide) (by decide) (hP _ q1 q2 q3 hC)
set_option maxHeartbeats 4000000 in
set_option maxRecDepth 10000 in
theorem sX6_init0 {Γ : zG} {d : Nat} {G : zH} {Post : zV} {b : Nat} (hG : G b = some (.inr (6, [.int 0, .null, .null, .null, .null, .null]))) (hP : ∀ G1 q1 q1_1 q1_2 q1_3 q1_4 q2 q2_1 q2_2 q2_3 q3 q3_1 q3_2 q4 q4_1 q5 q5_1 q5_2 q5_3, zCo G G1 b 6 [.int 100, .ref q1, .ref q2, .ref q3, .ref q4, .ref q5] [(q1, .inr (8, [.int 0, .ref q1_1, .ref q1_2, .ref q1_3, .ref q1_4])), (q1_1, .inl (.int, (6, .inl (fun _ => 0)))), (q1_2, .inl (.int, (6, .inl (fun _ => 0)))), (q1_3, .inl (.int, (6, .inl (fun _ => 0)))), (q1_4, .inl (.int, (6, .inl (fun _ => 0)))), (q2, .inr (2, [.int 0, .ref q2_1, .ref q2_2, .ref q2_3])), (q2_1, .inl (.int, (12, .inl (fun _ => 0)))), (q2_2, .inl (.int, (12, .inl (fun _ => 0)))), (q2_3, .inl (.int, (12, .inl (fun _ => 0)))), (q3, .inr (1, [.int 0, .ref q3_1, .ref q3_2])), (q3_1, .inl (.int, (4, .inl (fun _ => 0)))), (q3_2, .inl (.int, (4, .inl (fun _ => 0)))), (q4, .inr (0, [.int 0, .ref q4_1])), (q4_1, .inl (.int, (3, .inl (fun _ => 0)))), (q5, .inr (4, [.ref q5_1, .ref q5_2, .ref q5_3, .int 0, .int 0, .int 0])), (q5_1, .inl (.int, (72, .inl (fun _ => 0)))), (q5_2, .inl (.int, (72, .inl (fun _ => 0)))), (q5_3, .inl (.int, (72, .inl (fun _ => 0))))] → Post none G1) : zM Γ (d + 1) mX6_init 18 307 [.ref b] G Post := by
  refine zM_of pnX6 rfl (Nat.le_of_ble_eq_true rfl) rfl ?_
  have hC := zCo.start hG
  refine z_aload_n dX6_init_0 rfl ?_
  refine z_objInit dX6_init_1 loX6_1 (by decide) ?_
  refine z_aload_n dX6_init_4 rfl ?_
  refine z_bipush (v := 100) dX6_init_5 (by decide) ?_
  refine z_cput (fs' := [.int 100, .null, .null, .null, .null, .null]) dX6_init_7 fX6_9 hC rfl rfl (Nat.le_of_ble_eq_true rfl) rfl (fun G1 hC => ?_)
  refine z_aload_n dX6_init_10 rfl ?_
  refine z_cnew (f2 := [.int 0, .null, .null, .null, .null]) dX6_init_11 hC zc8 gX6_13 (by decide) (by decide) (by decide) (fun G2 q1 hg2 hC => ?_)
  refine z_dup dX6_init_14 rfl ?_
  refine z_callN0 (mi' := mX8_init) (mc' := 4) (ms' := 24) dX6_init_15 (List.mem_of_getElem? (i := 1) rfl) niX8_init iiX8_init rfl rfl nX8_init kX8_init (Nat.le_of_ble_eq_true rfl) (Nat.le_of_ble_eq_true rfl) (by decide) (by decide) ?_
  refine sX8_init hg2 (fun G3 q1_1 q1_2 q1_3 q1_4 h2 => ?_)
  replace hC := zCo.sub hC h2
  refine z_cputF (fs' := [.int 100, .ref q1, .null, .null, .null, .null]) dX6_init_18 fX6_16 rfl hC rfl rfl (Nat.le_of_ble_eq_true rfl) rfl (fun G4 hC => ?_)
  refine z_aload_n dX6_init_21 rfl ?_
  refine z_cnew (f2 := [.int 0, .null, .null, .null]) dX6_init_22 hC zc2 gX6_20 (by decide) (by decide) (by decide) (fun G5 q2 hg5 hC => ?_)
  refine z_dup dX6_init_25 rfl ?_
  refine z_callN0 (mi' := mX2_init) (mc' := 3) (ms' := 36) dX6_init_26 (List.mem_of_getElem? (i := 2) rfl) niX2_init iiX2_init rfl rfl nX2_init kX2_init (Nat.le_of_ble_eq_true rfl) (Nat.le_of_ble_eq_true rfl) (by decide) (by decide) ?_
  refine sX2_init hg5 (fun G6 q2_1 q2_2 q2_3 h2 => ?_)
  replace hC := zCo.sub hC h2
  refine z_cputF (fs' := [.int 100, .ref q1, .ref q2, .null, .null, .null]) dX6_init_29 fX6_23 rfl hC rfl rfl (Nat.le_of_ble_eq_true rfl) rfl (fun G7 hC => ?_)
  refine z_aload_n dX6_init_32 rfl ?_
  refine z_cnew (f2 := [.int 0, .null, .null]) dX6_init_33 hC zc1 gX6_27 (by decide) (by decide) (by decide) (fun G8 q3 hg8 hC => ?_)
  refine z_dup dX6_init_36 rfl ?_
  refine z_callN0 (mi' := mX1_init) (mc' := 2) (ms' := 8) dX6_init_37 (List.mem_of_getElem? (i := 3) rfl) niX1_init iiX1_init rfl rfl nX1_init kX1_init (Nat.le_of_ble_eq_true rfl) (Nat.le_of_ble_eq_true rfl) (by decide) (by decide) ?_
  refine sX1_init hg8 (fun G9 q3_1 q3_2 h2 => ?_)
  replace hC := zCo.sub hC h2
  refine z_cputF (fs' := [.int 100, .ref q1, .ref q2, .ref q3, .null, .null]) dX6_init_40 fX6_30 rfl hC rfl rfl (Nat.le_of_ble_eq_true rfl) rfl (fun G10 hC => ?_)
  refine z_aload_n dX6_init_43 rfl ?_
  refine z_cnew (f2 := [.int 0, .null]) dX6_init_44 hC zc0 gX6_34 (by decide) (by decide) (by decide) (fun G11 q4 hg11 hC => ?_)
  refine z_dup dX6_init_47 rfl ?_
  refine z_callN0 (mi' := mX0_init) (mc' := 1) (ms' := 3) dX6_init_48 (List.mem_of_getElem? (i := 4) rfl) niX0_init iiX0_init rfl rfl nX0_init kX0_init (Nat.le_of_ble_eq_true rfl) (Nat.le_of_ble_eq_true rfl) (by decide) (by decide) ?_
  refine sX0_init hg11 (fun G12 q4_1 h2 => ?_)
  replace hC := zCo.sub hC h2
  refine z_cputF (fs' := [.int 100, .ref q1, .ref q2, .ref q3, .ref q4, .null]) dX6_init_51 fX6_37 rfl hC rfl rfl (Nat.le_of_ble_eq_true rfl) rfl (fun G13 hC => ?_)
  refine z_aload_n dX6_init_54 rfl ?_
  refine z_cnew (f2 := [.null, .null, .null, .int 0, .int 0, .int 0]) dX6_init_55 hC zc4 gX6_41 (by decide) (by decide) (by decide) (fun G14 q5 hg14 hC => ?_)
  refine z_dup dX6_init_58 rfl ?_
  refine z_callN0 (mi' := mX4_init) (mc' := 3) (ms' := 216) dX6_init_59 (List.mem_of_getElem? (i := 5) rfl) niX4_init iiX4_init rfl rfl nX4_init kX4_init (Nat.le_of_ble_eq_true rfl) (Nat.le_of_ble_eq_true rfl) (by decide) (by decide) ?_
  refine sX4_init hg14 (fun G15 q5_1 q5_2 q5_3 h2 => ?_)
  replace hC := zCo.sub hC h2
  refine z_cputF (fs' := [.int 100, .ref q1, .ref q2, .ref q3, .ref q4, .ref q5]) dX6_init_62 fX6_44 rfl hC rfl rfl (Nat.le_of_ble_eq_true rfl) rfl (fun G16 hC => ?_)
  exact z_vreturn (mi := mX6_init) dX6_init_65 rfl (by decide) (by decide) (hP _ q1 q1_1 q1_2 q1_3 q1_4 q2 q2_1 q2_2 q2_3 q3 q3_1 q3_2 q4 q4_1 q5 q5_1 q5_2 q5_3 hC)
/-- the numbers of a new river -/
def zz0 : zSt := fun r => match r with
  | 13 => fun j => match j with
    | 0 => 100
    | _ => 0
  | _ => fun _ => 0
/-- what was stays, b aside -/
def zNw (G G1 : zH) (b : Nat) : Prop := ∀ a, G a ≠ none → a ≠ b → G1 a = G a
def zpiR : Nat → Nat := fun k => match k with
      | 0 => 0
      | 1 => 1
      | 2 => 6
      | 3 => 10
      | 4 => 13
      | 5 => 15
      | 6 => 2
      | 7 => 3
      | 8 => 4
      | 9 => 5
      | 10 => 7
      | 11 => 8
      | 12 => 9
      | 13 => 11
      | 14 => 12
      | 15 => 14
      | 16 => 16
      | 17 => 17
      | _ => 18
theorem zpiR_0 : ∀ i, i < 19 → zpiR i = 0 → i = 0 := by decide
theorem zpiR_i : ∀ i, i < 19 → ∀ j, j < 19 → zpiR i = zpiR j → i = j := by decide
set_option maxHeartbeats 4000000 in
set_option maxRecDepth 10000 in
theorem sX6_init {Γ : zG} {d : Nat} {G : zH} {Post : zV} {b : Nat} (hG : G b = some (.inr (6, [.int 0, .null, .null, .null, .null, .null]))) (hP : ∀ G1 ad, ad 0 = b → zRiv G1 ad zz0 → (∀ k, 1 ≤ k → k < 19 → G (ad k) = none) → zNw G G1 b → Post none G1) : zM Γ (d + 1) mX6_init 18 307 [.ref b] G Post := by
  refine sX6_init0 hG (fun G1 q1 q1_1 q1_2 q1_3 q1_4 q2 q2_1 q2_2 q2_3 q3 q3_1 q3_2 q4 q4_1 q5 q5_1 q5_2 q5_3 hC => ?_)
  refine hP G1 (fun k => match k with
      | 0 => b
      | 1 => q1
      | 2 => q2
      | 3 => q3
      | 4 => q4
      | 5 => q5
      | 6 => q1_1
      | 7 => q1_2
      | 8 => q1_3
      | 9 => q1_4
      | 10 => q2_1
      | 11 => q2_2
      | 12 => q2_3
      | 13 => q3_1
      | 14 => q3_2
      | 15 => q4_1
      | 16 => q5_1
      | 17 => q5_2
      | _ => q5_3) rfl ⟨fun k hk => ?_, ?_⟩ (fun k h1 hk => ?_) (fun a ha hb => hC.2.2.2.1 a ha hb)
  · match k, hk with
    | 0, _ => exact hC.1
    | 1, _ => exact (hC.at 0 rfl).1
    | 2, _ => exact (hC.at 5 rfl).1
    | 3, _ => exact (hC.at 9 rfl).1
    | 4, _ => exact (hC.at 12 rfl).1
    | 5, _ => exact (hC.at 14 rfl).1
    | 6, _ => exact (hC.at 1 rfl).1
    | 7, _ => exact (hC.at 2 rfl).1
    | 8, _ => exact (hC.at 3 rfl).1
    | 9, _ => exact (hC.at 4 rfl).1
    | 10, _ => exact (hC.at 6 rfl).1
    | 11, _ => exact (hC.at 7 rfl).1
    | 12, _ => exact (hC.at 8 rfl).1
    | 13, _ => exact (hC.at 10 rfl).1
    | 14, _ => exact (hC.at 11 rfl).1
    | 15, _ => exact (hC.at 13 rfl).1
    | 16, _ => exact (hC.at 15 rfl).1
    | 17, _ => exact (hC.at 16 rfl).1
    | 18, _ => exact (hC.at 17 rfl).1
    | k9 + 19, h => exact absurd h (by omega)
  · refine hC.ap zpiR (fun i hi e => by rw [zpiR_0 i hi e]; rfl) (fun i k hi e => ?_) zpiR_i
    match i, hi with
    | 0, _ => exact absurd (show (0 : Nat) = k + 1 from e) (by omega)
    | 1, _ =>
      obtain rfl : k = 0 := by
        have : (1 : Nat) = k + 1 := e
        omega
      rfl
    | 2, _ =>
      obtain rfl : k = 5 := by
        have : (6 : Nat) = k + 1 := e
        omega
      rfl
    | 3, _ =>
      obtain rfl : k = 9 := by
        have : (10 : Nat) = k + 1 := e
        omega
      rfl
    | 4, _ =>
      obtain rfl : k = 12 := by
        have : (13 : Nat) = k + 1 := e
        omega
      rfl
    | 5, _ =>
      obtain rfl : k = 14 := by
        have : (15 : Nat) = k + 1 := e
        omega
      rfl
    | 6, _ =>
      obtain rfl : k = 1 := by
        have : (2 : Nat) = k + 1 := e
        omega
      rfl
    | 7, _ =>
      obtain rfl : k = 2 := by
        have : (3 : Nat) = k + 1 := e
        omega
      rfl
    | 8, _ =>
      obtain rfl : k = 3 := by
        have : (4 : Nat) = k + 1 := e
        omega
      rfl
    | 9, _ =>
      obtain rfl : k = 4 := by
        have : (5 : Nat) = k + 1 := e
        omega
      rfl
    | 10, _ =>
      obtain rfl : k = 6 := by
        have : (7 : Nat) = k + 1 := e
        omega
      rfl
    | 11, _ =>
      obtain rfl : k = 7 := by
        have : (8 : Nat) = k + 1 := e
        omega
      rfl
    | 12, _ =>
      obtain rfl : k = 8 := by
        have : (9 : Nat) = k + 1 := e
        omega
      rfl
    | 13, _ =>
      obtain rfl : k = 10 := by
        have : (11 : Nat) = k + 1 := e
        omega
      rfl
    | 14, _ =>
      obtain rfl : k = 11 := by
        have : (12 : Nat) = k + 1 := e
        omega
      rfl
    | 15, _ =>
      obtain rfl : k = 13 := by
        have : (14 : Nat) = k + 1 := e
        omega
      rfl
    | 16, _ =>
      obtain rfl : k = 15 := by
        have : (16 : Nat) = k + 1 := e
        omega
      rfl
    | 17, _ =>
      obtain rfl : k = 16 := by
        have : (17 : Nat) = k + 1 := e
        omega
      rfl
    | 18, _ =>
      obtain rfl : k = 17 := by
        have : (18 : Nat) = k + 1 := e
        omega
      rfl
    | i9 + 19, h => exact absurd h (by omega)
  · match k, hk with
    | 0, _ => exact absurd h1 (by decide)
    | 1, _ => exact (hC.at 0 rfl).2
    | 2, _ => exact (hC.at 5 rfl).2
    | 3, _ => exact (hC.at 9 rfl).2
    | 4, _ => exact (hC.at 12 rfl).2
    | 5, _ => exact (hC.at 14 rfl).2
    | 6, _ => exact (hC.at 1 rfl).2
    | 7, _ => exact (hC.at 2 rfl).2
    | 8, _ => exact (hC.at 3 rfl).2
    | 9, _ => exact (hC.at 4 rfl).2
    | 10, _ => exact (hC.at 6 rfl).2
    | 11, _ => exact (hC.at 7 rfl).2
    | 12, _ => exact (hC.at 8 rfl).2
    | 13, _ => exact (hC.at 10 rfl).2
    | 14, _ => exact (hC.at 11 rfl).2
    | 15, _ => exact (hC.at 13 rfl).2
    | 16, _ => exact (hC.at 15 rfl).2
    | 17, _ => exact (hC.at 16 rfl).2
    | 18, _ => exact (hC.at 17 rfl).2
    | k9 + 19, h => exact absurd h (by omega)
def zpiM : Nat → Nat := fun k => match k with
      | 0 => 0
      | 1 => 1
      | 2 => 2
      | 3 => 3
      | 4 => 4
      | 5 => 5
      | 6 => 6
      | _ => 7
theorem zpiM_0 : ∀ i, i < 8 → zpiM i = 0 → i = 0 := by decide
theorem zpiM_i : ∀ i, i < 8 → ∀ j, j < 8 → zpiM i = zpiM j → i = j := by decide
/-- the numbers of a new reference -/
def zm0 : zSt := fun r => match r with
  | 0 => fun j => match j with
    | 14 => -1
    | _ => 0
  | _ => fun _ => 0
set_option maxHeartbeats 4000000 in
set_option maxRecDepth 10000 in
theorem sX11_init {Γ : zG} {d : Nat} {G : zH} {Post : zV} {b : Nat} (hG : G b = some (.inr (11, [.null, .null, .null, .null, .int 0, .int 0, .int 0, .int 0, .int 0, .int 0, .int 0, .int 0, .null, .int 0, .int 0, .null, .int 0, .int 0, .null, .int 0]))) (hP : ∀ G1 am, am 0 = b → zMod G1 am (zu zm0 1 0 100) → (∀ k, 1 ≤ k → k < 8 → G (am k) = none) → zNw G G1 b → Post none G1) : zM Γ d mX11_init 7 2783 [.ref b] G Post := by
  refine zM_of pnX11 rfl (Nat.le_of_ble_eq_true rfl) rfl ?_
  have hC := zCo.start hG
  refine z_aload_n dX11_init_0 rfl ?_
  refine z_objInit dX11_init_1 loX11_1 (by decide) ?_
  refine z_aload_n dX11_init_4 rfl ?_
  refine z_sipush (v := 229) dX11_init_5 (by decide) ?_
  refine z_cnew_i (N := 229) dX11_init_8 hC (by decide) (by decide) (by decide) (by decide) (by decide) (fun G1 q1 hC => ?_)
  refine z_cputF (fs' := [.ref q1, .null, .null, .null, .int 0, .int 0, .int 0, .int 0, .int 0, .int 0, .int 0, .int 0, .null, .int 0, .int 0, .null, .int 0, .int 0, .null, .int 0]) dX11_init_10 fX11_7 rfl hC rfl rfl (Nat.le_of_ble_eq_true rfl) rfl (fun G2 hC => ?_)
  refine z_aload_n dX11_init_13 rfl ?_
  refine z_sipush (v := 1832) dX11_init_14 (by decide) ?_
  refine z_cnew_i (N := 1832) dX11_init_17 hC (by decide) (by decide) (by decide) (by decide) (by decide) (fun G3 q2 hC => ?_)
  refine z_cputF (fs' := [.ref q1, .ref q2, .null, .null, .int 0, .int 0, .int 0, .int 0, .int 0, .int 0, .int 0, .int 0, .null, .int 0, .int 0, .null, .int 0, .int 0, .null, .int 0]) dX11_init_19 fX11_13 rfl hC rfl rfl (Nat.le_of_ble_eq_true rfl) rfl (fun G4 hC => ?_)
  refine z_aload_n dX11_init_22 rfl ?_
  refine z_sipush (v := 229) dX11_init_23 (by decide) ?_
  refine z_cnew_i (N := 229) dX11_init_26 hC (by decide) (by decide) (by decide) (by decide) (by decide) (fun G5 q3 hC => ?_)
  refine z_cputF (fs' := [.ref q1, .ref q2, .ref q3, .null, .int 0, .int 0, .int 0, .int 0, .int 0, .int 0, .int 0, .int 0, .null, .int 0, .int 0, .null, .int 0, .int 0, .null, .int 0]) dX11_init_28 fX11_16 rfl hC rfl rfl (Nat.le_of_ble_eq_true rfl) rfl (fun G6 hC => ?_)
  refine z_aload_n dX11_init_31 rfl ?_
  refine z_sipush (v := 229) dX11_init_32 (by decide) ?_
  refine z_cnew_i (N := 229) dX11_init_35 hC (by decide) (by decide) (by decide) (by decide) (by decide) (fun G7 q4 hC => ?_)
  refine z_cputF (fs' := [.ref q1, .ref q2, .ref q3, .ref q4, .int 0, .int 0, .int 0, .int 0, .int 0, .int 0, .int 0, .int 0, .null, .int 0, .int 0, .null, .int 0, .int 0, .null, .int 0]) dX11_init_37 fX11_19 rfl hC rfl rfl (Nat.le_of_ble_eq_true rfl) rfl (fun G8 hC => ?_)
  refine z_aload_n dX11_init_40 rfl ?_
  refine z_bipush (v := 60) dX11_init_41 (by decide) ?_
  refine z_cnew_i (N := 60) dX11_init_43 hC (by decide) (by decide) (by decide) (by decide) (by decide) (fun G9 q5 hC => ?_)
  refine z_cputF (fs' := [.ref q1, .ref q2, .ref q3, .ref q4, .int 0, .int 0, .int 0, .int 0, .int 0, .int 0, .int 0, .int 0, .ref q5, .int 0, .int 0, .null, .int 0, .int 0, .null, .int 0]) dX11_init_45 fX11_22 rfl hC rfl rfl (Nat.le_of_ble_eq_true rfl) rfl (fun G10 hC => ?_)
  refine z_aload_n dX11_init_48 rfl ?_
  refine z_iconst (v := (-1)) dX11_init_49 (by decide) ?_
  refine z_cput (fs' := [.ref q1, .ref q2, .ref q3, .ref q4, .int 0, .int 0, .int 0, .int 0, .int 0, .int 0, .int 0, .int 0, .ref q5, .int 0, .int (-1), .null, .int 0, .int 0, .null, .int 0]) dX11_init_50 fX11_25 hC rfl rfl (Nat.le_of_ble_eq_true rfl) rfl (fun G11 hC => ?_)
  refine z_aload_n dX11_init_53 rfl ?_
  refine z_bipush (v := 80) dX11_init_54 (by decide) ?_
  refine z_cnew_c (N := 80) dX11_init_56 hC (by decide) (by decide) (by decide) (by decide) (by decide) (fun G12 q6 hC => ?_)
  refine z_cputF (fs' := [.ref q1, .ref q2, .ref q3, .ref q4, .int 0, .int 0, .int 0, .int 0, .int 0, .int 0, .int 0, .int 0, .ref q5, .int 0, .int (-1), .ref q6, .int 0, .int 0, .null, .int 0]) dX11_init_58 fX11_29 rfl hC rfl rfl (Nat.le_of_ble_eq_true rfl) rfl (fun G13 hC => ?_)
  refine z_aload_n dX11_init_61 rfl ?_
  refine z_bipush (v := 124) dX11_init_62 (by decide) ?_
  refine z_cnew_i (N := 124) dX11_init_64 hC (by decide) (by decide) (by decide) (by decide) (by decide) (fun G14 q7 hC => ?_)
  refine z_cputF (fs' := [.ref q1, .ref q2, .ref q3, .ref q4, .int 0, .int 0, .int 0, .int 0, .int 0, .int 0, .int 0, .int 0, .ref q5, .int 0, .int (-1), .ref q6, .int 0, .int 0, .ref q7, .int 0]) dX11_init_66 fX11_33 rfl hC rfl rfl (Nat.le_of_ble_eq_true rfl) rfl (fun G15 hC => ?_)
  obtain ⟨am, ham⟩ : ∃ am : Nat → Nat, am = (fun k => match k with
      | 0 => b
      | 1 => q1
      | 2 => q2
      | 3 => q3
      | 4 => q4
      | 5 => q5
      | 6 => q6
      | _ => q7) := ⟨_, rfl⟩
  have hM : zMod G15 am zm0 := by
    rw [ham]
    refine ⟨fun k hk => ?_, ?_⟩
    · match k, hk with
      | 0, _ => exact hC.1
      | 1, _ => exact (hC.at 0 rfl).1
      | 2, _ => exact (hC.at 1 rfl).1
      | 3, _ => exact (hC.at 2 rfl).1
      | 4, _ => exact (hC.at 3 rfl).1
      | 5, _ => exact (hC.at 4 rfl).1
      | 6, _ => exact (hC.at 5 rfl).1
      | 7, _ => exact (hC.at 6 rfl).1
      | k9 + 8, h => exact absurd h (by omega)
    · refine hC.ap zpiM (fun i hi e => by rw [zpiM_0 i hi e]; rfl) (fun i k hi e => ?_) zpiM_i
      match i, hi with
      | 0, _ => exact absurd (show (0 : Nat) = k + 1 from e) (by omega)
      | 1, _ =>
        obtain rfl : k = 0 := by
          have : (1 : Nat) = k + 1 := e
          omega
        rfl
      | 2, _ =>
        obtain rfl : k = 1 := by
          have : (2 : Nat) = k + 1 := e
          omega
        rfl
      | 3, _ =>
        obtain rfl : k = 2 := by
          have : (3 : Nat) = k + 1 := e
          omega
        rfl
      | 4, _ =>
        obtain rfl : k = 3 := by
          have : (4 : Nat) = k + 1 := e
          omega
        rfl
      | 5, _ =>
        obtain rfl : k = 4 := by
          have : (5 : Nat) = k + 1 := e
          omega
        rfl
      | 6, _ =>
        obtain rfl : k = 5 := by
          have : (6 : Nat) = k + 1 := e
          omega
        rfl
      | 7, _ =>
        obtain rfl : k = 6 := by
          have : (7 : Nat) = k + 1 := e
          omega
        rfl
      | i9 + 8, h => exact absurd h (by omega)
  have hfr : ∀ k, 1 ≤ k → k < 8 → G (am k) = none := by
    intro k h1 hk
    rw [ham]
    match k, hk with
    | 0, _ => exact absurd h1 (by decide)
    | 1, _ => exact (hC.at 0 rfl).2
    | 2, _ => exact (hC.at 1 rfl).2
    | 3, _ => exact (hC.at 2 rfl).2
    | 4, _ => exact (hC.at 3 rfl).2
    | 5, _ => exact (hC.at 4 rfl).2
    | 6, _ => exact (hC.at 5 rfl).2
    | 7, _ => exact (hC.at 6 rfl).2
    | k9 + 8, h => exact absurd h (by omega)
  have hN := hC.2.2.2.1
  have hb0 : G b ≠ none := hC.2.2.2.2
  have hb : b = am 0 := (congrFun ham 0).symm
  refine z_aload_n dX11_init_69 rfl ?_
  rw [hb]
  refine z_get dX11_init_70 fX11_7.r (hM.1 0 (by decide)) rfl ?_
  refine z_iconst (v := 0) dX11_init_73 (by decide) ?_
  refine z_bipush (v := 100) dX11_init_74 (by decide) ?_
  refine z_iast dX11_init_76 (hM.1 1 (by decide)) (show vp_in 0 229 from vp_in_nI (n := 0) (show 0 < 229 by decide) (by decide)) ?_
  refine z_mset hM 1 0 100 (by decide) (by simp only [zmE, zu_row]; rfl) (fun G9 hM9 hF => ?_)
  refine z_vreturn (mi := mX11_init) dX11_init_77 rfl (by decide) (by decide) (hP G9 am hb.symm hM9 hfr (fun a ha hab => ?_))
  rw [← hN a ha hab]
  refine hF a (fun k hk e => ?_)
  rcases Nat.eq_zero_or_pos k with h0 | h0
  · exact hab (by rw [e, h0, hb])
  · exact ha (by rw [e]; exact hfr k h0 hk)
