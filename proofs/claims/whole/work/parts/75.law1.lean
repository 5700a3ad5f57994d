theorem zcd_1 {E a : String} {c : Int32} (h : zcd E [a] 1 = some c) : E = a ∧ c = 1 := by
  unfold zcd at h
  split at h
  · rename_i e
    exact ⟨e.symm, (Option.some.inj h).symm⟩
  · cases h
theorem zcd_2 {E a b : String} {c : Int32} (h : zcd E [a, b] 1 = some c) : (E = a ∧ c = 1) ∨ (E = b ∧ c = 2) := by
  unfold zcd at h
  split at h
  · rename_i e
    exact Or.inl ⟨e.symm, (Option.some.inj h).symm⟩
  · unfold zcd at h
    split at h
    · rename_i e
      exact Or.inr ⟨e.symm, (Option.some.inj h).symm⟩
    · cases h
theorem zcd_3 {E a b c9 : String} {c : Int32} (h : zcd E [a, b, c9] 1 = some c) : (E = a ∧ c = 1) ∨ (E = b ∧ c = 2) ∨ (E = c9 ∧ c = 3) := by
  unfold zcd at h
  split at h
  · rename_i e
    exact Or.inl ⟨e.symm, (Option.some.inj h).symm⟩
  · unfold zcd at h
    split at h
    · rename_i e
      exact Or.inr (Or.inl ⟨e.symm, (Option.some.inj h).symm⟩)
    · unfold zcd at h
      split at h
      · rename_i e
        exact Or.inr (Or.inr ⟨e.symm, (Option.some.inj h).symm⟩)
      · cases h
theorem kgL_stone9 : Cond.codeWith yL_stone method_3_code 6 ((Option.some Jvm.ClassFile.FieldType.int)) [((0 : Nat), (12 : Nat), (15 : Nat), (13 : Nat))] ∈ lw_good := zin 430 (by decide +kernel) (by decide +kernel)
set_option maxHeartbeats 4000000 in
set_option maxRecDepth 10000 in
theorem sL_stone {Γ : zG} {d : Nat} {G : zH} {Post : zV} {b ou : Nat} {fs : List Value} {p0 p1 p2 : Int32} (hG : G b = some (.inr (10, fs))) (hM : ∀ P : zP, (∀ o G', (∃ (r : Int32) (f : Nat → Int64), o = .inl (some (.int r)) ∧ G' ou = some (.inl (.long, (1, .inr (.inl f)))) ∧ Post (some (.int 0)) (zset G' ou (.inl (.long, (1, .inr (.inl (vp_updL f 0 r.toInt64))))))) ∨ (∃ E c, o = .inr E ∧ zcd E ["java/lang/UnsupportedOperationException"] 1 = some c ∧ Post (some (.int c)) G') → P o G') → zMX Γ d mX10_stone 1 6 [.ref b, .int p0, .int p1, .int p2] G P) : zMW Γ (d + 1) mL_stone 1 6 [.ref b, .int p0, .int p1, .int p2, .ref ou] G Post := by
  refine zMW_of pnL rfl (Nat.le_of_ble_eq_true rfl) ?_
  refine z_aload dL_stone_0 rfl ?_
  refine z_iconst (v := 0) dL_stone_2 (by decide) ?_
  refine z_aload_n dL_stone_3 rfl ?_
  refine z_iload_n dL_stone_4 rfl ?_
  refine z_iload_n dL_stone_5 rfl ?_
  refine z_iload_n dL_stone_6 rfl ?_
  refine z_callVX (mi' := mX10_stone) (As := [.int p0, .int p1, .int p2]) (mc' := 1) (ms' := 6) (z := 3) dL_stone_7 lL_7 nX10_stone kX10_stone (Nat.le_of_ble_eq_true rfl) rfl (Nat.le_of_ble_eq_true rfl) (by decide) (by decide) hG rfl rfl ?_
  refine hM _ (fun o G' hq => ?_)
  rcases hq with ⟨r, f, rfl, ho, hp⟩ | ⟨E, c, rfl, hc, hp⟩
  · refine z_i2l dL_stone_10 ?_
    refine z_last dL_stone_11 ho (vp_in_nI (n := 0) (show 0 < 1 by decide) (by decide)) ?_
    refine z_goto (tgt := 19) dL_stone_12 (by decide) ?_
    refine z_iconst (v := 0) dL_stone_19 (by decide) ?_
    exact z_ireturn (mi := mL_stone) dL_stone_20 rfl rfl (by decide) (by decide) (hp)
  · obtain ⟨rfl, rfl⟩ := zcd_1 hc
    refine z_catch [] _ [] rfl (fun z hz => absurd hz List.not_mem_nil) (by decide) (by decide) gL_13 (by decide) (fun q => ?_)
    refine z_astore dL_stone_15 (by decide) rfl ?_
    refine z_iconst (v := 1) dL_stone_17 (by decide) ?_
    exact z_ireturn (mi := mL_stone) dL_stone_18 rfl rfl (by decide) (by decide) (hp)
theorem kgL_flood9 : Cond.codeWith yL_flood method_4_code 6 ((Option.some Jvm.ClassFile.FieldType.int)) [((0 : Nat), (12 : Nat), (15 : Nat), (13 : Nat))] ∈ lw_good := zin 538 (by decide +kernel) (by decide +kernel)
set_option maxHeartbeats 4000000 in
set_option maxRecDepth 10000 in
theorem sL_flood {Γ : zG} {d : Nat} {G : zH} {Post : zV} {b ou : Nat} {fs : List Value} {p0 p1 p2 : Int32} (hG : G b = some (.inr (10, fs))) (hM : ∀ P : zP, (∀ o G', (∃ (r : Int32) (f : Nat → Int64), o = .inl (some (.int r)) ∧ G' ou = some (.inl (.long, (1, .inr (.inl f)))) ∧ Post (some (.int 0)) (zset G' ou (.inl (.long, (1, .inr (.inl (vp_updL f 0 r.toInt64))))))) ∨ (∃ E c, o = .inr E ∧ zcd E ["java/lang/UnsupportedOperationException"] 1 = some c ∧ Post (some (.int c)) G') → P o G') → zMX Γ d mX10_flood 1 6 [.ref b, .int p0, .int p1, .int p2] G P) : zMW Γ (d + 1) mL_flood 1 6 [.ref b, .int p0, .int p1, .int p2, .ref ou] G Post := by
  refine zMW_of pnL rfl (Nat.le_of_ble_eq_true rfl) ?_
  refine z_aload dL_flood_0 rfl ?_
  refine z_iconst (v := 0) dL_flood_2 (by decide) ?_
  refine z_aload_n dL_flood_3 rfl ?_
  refine z_iload_n dL_flood_4 rfl ?_
  refine z_iload_n dL_flood_5 rfl ?_
  refine z_iload_n dL_flood_6 rfl ?_
  refine z_callVX (mi' := mX10_flood) (As := [.int p0, .int p1, .int p2]) (mc' := 1) (ms' := 6) (z := 3) dL_flood_7 lL_15 nX10_flood kX10_flood (Nat.le_of_ble_eq_true rfl) rfl (Nat.le_of_ble_eq_true rfl) (by decide) (by decide) hG rfl rfl ?_
  refine hM _ (fun o G' hq => ?_)
  rcases hq with ⟨r, f, rfl, ho, hp⟩ | ⟨E, c, rfl, hc, hp⟩
  · refine z_i2l dL_flood_10 ?_
    refine z_last dL_flood_11 ho (vp_in_nI (n := 0) (show 0 < 1 by decide) (by decide)) ?_
    refine z_goto (tgt := 19) dL_flood_12 (by decide) ?_
    refine z_iconst (v := 0) dL_flood_19 (by decide) ?_
    exact z_ireturn (mi := mL_flood) dL_flood_20 rfl rfl (by decide) (by decide) (hp)
  · obtain ⟨rfl, rfl⟩ := zcd_1 hc
    refine z_catch [] _ [] rfl (fun z hz => absurd hz List.not_mem_nil) (by decide) (by decide) gL_13 (by decide) (fun q => ?_)
    refine z_astore dL_flood_15 (by decide) rfl ?_
    refine z_iconst (v := 1) dL_flood_17 (by decide) ?_
    exact z_ireturn (mi := mL_flood) dL_flood_18 rfl rfl (by decide) (by decide) (hp)
theorem kgL_epoch9 : Cond.codeWith yL_epoch method_5_code 5 ((Option.some Jvm.ClassFile.FieldType.int)) [((0 : Nat), (10 : Nat), (13 : Nat), (13 : Nat))] ∈ lw_good := zin 560 (by decide +kernel) (by decide +kernel)
set_option maxHeartbeats 4000000 in
set_option maxRecDepth 10000 in
theorem sL_epoch {Γ : zG} {d : Nat} {G : zH} {Post : zV} {b ou : Nat} {fs : List Value} {p0 p1 : Int32} (hG : G b = some (.inr (10, fs))) (hM : ∀ P : zP, (∀ o G', (∃ (r : Int32) (f : Nat → Int64), o = .inl (some (.int r)) ∧ G' ou = some (.inl (.long, (1, .inr (.inl f)))) ∧ Post (some (.int 0)) (zset G' ou (.inl (.long, (1, .inr (.inl (vp_updL f 0 r.toInt64))))))) ∨ (∃ E c, o = .inr E ∧ zcd E ["java/lang/UnsupportedOperationException"] 1 = some c ∧ Post (some (.int c)) G') → P o G') → zMX Γ d mX10_epoch 1 6 [.ref b, .int p0, .int p1] G P) : zMW Γ (d + 1) mL_epoch 1 6 [.ref b, .int p0, .int p1, .ref ou] G Post := by
  refine zMW_of pnL rfl (Nat.le_of_ble_eq_true rfl) ?_
  refine z_aload_n dL_epoch_0 rfl ?_
  refine z_iconst (v := 0) dL_epoch_1 (by decide) ?_
  refine z_aload_n dL_epoch_2 rfl ?_
  refine z_iload_n dL_epoch_3 rfl ?_
  refine z_iload_n dL_epoch_4 rfl ?_
  refine z_callVX (mi' := mX10_epoch) (As := [.int p0, .int p1]) (mc' := 1) (ms' := 6) (z := 2) dL_epoch_5 lL_18 nX10_epoch kX10_epoch (Nat.le_of_ble_eq_true rfl) rfl (Nat.le_of_ble_eq_true rfl) (by decide) (by decide) hG rfl rfl ?_
  refine hM _ (fun o G' hq => ?_)
  rcases hq with ⟨r, f, rfl, ho, hp⟩ | ⟨E, c, rfl, hc, hp⟩
  · refine z_i2l dL_epoch_8 ?_
    refine z_last dL_epoch_9 ho (vp_in_nI (n := 0) (show 0 < 1 by decide) (by decide)) ?_
    refine z_goto (tgt := 17) dL_epoch_10 (by decide) ?_
    refine z_iconst (v := 0) dL_epoch_17 (by decide) ?_
    exact z_ireturn (mi := mL_epoch) dL_epoch_18 rfl rfl (by decide) (by decide) (hp)
  · obtain ⟨rfl, rfl⟩ := zcd_1 hc
    refine z_catch [] _ [] rfl (fun z hz => absurd hz List.not_mem_nil) (by decide) (by decide) gL_13 (by decide) (fun q => ?_)
    refine z_astore dL_epoch_13 (by decide) rfl ?_
    refine z_iconst (v := 1) dL_epoch_15 (by decide) ?_
    exact z_ireturn (mi := mL_epoch) dL_epoch_16 rfl rfl (by decide) (by decide) (hp)
theorem kgL_chisel9 : Cond.codeWith yL_chisel method_6_code 3 ((Option.some Jvm.ClassFile.FieldType.int)) [((0 : Nat), (8 : Nat), (11 : Nat), (13 : Nat))] ∈ lw_good := zin 582 (by decide +kernel) (by decide +kernel)
set_option maxHeartbeats 4000000 in
set_option maxRecDepth 10000 in
theorem sL_chisel {Γ : zG} {d : Nat} {G : zH} {Post : zV} {b ou : Nat} {fs : List Value} (hG : G b = some (.inr (10, fs))) (hM : ∀ P : zP, (∀ o G', (∃ (r : Int32) (f : Nat → Int64), o = .inl (some (.int r)) ∧ G' ou = some (.inl (.long, (1, .inr (.inl f)))) ∧ Post (some (.int 0)) (zset G' ou (.inl (.long, (1, .inr (.inl (vp_updL f 0 r.toInt64))))))) ∨ (∃ E c, o = .inr E ∧ zcd E ["java/lang/UnsupportedOperationException"] 1 = some c ∧ Post (some (.int c)) G') → P o G') → zMX Γ d mX10_chisel 1 6 [.ref b] G P) : zMW Γ (d + 1) mL_chisel 1 6 [.ref b, .ref ou] G Post := by
  refine zMW_of pnL rfl (Nat.le_of_ble_eq_true rfl) ?_
  refine z_aload_n dL_chisel_0 rfl ?_
  refine z_iconst (v := 0) dL_chisel_1 (by decide) ?_
  refine z_aload_n dL_chisel_2 rfl ?_
  refine z_callVX (mi' := mX10_chisel) (As := []) (mc' := 1) (ms' := 6) (z := 0) dL_chisel_3 lL_22 nX10_chisel kX10_chisel (Nat.le_of_ble_eq_true rfl) rfl (Nat.le_of_ble_eq_true rfl) (by decide) (by decide) hG rfl rfl ?_
  refine hM _ (fun o G' hq => ?_)
  rcases hq with ⟨r, f, rfl, ho, hp⟩ | ⟨E, c, rfl, hc, hp⟩
  · refine z_i2l dL_chisel_6 ?_
    refine z_last dL_chisel_7 ho (vp_in_nI (n := 0) (show 0 < 1 by decide) (by decide)) ?_
    refine z_goto (tgt := 14) dL_chisel_8 (by decide) ?_
    refine z_iconst (v := 0) dL_chisel_14 (by decide) ?_
    exact z_ireturn (mi := mL_chisel) dL_chisel_15 rfl rfl (by decide) (by decide) (hp)
  · obtain ⟨rfl, rfl⟩ := zcd_1 hc
    refine z_catch [] _ [] rfl (fun z hz => absurd hz List.not_mem_nil) (by decide) (by decide) gL_13 (by decide) (fun q => ?_)
    refine z_astore_n dL_chisel_11 (by decide) rfl ?_
    refine z_iconst (v := 1) dL_chisel_12 (by decide) ?_
    exact z_ireturn (mi := mL_chisel) dL_chisel_13 rfl rfl (by decide) (by decide) (hp)
theorem kgL_cut9 : Cond.codeWith yL_cut method_7_code 6 ((Option.some Jvm.ClassFile.FieldType.int)) [((0 : Nat), (12 : Nat), (15 : Nat), (13 : Nat))] ∈ lw_good := zin 599 (by decide +kernel) (by decide +kernel)
set_option maxHeartbeats 4000000 in
set_option maxRecDepth 10000 in
theorem sL_cut {Γ : zG} {d : Nat} {G : zH} {Post : zV} {b ou : Nat} {fs : List Value} {p0 p1 p2 : Int32} (hG : G b = some (.inr (10, fs))) (hM : ∀ P : zP, (∀ o G', (∃ (r : Int32) (f : Nat → Int64), o = .inl (some (.int r)) ∧ G' ou = some (.inl (.long, (1, .inr (.inl f)))) ∧ Post (some (.int 0)) (zset G' ou (.inl (.long, (1, .inr (.inl (vp_updL f 0 r.toInt64))))))) ∨ (∃ E c, o = .inr E ∧ zcd E ["java/lang/UnsupportedOperationException"] 1 = some c ∧ Post (some (.int c)) G') → P o G') → zMX Γ d mX10_cut 1 6 [.ref b, .int p0, .int p1, .int p2] G P) : zMW Γ (d + 1) mL_cut 1 6 [.ref b, .int p0, .int p1, .int p2, .ref ou] G Post := by
  refine zMW_of pnL rfl (Nat.le_of_ble_eq_true rfl) ?_
  refine z_aload dL_cut_0 rfl ?_
  refine z_iconst (v := 0) dL_cut_2 (by decide) ?_
  refine z_aload_n dL_cut_3 rfl ?_
  refine z_iload_n dL_cut_4 rfl ?_
  refine z_iload_n dL_cut_5 rfl ?_
  refine z_iload_n dL_cut_6 rfl ?_
  refine z_callVX (mi' := mX10_cut) (As := [.int p0, .int p1, .int p2]) (mc' := 1) (ms' := 6) (z := 3) dL_cut_7 lL_26 nX10_cut kX10_cut (Nat.le_of_ble_eq_true rfl) rfl (Nat.le_of_ble_eq_true rfl) (by decide) (by decide) hG rfl rfl ?_
  refine hM _ (fun o G' hq => ?_)
  rcases hq with ⟨r, f, rfl, ho, hp⟩ | ⟨E, c, rfl, hc, hp⟩
  · refine z_i2l dL_cut_10 ?_
    refine z_last dL_cut_11 ho (vp_in_nI (n := 0) (show 0 < 1 by decide) (by decide)) ?_
    refine z_goto (tgt := 19) dL_cut_12 (by decide) ?_
    refine z_iconst (v := 0) dL_cut_19 (by decide) ?_
    exact z_ireturn (mi := mL_cut) dL_cut_20 rfl rfl (by decide) (by decide) (hp)
  · obtain ⟨rfl, rfl⟩ := zcd_1 hc
    refine z_catch [] _ [] rfl (fun z hz => absurd hz List.not_mem_nil) (by decide) (by decide) gL_13 (by decide) (fun q => ?_)
    refine z_astore dL_cut_15 (by decide) rfl ?_
    refine z_iconst (v := 1) dL_cut_17 (by decide) ?_
    exact z_ireturn (mi := mL_cut) dL_cut_18 rfl rfl (by decide) (by decide) (hp)
theorem kgL_efface9 : Cond.codeWith yL_efface method_8_code 5 ((Option.some Jvm.ClassFile.FieldType.int)) [((0 : Nat), (10 : Nat), (13 : Nat), (13 : Nat))] ∈ lw_good := zin 661 (by decide +kernel) (by decide +kernel)
set_option maxHeartbeats 4000000 in
set_option maxRecDepth 10000 in
theorem sL_efface {Γ : zG} {d : Nat} {G : zH} {Post : zV} {b ou : Nat} {fs : List Value} {p0 p1 : Int32} (hG : G b = some (.inr (10, fs))) (hM : ∀ P : zP, (∀ o G', (∃ (r : Int32) (f : Nat → Int64), o = .inl (some (.int r)) ∧ G' ou = some (.inl (.long, (1, .inr (.inl f)))) ∧ Post (some (.int 0)) (zset G' ou (.inl (.long, (1, .inr (.inl (vp_updL f 0 r.toInt64))))))) ∨ (∃ E c, o = .inr E ∧ zcd E ["java/lang/UnsupportedOperationException"] 1 = some c ∧ Post (some (.int c)) G') → P o G') → zMX Γ d mX10_efface 1 6 [.ref b, .int p0, .int p1] G P) : zMW Γ (d + 1) mL_efface 1 6 [.ref b, .int p0, .int p1, .ref ou] G Post := by
  refine zMW_of pnL rfl (Nat.le_of_ble_eq_true rfl) ?_
  refine z_aload_n dL_efface_0 rfl ?_
  refine z_iconst (v := 0) dL_efface_1 (by decide) ?_
  refine z_aload_n dL_efface_2 rfl ?_
  refine z_iload_n dL_efface_3 rfl ?_
  refine z_iload_n dL_efface_4 rfl ?_
  refine z_callVX (mi' := mX10_efface) (As := [.int p0, .int p1]) (mc' := 1) (ms' := 6) (z := 2) dL_efface_5 lL_29 nX10_efface kX10_efface (Nat.le_of_ble_eq_true rfl) rfl (Nat.le_of_ble_eq_true rfl) (by decide) (by decide) hG rfl rfl ?_
  refine hM _ (fun o G' hq => ?_)
  rcases hq with ⟨r, f, rfl, ho, hp⟩ | ⟨E, c, rfl, hc, hp⟩
  · refine z_i2l dL_efface_8 ?_
    refine z_last dL_efface_9 ho (vp_in_nI (n := 0) (show 0 < 1 by decide) (by decide)) ?_
    refine z_goto (tgt := 17) dL_efface_10 (by decide) ?_
    refine z_iconst (v := 0) dL_efface_17 (by decide) ?_
    exact z_ireturn (mi := mL_efface) dL_efface_18 rfl rfl (by decide) (by decide) (hp)
  · obtain ⟨rfl, rfl⟩ := zcd_1 hc
    refine z_catch [] _ [] rfl (fun z hz => absurd hz List.not_mem_nil) (by decide) (by decide) gL_13 (by decide) (fun q => ?_)
    refine z_astore dL_efface_13 (by decide) rfl ?_
    refine z_iconst (v := 1) dL_efface_15 (by decide) ?_
    exact z_ireturn (mi := mL_efface) dL_efface_16 rfl rfl (by decide) (by decide) (hp)
theorem kgL_sharpen9 : Cond.codeWith yL_sharpen method_9_code 4 ((Option.some Jvm.ClassFile.FieldType.int)) [((0 : Nat), (9 : Nat), (12 : Nat), (13 : Nat))] ∈ lw_good := zin 677 (by decide +kernel) (by decide +kernel)
set_option maxHeartbeats 4000000 in
set_option maxRecDepth 10000 in
theorem sL_sharpen {Γ : zG} {d : Nat} {G : zH} {Post : zV} {b ou : Nat} {fs : List Value} {p0 : Int32} (hG : G b = some (.inr (10, fs))) (hM : ∀ P : zP, (∀ o G', (∃ (r : Int32) (f : Nat → Int64), o = .inl (some (.int r)) ∧ G' ou = some (.inl (.long, (1, .inr (.inl f)))) ∧ Post (some (.int 0)) (zset G' ou (.inl (.long, (1, .inr (.inl (vp_updL f 0 r.toInt64))))))) ∨ (∃ E c, o = .inr E ∧ zcd E ["java/lang/UnsupportedOperationException"] 1 = some c ∧ Post (some (.int c)) G') → P o G') → zMX Γ d mX10_sharpen 1 6 [.ref b, .int p0] G P) : zMW Γ (d + 1) mL_sharpen 1 6 [.ref b, .int p0, .ref ou] G Post := by
  refine zMW_of pnL rfl (Nat.le_of_ble_eq_true rfl) ?_
  refine z_aload_n dL_sharpen_0 rfl ?_
  refine z_iconst (v := 0) dL_sharpen_1 (by decide) ?_
  refine z_aload_n dL_sharpen_2 rfl ?_
  refine z_iload_n dL_sharpen_3 rfl ?_
  refine z_callVX (mi' := mX10_sharpen) (As := [.int p0]) (mc' := 1) (ms' := 6) (z := 1) dL_sharpen_4 lL_32 nX10_sharpen kX10_sharpen (Nat.le_of_ble_eq_true rfl) rfl (Nat.le_of_ble_eq_true rfl) (by decide) (by decide) hG rfl rfl ?_
  refine hM _ (fun o G' hq => ?_)
  rcases hq with ⟨r, f, rfl, ho, hp⟩ | ⟨E, c, rfl, hc, hp⟩
  · refine z_i2l dL_sharpen_7 ?_
    refine z_last dL_sharpen_8 ho (vp_in_nI (n := 0) (show 0 < 1 by decide) (by decide)) ?_
    refine z_goto (tgt := 15) dL_sharpen_9 (by decide) ?_
    refine z_iconst (v := 0) dL_sharpen_15 (by decide) ?_
    exact z_ireturn (mi := mL_sharpen) dL_sharpen_16 rfl rfl (by decide) (by decide) (hp)
  · obtain ⟨rfl, rfl⟩ := zcd_1 hc
    refine z_catch [] _ [] rfl (fun z hz => absurd hz List.not_mem_nil) (by decide) (by decide) gL_13 (by decide) (fun q => ?_)
    refine z_astore_n dL_sharpen_12 (by decide) rfl ?_
    refine z_iconst (v := 1) dL_sharpen_13 (by decide) ?_
    exact z_ireturn (mi := mL_sharpen) dL_sharpen_14 rfl rfl (by decide) (by decide) (hp)
theorem kgL_check9 : Cond.codeWith yL_check method_10_code 4 ((Option.some Jvm.ClassFile.FieldType.int)) [((0 : Nat), (9 : Nat), (12 : Nat), (13 : Nat))] ∈ lw_good := zin 693 (by decide +kernel) (by decide +kernel)
set_option maxHeartbeats 4000000 in
set_option maxRecDepth 10000 in
theorem sL_check {Γ : zG} {d : Nat} {G : zH} {Post : zV} {b ou : Nat} {fs : List Value} {p0 : Int32} (hG : G b = some (.inr (10, fs))) (hM : ∀ P : zP, (∀ o G', (∃ (r : Int32) (f : Nat → Int64), o = .inl (some (.int r)) ∧ G' ou = some (.inl (.long, (1, .inr (.inl f)))) ∧ Post (some (.int 0)) (zset G' ou (.inl (.long, (1, .inr (.inl (vp_updL f 0 r.toInt64))))))) ∨ (∃ E c, o = .inr E ∧ zcd E ["java/lang/UnsupportedOperationException"] 1 = some c ∧ Post (some (.int c)) G') → P o G') → zMX Γ d mX10_check 1 6 [.ref b, .int p0] G P) : zMW Γ (d + 1) mL_check 1 6 [.ref b, .int p0, .ref ou] G Post := by
  refine zMW_of pnL rfl (Nat.le_of_ble_eq_true rfl) ?_
  refine z_aload_n dL_check_0 rfl ?_
  refine z_iconst (v := 0) dL_check_1 (by decide) ?_
  refine z_aload_n dL_check_2 rfl ?_
  refine z_iload_n dL_check_3 rfl ?_
  refine z_callVX (mi' := mX10_check) (As := [.int p0]) (mc' := 1) (ms' := 6) (z := 1) dL_check_4 lL_36 nX10_check kX10_check (Nat.le_of_ble_eq_true rfl) rfl (Nat.le_of_ble_eq_true rfl) (by decide) (by decide) hG rfl rfl ?_
  refine hM _ (fun o G' hq => ?_)
  rcases hq with ⟨r, f, rfl, ho, hp⟩ | ⟨E, c, rfl, hc, hp⟩
  · refine z_i2l dL_check_7 ?_
    refine z_last dL_check_8 ho (vp_in_nI (n := 0) (show 0 < 1 by decide) (by decide)) ?_
    refine z_goto (tgt := 15) dL_check_9 (by decide) ?_
    refine z_iconst (v := 0) dL_check_15 (by decide) ?_
    exact z_ireturn (mi := mL_check) dL_check_16 rfl rfl (by decide) (by decide) (hp)
  · obtain ⟨rfl, rfl⟩ := zcd_1 hc
    refine z_catch [] _ [] rfl (fun z hz => absurd hz List.not_mem_nil) (by decide) (by decide) gL_13 (by decide) (fun q => ?_)
    refine z_astore_n dL_check_12 (by decide) rfl ?_
    refine z_iconst (v := 1) dL_check_13 (by decide) ?_
    exact z_ireturn (mi := mL_check) dL_check_14 rfl rfl (by decide) (by decide) (hp)
theorem kgL_witness9 : Cond.codeWith yL_witness method_11_code 5 ((Option.some Jvm.ClassFile.FieldType.int)) [((0 : Nat), (10 : Nat), (13 : Nat), (13 : Nat))] ∈ lw_good := zin 709 (by decide +kernel) (by decide +kernel)
set_option maxHeartbeats 4000000 in
set_option maxRecDepth 10000 in
theorem sL_witness {Γ : zG} {d : Nat} {G : zH} {Post : zV} {b ou : Nat} {fs : List Value} {p0 p1 : Int32} (hG : G b = some (.inr (10, fs))) (hM : ∀ P : zP, (∀ o G', (∃ (r : Int32) (f : Nat → Int64), o = .inl (some (.int r)) ∧ G' ou = some (.inl (.long, (1, .inr (.inl f)))) ∧ Post (some (.int 0)) (zset G' ou (.inl (.long, (1, .inr (.inl (vp_updL f 0 r.toInt64))))))) ∨ (∃ E c, o = .inr E ∧ zcd E ["java/lang/UnsupportedOperationException"] 1 = some c ∧ Post (some (.int c)) G') → P o G') → zMX Γ d mX10_witness 1 6 [.ref b, .int p0, .int p1] G P) : zMW Γ (d + 1) mL_witness 1 6 [.ref b, .int p0, .int p1, .ref ou] G Post := by
  refine zMW_of pnL rfl (Nat.le_of_ble_eq_true rfl) ?_
  refine z_aload_n dL_witness_0 rfl ?_
  refine z_iconst (v := 0) dL_witness_1 (by decide) ?_
  refine z_aload_n dL_witness_2 rfl ?_
  refine z_iload_n dL_witness_3 rfl ?_
  refine z_iload_n dL_witness_4 rfl ?_
  refine z_callVX (mi' := mX10_witness) (As := [.int p0, .int p1]) (mc' := 1) (ms' := 6) (z := 2) dL_witness_5 lL_39 nX10_witness kX10_witness (Nat.le_of_ble_eq_true rfl) rfl (Nat.le_of_ble_eq_true rfl) (by decide) (by decide) hG rfl rfl ?_
  refine hM _ (fun o G' hq => ?_)
  rcases hq with ⟨r, f, rfl, ho, hp⟩ | ⟨E, c, rfl, hc, hp⟩
  · refine z_i2l dL_witness_8 ?_
    refine z_last dL_witness_9 ho (vp_in_nI (n := 0) (show 0 < 1 by decide) (by decide)) ?_
    refine z_goto (tgt := 17) dL_witness_10 (by decide) ?_
    refine z_iconst (v := 0) dL_witness_17 (by decide) ?_
    exact z_ireturn (mi := mL_witness) dL_witness_18 rfl rfl (by decide) (by decide) (hp)
  · obtain ⟨rfl, rfl⟩ := zcd_1 hc
    refine z_catch [] _ [] rfl (fun z hz => absurd hz List.not_mem_nil) (by decide) (by decide) gL_13 (by decide) (fun q => ?_)
    refine z_astore dL_witness_13 (by decide) rfl ?_
    refine z_iconst (v := 1) dL_witness_15 (by decide) ?_
    exact z_ireturn (mi := mL_witness) dL_witness_16 rfl rfl (by decide) (by decide) (hp)
theorem kgL_years9 : Cond.codeWith yL_years method_12_code 4 ((Option.some Jvm.ClassFile.FieldType.int)) [((0 : Nat), (9 : Nat), (12 : Nat), (13 : Nat))] ∈ lw_good := zin 725 (by decide +kernel) (by decide +kernel)
set_option maxHeartbeats 4000000 in
set_option maxRecDepth 10000 in
theorem sL_years {Γ : zG} {d : Nat} {G : zH} {Post : zV} {b ou : Nat} {fs : List Value} {p0 : Int32} (hG : G b = some (.inr (10, fs))) (hM : ∀ P : zP, (∀ o G', (∃ (r : Int32) (f : Nat → Int64), o = .inl (some (.int r)) ∧ G' ou = some (.inl (.long, (1, .inr (.inl f)))) ∧ Post (some (.int 0)) (zset G' ou (.inl (.long, (1, .inr (.inl (vp_updL f 0 r.toInt64))))))) ∨ (∃ E c, o = .inr E ∧ zcd E ["java/lang/UnsupportedOperationException"] 1 = some c ∧ Post (some (.int c)) G') → P o G') → zMX Γ d mX10_years 1 6 [.ref b, .int p0] G P) : zMW Γ (d + 1) mL_years 1 6 [.ref b, .int p0, .ref ou] G Post := by
  refine zMW_of pnL rfl (Nat.le_of_ble_eq_true rfl) ?_
  refine z_aload_n dL_years_0 rfl ?_
  refine z_iconst (v := 0) dL_years_1 (by decide) ?_
  refine z_aload_n dL_years_2 rfl ?_
  refine z_iload_n dL_years_3 rfl ?_
  refine z_callVX (mi' := mX10_years) (As := [.int p0]) (mc' := 1) (ms' := 6) (z := 1) dL_years_4 lL_42 nX10_years kX10_years (Nat.le_of_ble_eq_true rfl) rfl (Nat.le_of_ble_eq_true rfl) (by decide) (by decide) hG rfl rfl ?_
  refine hM _ (fun o G' hq => ?_)
  rcases hq with ⟨r, f, rfl, ho, hp⟩ | ⟨E, c, rfl, hc, hp⟩
  · refine z_i2l dL_years_7 ?_
    refine z_last dL_years_8 ho (vp_in_nI (n := 0) (show 0 < 1 by decide) (by decide)) ?_
    refine z_goto (tgt := 15) dL_years_9 (by decide) ?_
    refine z_iconst (v := 0) dL_years_15 (by decide) ?_
    exact z_ireturn (mi := mL_years) dL_years_16 rfl rfl (by decide) (by decide) (hp)
  · obtain ⟨rfl, rfl⟩ := zcd_1 hc
    refine z_catch [] _ [] rfl (fun z hz => absurd hz List.not_mem_nil) (by decide) (by decide) gL_13 (by decide) (fun q => ?_)
    refine z_astore_n dL_years_12 (by decide) rfl ?_
    refine z_iconst (v := 1) dL_years_13 (by decide) ?_
    exact z_ireturn (mi := mL_years) dL_years_14 rfl rfl (by decide) (by decide) (hp)
theorem kgL_stoneOf9 : Cond.codeWith yL_stoneOf method_13_code 5 ((Option.some Jvm.ClassFile.FieldType.int)) [((0 : Nat), (10 : Nat), (13 : Nat), (48 : Nat)), ((0 : Nat), (10 : Nat), (17 : Nat), (50 : Nat))] ∈ lw_good := zin 756 (by decide +kernel) (by decide +kernel)
set_option maxHeartbeats 4000000 in
set_option maxRecDepth 10000 in
theorem sL_stoneOf {Γ : zG} {d : Nat} {G : zH} {Post : zV} {b ou : Nat} {fs : List Value} {p0 p1 : Int32} (hG : G b = some (.inr (10, fs))) (hM : ∀ P : zP, (∀ o G', (∃ (r : Int32) (f : Nat → Int64), o = .inl (some (.int r)) ∧ G' ou = some (.inl (.long, (1, .inr (.inl f)))) ∧ Post (some (.int 0)) (zset G' ou (.inl (.long, (1, .inr (.inl (vp_updL f 0 r.toInt64))))))) ∨ (∃ E c, o = .inr E ∧ zcd E ["java/lang/IndexOutOfBoundsException", "java/lang/IllegalArgumentException"] 1 = some c ∧ Post (some (.int c)) G') → P o G') → zMX Γ d mX10_stoneOf 1 6 [.ref b, .int p0, .int p1] G P) : zMW Γ (d + 1) mL_stoneOf 1 6 [.ref b, .int p0, .int p1, .ref ou] G Post := by
  refine zMW_of pnL rfl (Nat.le_of_ble_eq_true rfl) ?_
  refine z_aload_n dL_stoneOf_0 rfl ?_
  refine z_iconst (v := 0) dL_stoneOf_1 (by decide) ?_
  refine z_aload_n dL_stoneOf_2 rfl ?_
  refine z_iload_n dL_stoneOf_3 rfl ?_
  refine z_iload_n dL_stoneOf_4 rfl ?_
  refine z_callVX (mi' := mX10_stoneOf) (As := [.int p0, .int p1]) (mc' := 1) (ms' := 6) (z := 2) dL_stoneOf_5 lL_45 nX10_stoneOf kX10_stoneOf (Nat.le_of_ble_eq_true rfl) rfl (Nat.le_of_ble_eq_true rfl) (by decide) (by decide) hG rfl rfl ?_
  refine hM _ (fun o G' hq => ?_)
  rcases hq with ⟨r, f, rfl, ho, hp⟩ | ⟨E, c, rfl, hc, hp⟩
  · refine z_i2l dL_stoneOf_8 ?_
    refine z_last dL_stoneOf_9 ho (vp_in_nI (n := 0) (show 0 < 1 by decide) (by decide)) ?_
    refine z_goto (tgt := 21) dL_stoneOf_10 (by decide) ?_
    refine z_iconst (v := 0) dL_stoneOf_21 (by decide) ?_
    exact z_ireturn (mi := mL_stoneOf) dL_stoneOf_22 rfl rfl (by decide) (by decide) (hp)
  · rcases zcd_2 hc with ⟨rfl, rfl⟩ | ⟨rfl, rfl⟩
    · refine z_catch [] _ [_] rfl (fun z hz => absurd hz List.not_mem_nil) (by decide) (by decide) gL_48 (by decide) (fun q => ?_)
      refine z_astore dL_stoneOf_13 (by decide) rfl ?_
      refine z_iconst (v := 1) dL_stoneOf_15 (by decide) ?_
      exact z_ireturn (mi := mL_stoneOf) dL_stoneOf_16 rfl rfl (by decide) (by decide) (hp)
    · refine z_catch [_] _ [] rfl (fun z hz => by rw [List.mem_singleton] at hz; subst hz; exact Or.inr ⟨by decide, _, gL_48, by decide⟩) (by decide) (by decide) gL_50 (by decide) (fun q => ?_)
      refine z_astore dL_stoneOf_17 (by decide) rfl ?_
      refine z_iconst (v := 2) dL_stoneOf_19 (by decide) ?_
      exact z_ireturn (mi := mL_stoneOf) dL_stoneOf_20 rfl rfl (by decide) (by decide) (hp)
theorem kgL_floodOf9 : Cond.codeWith yL_floodOf method_14_code 5 ((Option.some Jvm.ClassFile.FieldType.int)) [((0 : Nat), (10 : Nat), (13 : Nat), (48 : Nat)), ((0 : Nat), (10 : Nat), (17 : Nat), (50 : Nat))] ∈ lw_good := zin 821 (by decide +kernel) (by decide +kernel)
set_option maxHeartbeats 4000000 in
set_option maxRecDepth 10000 in
theorem sL_floodOf {Γ : zG} {d : Nat} {G : zH} {Post : zV} {b ou : Nat} {fs : List Value} {p0 p1 : Int32} (hG : G b = some (.inr (10, fs))) (hM : ∀ P : zP, (∀ o G', (∃ (r : Int32) (f : Nat → Int64), o = .inl (some (.int r)) ∧ G' ou = some (.inl (.long, (1, .inr (.inl f)))) ∧ Post (some (.int 0)) (zset G' ou (.inl (.long, (1, .inr (.inl (vp_updL f 0 r.toInt64))))))) ∨ (∃ E c, o = .inr E ∧ zcd E ["java/lang/IndexOutOfBoundsException", "java/lang/IllegalArgumentException"] 1 = some c ∧ Post (some (.int c)) G') → P o G') → zMX Γ d mX10_floodOf 1 6 [.ref b, .int p0, .int p1] G P) : zMW Γ (d + 1) mL_floodOf 1 6 [.ref b, .int p0, .int p1, .ref ou] G Post := by
  refine zMW_of pnL rfl (Nat.le_of_ble_eq_true rfl) ?_
  refine z_aload_n dL_floodOf_0 rfl ?_
  refine z_iconst (v := 0) dL_floodOf_1 (by decide) ?_
  refine z_aload_n dL_floodOf_2 rfl ?_
  refine z_iload_n dL_floodOf_3 rfl ?_
  refine z_iload_n dL_floodOf_4 rfl ?_
  refine z_callVX (mi' := mX10_floodOf) (As := [.int p0, .int p1]) (mc' := 1) (ms' := 6) (z := 2) dL_floodOf_5 lL_52 nX10_floodOf kX10_floodOf (Nat.le_of_ble_eq_true rfl) rfl (Nat.le_of_ble_eq_true rfl) (by decide) (by decide) hG rfl rfl ?_
  refine hM _ (fun o G' hq => ?_)
  rcases hq with ⟨r, f, rfl, ho, hp⟩ | ⟨E, c, rfl, hc, hp⟩
  · refine z_i2l dL_floodOf_8 ?_
    refine z_last dL_floodOf_9 ho (vp_in_nI (n := 0) (show 0 < 1 by decide) (by decide)) ?_
    refine z_goto (tgt := 21) dL_floodOf_10 (by decide) ?_
    refine z_iconst (v := 0) dL_floodOf_21 (by decide) ?_
    exact z_ireturn (mi := mL_floodOf) dL_floodOf_22 rfl rfl (by decide) (by decide) (hp)
  · rcases zcd_2 hc with ⟨rfl, rfl⟩ | ⟨rfl, rfl⟩
    · refine z_catch [] _ [_] rfl (fun z hz => absurd hz List.not_mem_nil) (by decide) (by decide) gL_48 (by decide) (fun q => ?_)
      refine z_astore dL_floodOf_13 (by decide) rfl ?_
      refine z_iconst (v := 1) dL_floodOf_15 (by decide) ?_
      exact z_ireturn (mi := mL_floodOf) dL_floodOf_16 rfl rfl (by decide) (by decide) (hp)
    · refine z_catch [_] _ [] rfl (fun z hz => by rw [List.mem_singleton] at hz; subst hz; exact Or.inr ⟨by decide, _, gL_48, by decide⟩) (by decide) (by decide) gL_50 (by decide) (fun q => ?_)
      refine z_astore dL_floodOf_17 (by decide) rfl ?_
      refine z_iconst (v := 2) dL_floodOf_19 (by decide) ?_
      exact z_ireturn (mi := mL_floodOf) dL_floodOf_20 rfl rfl (by decide) (by decide) (hp)
theorem kgL_floodIn9 : Cond.codeWith yL_floodIn method_15_code 4 ((Option.some Jvm.ClassFile.FieldType.int)) [((0 : Nat), (9 : Nat), (12 : Nat), (58 : Nat))] ∈ lw_good := zin 840 (by decide +kernel) (by decide +kernel)
set_option maxHeartbeats 4000000 in
set_option maxRecDepth 10000 in
theorem sL_floodIn {Γ : zG} {d : Nat} {G : zH} {Post : zV} {b ou : Nat} {fs : List Value} {p0 : Int32} (hG : G b = some (.inr (10, fs))) (hM : ∀ P : zP, (∀ o G', (∃ (r : Int32) (f : Nat → Int64), o = .inl (some (.int r)) ∧ G' ou = some (.inl (.long, (1, .inr (.inl f)))) ∧ Post (some (.int 0)) (zset G' ou (.inl (.long, (1, .inr (.inl (vp_updL f 0 r.toInt64))))))) ∨ (∃ E c, o = .inr E ∧ zcd E ["java/util/NoSuchElementException"] 1 = some c ∧ Post (some (.int c)) G') → P o G') → zMX Γ d mX10_floodIn 1 6 [.ref b, .int p0] G P) : zMW Γ (d + 1) mL_floodIn 1 6 [.ref b, .int p0, .ref ou] G Post := by
  refine zMW_of pnL rfl (Nat.le_of_ble_eq_true rfl) ?_
  refine z_aload_n dL_floodIn_0 rfl ?_
  refine z_iconst (v := 0) dL_floodIn_1 (by decide) ?_
  refine z_aload_n dL_floodIn_2 rfl ?_
  refine z_iload_n dL_floodIn_3 rfl ?_
  refine z_callVX (mi' := mX10_floodIn) (As := [.int p0]) (mc' := 1) (ms' := 6) (z := 1) dL_floodIn_4 lL_55 nX10_floodIn kX10_floodIn (Nat.le_of_ble_eq_true rfl) rfl (Nat.le_of_ble_eq_true rfl) (by decide) (by decide) hG rfl rfl ?_
  refine hM _ (fun o G' hq => ?_)
  rcases hq with ⟨r, f, rfl, ho, hp⟩ | ⟨E, c, rfl, hc, hp⟩
  · refine z_i2l dL_floodIn_7 ?_
    refine z_last dL_floodIn_8 ho (vp_in_nI (n := 0) (show 0 < 1 by decide) (by decide)) ?_
    refine z_goto (tgt := 15) dL_floodIn_9 (by decide) ?_
    refine z_iconst (v := 0) dL_floodIn_15 (by decide) ?_
    exact z_ireturn (mi := mL_floodIn) dL_floodIn_16 rfl rfl (by decide) (by decide) (hp)
  · obtain ⟨rfl, rfl⟩ := zcd_1 hc
    refine z_catch [] _ [] rfl (fun z hz => absurd hz List.not_mem_nil) (by decide) (by decide) gL_58 (by decide) (fun q => ?_)
    refine z_astore_n dL_floodIn_12 (by decide) rfl ?_
    refine z_iconst (v := 1) dL_floodIn_13 (by decide) ?_
    exact z_ireturn (mi := mL_floodIn) dL_floodIn_14 rfl rfl (by decide) (by decide) (hp)
theorem kgL_before9 : Cond.codeWith yL_before method_16_code 4 ((Option.some Jvm.ClassFile.FieldType.int)) [((0 : Nat), (9 : Nat), (12 : Nat), (58 : Nat))] ∈ lw_good := zin 865 (by decide +kernel) (by decide +kernel)
set_option maxHeartbeats 4000000 in
set_option maxRecDepth 10000 in
theorem sL_before {Γ : zG} {d : Nat} {G : zH} {Post : zV} {b ou : Nat} {fs : List Value} {p0 : Int32} (hG : G b = some (.inr (10, fs))) (hM : ∀ P : zP, (∀ o G', (∃ (r : Int32) (f : Nat → Int64), o = .inl (some (.int r)) ∧ G' ou = some (.inl (.long, (1, .inr (.inl f)))) ∧ Post (some (.int 0)) (zset G' ou (.inl (.long, (1, .inr (.inl (vp_updL f 0 r.toInt64))))))) ∨ (∃ E c, o = .inr E ∧ zcd E ["java/util/NoSuchElementException"] 1 = some c ∧ Post (some (.int c)) G') → P o G') → zMX Γ d mX10_before 1 6 [.ref b, .int p0] G P) : zMW Γ (d + 1) mL_before 1 6 [.ref b, .int p0, .ref ou] G Post := by
  refine zMW_of pnL rfl (Nat.le_of_ble_eq_true rfl) ?_
  refine z_aload_n dL_before_0 rfl ?_
  refine z_iconst (v := 0) dL_before_1 (by decide) ?_
  refine z_aload_n dL_before_2 rfl ?_
  refine z_iload_n dL_before_3 rfl ?_
  refine z_callVX (mi' := mX10_before) (As := [.int p0]) (mc' := 1) (ms' := 6) (z := 1) dL_before_4 lL_60 nX10_before kX10_before (Nat.le_of_ble_eq_true rfl) rfl (Nat.le_of_ble_eq_true rfl) (by decide) (by decide) hG rfl rfl ?_
  refine hM _ (fun o G' hq => ?_)
  rcases hq with ⟨r, f, rfl, ho, hp⟩ | ⟨E, c, rfl, hc, hp⟩
  · refine z_i2l dL_before_7 ?_
    refine z_last dL_before_8 ho (vp_in_nI (n := 0) (show 0 < 1 by decide) (by decide)) ?_
    refine z_goto (tgt := 15) dL_before_9 (by decide) ?_
    refine z_iconst (v := 0) dL_before_15 (by decide) ?_
    exact z_ireturn (mi := mL_before) dL_before_16 rfl rfl (by decide) (by decide) (hp)
  · obtain ⟨rfl, rfl⟩ := zcd_1 hc
    refine z_catch [] _ [] rfl (fun z hz => absurd hz List.not_mem_nil) (by decide) (by decide) gL_58 (by decide) (fun q => ?_)
    refine z_astore_n dL_before_12 (by decide) rfl ?_
    refine z_iconst (v := 1) dL_before_13 (by decide) ?_
    exact z_ireturn (mi := mL_before) dL_before_14 rfl rfl (by decide) (by decide) (hp)
theorem kgL_edge9 : Cond.codeWith yL_edge method_17_code 4 ((Option.some Jvm.ClassFile.FieldType.int)) [((0 : Nat), (9 : Nat), (12 : Nat), (48 : Nat))] ∈ lw_good := zin 877 (by decide +kernel) (by decide +kernel)
set_option maxHeartbeats 4000000 in
set_option maxRecDepth 10000 in
theorem sL_edge {Γ : zG} {d : Nat} {G : zH} {Post : zV} {b ou : Nat} {fs : List Value} {p0 : Int32} (hG : G b = some (.inr (10, fs))) (hM : ∀ P : zP, (∀ o G', (∃ (r : Int32) (f : Nat → Int64), o = .inl (some (.int r)) ∧ G' ou = some (.inl (.long, (1, .inr (.inl f)))) ∧ Post (some (.int 0)) (zset G' ou (.inl (.long, (1, .inr (.inl (vp_updL f 0 r.toInt64))))))) ∨ (∃ E c, o = .inr E ∧ zcd E ["java/lang/IndexOutOfBoundsException"] 1 = some c ∧ Post (some (.int c)) G') → P o G') → zMX Γ d mX10_edge 1 6 [.ref b, .int p0] G P) : zMW Γ (d + 1) mL_edge 1 6 [.ref b, .int p0, .ref ou] G Post := by
  refine zMW_of pnL rfl (Nat.le_of_ble_eq_true rfl) ?_
  refine z_aload_n dL_edge_0 rfl ?_
  refine z_iconst (v := 0) dL_edge_1 (by decide) ?_
  refine z_aload_n dL_edge_2 rfl ?_
  refine z_iload_n dL_edge_3 rfl ?_
  refine z_callVX (mi' := mX10_edge) (As := [.int p0]) (mc' := 1) (ms' := 6) (z := 1) dL_edge_4 lL_63 nX10_edge kX10_edge (Nat.le_of_ble_eq_true rfl) rfl (Nat.le_of_ble_eq_true rfl) (by decide) (by decide) hG rfl rfl ?_
  refine hM _ (fun o G' hq => ?_)
  rcases hq with ⟨r, f, rfl, ho, hp⟩ | ⟨E, c, rfl, hc, hp⟩
  · refine z_i2l dL_edge_7 ?_
    refine z_last dL_edge_8 ho (vp_in_nI (n := 0) (show 0 < 1 by decide) (by decide)) ?_
    refine z_goto (tgt := 15) dL_edge_9 (by decide) ?_
    refine z_iconst (v := 0) dL_edge_15 (by decide) ?_
    exact z_ireturn (mi := mL_edge) dL_edge_16 rfl rfl (by decide) (by decide) (hp)
  · obtain ⟨rfl, rfl⟩ := zcd_1 hc
    refine z_catch [] _ [] rfl (fun z hz => absurd hz List.not_mem_nil) (by decide) (by decide) gL_48 (by decide) (fun q => ?_)
    refine z_astore_n dL_edge_12 (by decide) rfl ?_
    refine z_iconst (v := 1) dL_edge_13 (by decide) ?_
    exact z_ireturn (mi := mL_edge) dL_edge_14 rfl rfl (by decide) (by decide) (hp)
theorem kgL_markOf9 : Cond.codeWith yL_markOf method_18_code 6 ((Option.some Jvm.ClassFile.FieldType.int)) [((0 : Nat), (12 : Nat), (15 : Nat), (48 : Nat)), ((0 : Nat), (12 : Nat), (19 : Nat), (50 : Nat)), ((0 : Nat), (12 : Nat), (23 : Nat), (58 : Nat))] ∈ lw_good := zin 886 (by decide +kernel) (by decide +kernel)
set_option maxHeartbeats 4000000 in
set_option maxRecDepth 10000 in
theorem sL_markOf {Γ : zG} {d : Nat} {G : zH} {Post : zV} {b ou : Nat} {fs : List Value} {p0 p1 p2 : Int32} (hG : G b = some (.inr (10, fs))) (hM : ∀ P : zP, (∀ o G', (∃ (r : Int32) (f : Nat → Int64), o = .inl (some (.int r)) ∧ G' ou = some (.inl (.long, (1, .inr (.inl f)))) ∧ Post (some (.int 0)) (zset G' ou (.inl (.long, (1, .inr (.inl (vp_updL f 0 r.toInt64))))))) ∨ (∃ E c, o = .inr E ∧ zcd E ["java/lang/IndexOutOfBoundsException", "java/lang/IllegalArgumentException", "java/util/NoSuchElementException"] 1 = some c ∧ Post (some (.int c)) G') → P o G') → zMX Γ d mX10_markOf 1 6 [.ref b, .int p0, .int p1, .int p2] G P) : zMW Γ (d + 1) mL_markOf 1 6 [.ref b, .int p0, .int p1, .int p2, .ref ou] G Post := by
  refine zMW_of pnL rfl (Nat.le_of_ble_eq_true rfl) ?_
  refine z_aload dL_markOf_0 rfl ?_
  refine z_iconst (v := 0) dL_markOf_2 (by decide) ?_
  refine z_aload_n dL_markOf_3 rfl ?_
  refine z_iload_n dL_markOf_4 rfl ?_
  refine z_iload_n dL_markOf_5 rfl ?_
  refine z_iload_n dL_markOf_6 rfl ?_
  refine z_callVX (mi' := mX10_markOf) (As := [.int p0, .int p1, .int p2]) (mc' := 1) (ms' := 6) (z := 3) dL_markOf_7 lL_66 nX10_markOf kX10_markOf (Nat.le_of_ble_eq_true rfl) rfl (Nat.le_of_ble_eq_true rfl) (by decide) (by decide) hG rfl rfl ?_
  refine hM _ (fun o G' hq => ?_)
  rcases hq with ⟨r, f, rfl, ho, hp⟩ | ⟨E, c, rfl, hc, hp⟩
  · refine z_i2l dL_markOf_10 ?_
    refine z_last dL_markOf_11 ho (vp_in_nI (n := 0) (show 0 < 1 by decide) (by decide)) ?_
    refine z_goto (tgt := 27) dL_markOf_12 (by decide) ?_
    refine z_iconst (v := 0) dL_markOf_27 (by decide) ?_
    exact z_ireturn (mi := mL_markOf) dL_markOf_28 rfl rfl (by decide) (by decide) (hp)
  · rcases zcd_3 hc with ⟨rfl, rfl⟩ | ⟨rfl, rfl⟩ | ⟨rfl, rfl⟩
    · refine z_catch [] _ [_, _] rfl (fun z hz => absurd hz List.not_mem_nil) (by decide) (by decide) gL_48 (by decide) (fun q => ?_)
      refine z_astore dL_markOf_15 (by decide) rfl ?_
      refine z_iconst (v := 1) dL_markOf_17 (by decide) ?_
      exact z_ireturn (mi := mL_markOf) dL_markOf_18 rfl rfl (by decide) (by decide) (hp)
    · refine z_catch [_] _ [_] rfl (fun z hz => by rw [List.mem_singleton] at hz; subst hz; exact Or.inr ⟨by decide, _, gL_48, by decide⟩) (by decide) (by decide) gL_50 (by decide) (fun q => ?_)
      refine z_astore dL_markOf_19 (by decide) rfl ?_
      refine z_iconst (v := 2) dL_markOf_21 (by decide) ?_
      exact z_ireturn (mi := mL_markOf) dL_markOf_22 rfl rfl (by decide) (by decide) (hp)
    · refine z_catch [_, _] _ [] rfl (fun z hz => by
        rcases List.mem_cons.mp hz with hz | hz
        · subst hz; exact Or.inr ⟨by decide, _, gL_48, by decide⟩
        · rw [List.mem_singleton] at hz; subst hz; exact Or.inr ⟨by decide, _, gL_50, by decide⟩) (by decide) (by decide) gL_58 (by decide) (fun q => ?_)
      refine z_astore dL_markOf_23 (by decide) rfl ?_
      refine z_iconst (v := 3) dL_markOf_25 (by decide) ?_
      exact z_ireturn (mi := mL_markOf) dL_markOf_26 rfl rfl (by decide) (by decide) (hp)
theorem kgL_mark9 : Cond.codeWith yL_mark method_19_code 5 ((Option.some Jvm.ClassFile.FieldType.int)) [((0 : Nat), (10 : Nat), (13 : Nat), (48 : Nat)), ((0 : Nat), (10 : Nat), (17 : Nat), (58 : Nat))] ∈ lw_good := zin 909 (by decide +kernel) (by decide +kernel)
set_option maxHeartbeats 4000000 in
set_option maxRecDepth 10000 in
theorem sL_mark {Γ : zG} {d : Nat} {G : zH} {Post : zV} {b ou : Nat} {fs : List Value} {p0 p1 : Int32} (hG : G b = some (.inr (10, fs))) (hM : ∀ P : zP, (∀ o G', (∃ (r : Int32) (f : Nat → Int64), o = .inl (some (.int r)) ∧ G' ou = some (.inl (.long, (1, .inr (.inl f)))) ∧ Post (some (.int 0)) (zset G' ou (.inl (.long, (1, .inr (.inl (vp_updL f 0 r.toInt64))))))) ∨ (∃ E c, o = .inr E ∧ zcd E ["java/lang/IndexOutOfBoundsException", "java/util/NoSuchElementException"] 1 = some c ∧ Post (some (.int c)) G') → P o G') → zMX Γ d mX10_mark 1 6 [.ref b, .int p0, .int p1] G P) : zMW Γ (d + 1) mL_mark 1 6 [.ref b, .int p0, .int p1, .ref ou] G Post := by
  refine zMW_of pnL rfl (Nat.le_of_ble_eq_true rfl) ?_
  refine z_aload_n dL_mark_0 rfl ?_
  refine z_iconst (v := 0) dL_mark_1 (by decide) ?_
  refine z_aload_n dL_mark_2 rfl ?_
  refine z_iload_n dL_mark_3 rfl ?_
  refine z_iload_n dL_mark_4 rfl ?_
  refine z_callVX (mi' := mX10_mark) (As := [.int p0, .int p1]) (mc' := 1) (ms' := 6) (z := 2) dL_mark_5 lL_69 nX10_mark kX10_mark (Nat.le_of_ble_eq_true rfl) rfl (Nat.le_of_ble_eq_true rfl) (by decide) (by decide) hG rfl rfl ?_
  refine hM _ (fun o G' hq => ?_)
  rcases hq with ⟨r, f, rfl, ho, hp⟩ | ⟨E, c, rfl, hc, hp⟩
  · refine z_i2l dL_mark_8 ?_
    refine z_last dL_mark_9 ho (vp_in_nI (n := 0) (show 0 < 1 by decide) (by decide)) ?_
    refine z_goto (tgt := 21) dL_mark_10 (by decide) ?_
    refine z_iconst (v := 0) dL_mark_21 (by decide) ?_
    exact z_ireturn (mi := mL_mark) dL_mark_22 rfl rfl (by decide) (by decide) (hp)
  · rcases zcd_2 hc with ⟨rfl, rfl⟩ | ⟨rfl, rfl⟩
    · refine z_catch [] _ [_] rfl (fun z hz => absurd hz List.not_mem_nil) (by decide) (by decide) gL_48 (by decide) (fun q => ?_)
      refine z_astore dL_mark_13 (by decide) rfl ?_
      refine z_iconst (v := 1) dL_mark_15 (by decide) ?_
      exact z_ireturn (mi := mL_mark) dL_mark_16 rfl rfl (by decide) (by decide) (hp)
    · refine z_catch [_] _ [] rfl (fun z hz => by rw [List.mem_singleton] at hz; subst hz; exact Or.inr ⟨by decide, _, gL_48, by decide⟩) (by decide) (by decide) gL_58 (by decide) (fun q => ?_)
      refine z_astore dL_mark_17 (by decide) rfl ?_
      refine z_iconst (v := 2) dL_mark_19 (by decide) ?_
      exact z_ireturn (mi := mL_mark) dL_mark_20 rfl rfl (by decide) (by decide) (hp)
theorem kgL_level9 : Cond.codeWith yL_level method_20_code 5 ((Option.some Jvm.ClassFile.FieldType.int)) [((0 : Nat), (10 : Nat), (13 : Nat), (48 : Nat))] ∈ lw_good := zin 925 (by decide +kernel) (by decide +kernel)
set_option maxHeartbeats 4000000 in
set_option maxRecDepth 10000 in
theorem sL_level {Γ : zG} {d : Nat} {G : zH} {Post : zV} {b ou : Nat} {fs : List Value} {p0 p1 : Int32} (hG : G b = some (.inr (10, fs))) (hM : ∀ P : zP, (∀ o G', (∃ (r : Int32) (f : Nat → Int64), o = .inl (some (.int r)) ∧ G' ou = some (.inl (.long, (1, .inr (.inl f)))) ∧ Post (some (.int 0)) (zset G' ou (.inl (.long, (1, .inr (.inl (vp_updL f 0 r.toInt64))))))) ∨ (∃ E c, o = .inr E ∧ zcd E ["java/lang/IndexOutOfBoundsException"] 1 = some c ∧ Post (some (.int c)) G') → P o G') → zMX Γ d mX10_level 1 6 [.ref b, .int p0, .int p1] G P) : zMW Γ (d + 1) mL_level 1 6 [.ref b, .int p0, .int p1, .ref ou] G Post := by
  refine zMW_of pnL rfl (Nat.le_of_ble_eq_true rfl) ?_
  refine z_aload_n dL_level_0 rfl ?_
  refine z_iconst (v := 0) dL_level_1 (by decide) ?_
  refine z_aload_n dL_level_2 rfl ?_
  refine z_iload_n dL_level_3 rfl ?_
  refine z_iload_n dL_level_4 rfl ?_
  refine z_callVX (mi' := mX10_level) (As := [.int p0, .int p1]) (mc' := 1) (ms' := 6) (z := 2) dL_level_5 lL_72 nX10_level kX10_level (Nat.le_of_ble_eq_true rfl) rfl (Nat.le_of_ble_eq_true rfl) (by decide) (by decide) hG rfl rfl ?_
  refine hM _ (fun o G' hq => ?_)
  rcases hq with ⟨r, f, rfl, ho, hp⟩ | ⟨E, c, rfl, hc, hp⟩
  · refine z_i2l dL_level_8 ?_
    refine z_last dL_level_9 ho (vp_in_nI (n := 0) (show 0 < 1 by decide) (by decide)) ?_
    refine z_goto (tgt := 17) dL_level_10 (by decide) ?_
    refine z_iconst (v := 0) dL_level_17 (by decide) ?_
    exact z_ireturn (mi := mL_level) dL_level_18 rfl rfl (by decide) (by decide) (hp)
  · obtain ⟨rfl, rfl⟩ := zcd_1 hc
    refine z_catch [] _ [] rfl (fun z hz => absurd hz List.not_mem_nil) (by decide) (by decide) gL_48 (by decide) (fun q => ?_)
    refine z_astore dL_level_13 (by decide) rfl ?_
    refine z_iconst (v := 1) dL_level_15 (by decide) ?_
    exact z_ireturn (mi := mL_level) dL_level_16 rfl rfl (by decide) (by decide) (hp)
theorem kgL_reads9 : Cond.codeWith yL_reads method_21_code 5 ((Option.some Jvm.ClassFile.FieldType.int)) [((0 : Nat), (10 : Nat), (13 : Nat), (48 : Nat))] ∈ lw_good := zin 933 (by decide +kernel) (by decide +kernel)
set_option maxHeartbeats 4000000 in
set_option maxRecDepth 10000 in
theorem sL_reads {Γ : zG} {d : Nat} {G : zH} {Post : zV} {b ou : Nat} {fs : List Value} {p0 p1 : Int32} (hG : G b = some (.inr (10, fs))) (hM : ∀ P : zP, (∀ o G', (∃ (r : Int32) (f : Nat → Int64), o = .inl (some (.int r)) ∧ G' ou = some (.inl (.long, (1, .inr (.inl f)))) ∧ Post (some (.int 0)) (zset G' ou (.inl (.long, (1, .inr (.inl (vp_updL f 0 r.toInt64))))))) ∨ (∃ E c, o = .inr E ∧ zcd E ["java/lang/IndexOutOfBoundsException"] 1 = some c ∧ Post (some (.int c)) G') → P o G') → zMX Γ d mX10_reads 1 6 [.ref b, .int p0, .int p1] G P) : zMW Γ (d + 1) mL_reads 1 6 [.ref b, .int p0, .int p1, .ref ou] G Post := by
  refine zMW_of pnL rfl (Nat.le_of_ble_eq_true rfl) ?_
  refine z_aload_n dL_reads_0 rfl ?_
  refine z_iconst (v := 0) dL_reads_1 (by decide) ?_
  refine z_aload_n dL_reads_2 rfl ?_
  refine z_iload_n dL_reads_3 rfl ?_
  refine z_iload_n dL_reads_4 rfl ?_
  refine z_callVX (mi' := mX10_reads) (As := [.int p0, .int p1]) (mc' := 1) (ms' := 6) (z := 2) dL_reads_5 lL_75 nX10_reads kX10_reads (Nat.le_of_ble_eq_true rfl) rfl (Nat.le_of_ble_eq_true rfl) (by decide) (by decide) hG rfl rfl ?_
  refine hM _ (fun o G' hq => ?_)
  rcases hq with ⟨r, f, rfl, ho, hp⟩ | ⟨E, c, rfl, hc, hp⟩
  · refine z_i2l dL_reads_8 ?_
    refine z_last dL_reads_9 ho (vp_in_nI (n := 0) (show 0 < 1 by decide) (by decide)) ?_
    refine z_goto (tgt := 17) dL_reads_10 (by decide) ?_
    refine z_iconst (v := 0) dL_reads_17 (by decide) ?_
    exact z_ireturn (mi := mL_reads) dL_reads_18 rfl rfl (by decide) (by decide) (hp)
  · obtain ⟨rfl, rfl⟩ := zcd_1 hc
    refine z_catch [] _ [] rfl (fun z hz => absurd hz List.not_mem_nil) (by decide) (by decide) gL_48 (by decide) (fun q => ?_)
    refine z_astore dL_reads_13 (by decide) rfl ?_
    refine z_iconst (v := 1) dL_reads_15 (by decide) ?_
    exact z_ireturn (mi := mL_reads) dL_reads_16 rfl rfl (by decide) (by decide) (hp)
theorem kgL_shift9 : Cond.codeWith yL_shift method_22_code 4 ((Option.some Jvm.ClassFile.FieldType.int)) [((0 : Nat), (9 : Nat), (12 : Nat), (50 : Nat))] ∈ lw_good := zin 941 (by decide +kernel) (by decide +kernel)
set_option maxHeartbeats 4000000 in
set_option maxRecDepth 10000 in
theorem sL_shift {Γ : zG} {d : Nat} {G : zH} {Post : zV} {b ou : Nat} {fs : List Value} {p0 : Int32} (hG : G b = some (.inr (10, fs))) (hM : ∀ P : zP, (∀ o G', (∃ (r : Int32) (f : Nat → Int64), o = .inl (some (.int r)) ∧ G' ou = some (.inl (.long, (1, .inr (.inl f)))) ∧ Post (some (.int 0)) (zset G' ou (.inl (.long, (1, .inr (.inl (vp_updL f 0 r.toInt64))))))) ∨ (∃ E c, o = .inr E ∧ zcd E ["java/lang/IllegalArgumentException"] 1 = some c ∧ Post (some (.int c)) G') → P o G') → zMX Γ d mX10_shift 1 6 [.ref b, .int p0] G P) : zMW Γ (d + 1) mL_shift 1 6 [.ref b, .int p0, .ref ou] G Post := by
  refine zMW_of pnL rfl (Nat.le_of_ble_eq_true rfl) ?_
  refine z_aload_n dL_shift_0 rfl ?_
  refine z_iconst (v := 0) dL_shift_1 (by decide) ?_
  refine z_aload_n dL_shift_2 rfl ?_
  refine z_iload_n dL_shift_3 rfl ?_
  refine z_callVX (mi' := mX10_shift) (As := [.int p0]) (mc' := 1) (ms' := 6) (z := 1) dL_shift_4 lL_78 nX10_shift kX10_shift (Nat.le_of_ble_eq_true rfl) rfl (Nat.le_of_ble_eq_true rfl) (by decide) (by decide) hG rfl rfl ?_
  refine hM _ (fun o G' hq => ?_)
  rcases hq with ⟨r, f, rfl, ho, hp⟩ | ⟨E, c, rfl, hc, hp⟩
  · refine z_i2l dL_shift_7 ?_
    refine z_last dL_shift_8 ho (vp_in_nI (n := 0) (show 0 < 1 by decide) (by decide)) ?_
    refine z_goto (tgt := 15) dL_shift_9 (by decide) ?_
    refine z_iconst (v := 0) dL_shift_15 (by decide) ?_
    exact z_ireturn (mi := mL_shift) dL_shift_16 rfl rfl (by decide) (by decide) (hp)
  · obtain ⟨rfl, rfl⟩ := zcd_1 hc
    refine z_catch [] _ [] rfl (fun z hz => absurd hz List.not_mem_nil) (by decide) (by decide) gL_50 (by decide) (fun q => ?_)
    refine z_astore_n dL_shift_12 (by decide) rfl ?_
    refine z_iconst (v := 1) dL_shift_13 (by decide) ?_
    exact z_ireturn (mi := mL_shift) dL_shift_14 rfl rfl (by decide) (by decide) (hp)
theorem kgL_errorIn9 : Cond.codeWith yL_errorIn method_23_code 5 ((Option.some Jvm.ClassFile.FieldType.int)) [((0 : Nat), (10 : Nat), (13 : Nat), (48 : Nat)), ((0 : Nat), (10 : Nat), (17 : Nat), (50 : Nat))] ∈ lw_good := zin 950 (by decide +kernel) (by decide +kernel)
set_option maxHeartbeats 4000000 in
set_option maxRecDepth 10000 in
theorem sL_errorIn {Γ : zG} {d : Nat} {G : zH} {Post : zV} {b ou : Nat} {fs : List Value} {p0 p1 : Int32} (hG : G b = some (.inr (10, fs))) (hM : ∀ P : zP, (∀ o G', (∃ (r : Int32) (f : Nat → Int64), o = .inl (some (.int r)) ∧ G' ou = some (.inl (.long, (1, .inr (.inl f)))) ∧ Post (some (.int 0)) (zset G' ou (.inl (.long, (1, .inr (.inl (vp_updL f 0 r.toInt64))))))) ∨ (∃ E c, o = .inr E ∧ zcd E ["java/lang/IndexOutOfBoundsException", "java/lang/IllegalArgumentException"] 1 = some c ∧ Post (some (.int c)) G') → P o G') → zMX Γ d mX10_errorIn 1 6 [.ref b, .int p0, .int p1] G P) : zMW Γ (d + 1) mL_errorIn 1 6 [.ref b, .int p0, .int p1, .ref ou] G Post := by
  refine zMW_of pnL rfl (Nat.le_of_ble_eq_true rfl) ?_
  refine z_aload_n dL_errorIn_0 rfl ?_
  refine z_iconst (v := 0) dL_errorIn_1 (by decide) ?_
  refine z_aload_n dL_errorIn_2 rfl ?_
  refine z_iload_n dL_errorIn_3 rfl ?_
  refine z_iload_n dL_errorIn_4 rfl ?_
  refine z_callVX (mi' := mX10_errorIn) (As := [.int p0, .int p1]) (mc' := 1) (ms' := 6) (z := 2) dL_errorIn_5 lL_81 nX10_errorIn kX10_errorIn (Nat.le_of_ble_eq_true rfl) rfl (Nat.le_of_ble_eq_true rfl) (by decide) (by decide) hG rfl rfl ?_
  refine hM _ (fun o G' hq => ?_)
  rcases hq with ⟨r, f, rfl, ho, hp⟩ | ⟨E, c, rfl, hc, hp⟩
  · refine z_i2l dL_errorIn_8 ?_
    refine z_last dL_errorIn_9 ho (vp_in_nI (n := 0) (show 0 < 1 by decide) (by decide)) ?_
    refine z_goto (tgt := 21) dL_errorIn_10 (by decide) ?_
    refine z_iconst (v := 0) dL_errorIn_21 (by decide) ?_
    exact z_ireturn (mi := mL_errorIn) dL_errorIn_22 rfl rfl (by decide) (by decide) (hp)
  · rcases zcd_2 hc with ⟨rfl, rfl⟩ | ⟨rfl, rfl⟩
    · refine z_catch [] _ [_] rfl (fun z hz => absurd hz List.not_mem_nil) (by decide) (by decide) gL_48 (by decide) (fun q => ?_)
      refine z_astore dL_errorIn_13 (by decide) rfl ?_
      refine z_iconst (v := 1) dL_errorIn_15 (by decide) ?_
      exact z_ireturn (mi := mL_errorIn) dL_errorIn_16 rfl rfl (by decide) (by decide) (hp)
    · refine z_catch [_] _ [] rfl (fun z hz => by rw [List.mem_singleton] at hz; subst hz; exact Or.inr ⟨by decide, _, gL_48, by decide⟩) (by decide) (by decide) gL_50 (by decide) (fun q => ?_)
      refine z_astore dL_errorIn_17 (by decide) rfl ?_
      refine z_iconst (v := 2) dL_errorIn_19 (by decide) ?_
      exact z_ireturn (mi := mL_errorIn) dL_errorIn_20 rfl rfl (by decide) (by decide) (hp)
theorem kgL_rises9 : Cond.codeWith yL_rises method_24_code 4 ((Option.some Jvm.ClassFile.FieldType.int)) [((0 : Nat), (16 : Nat), (19 : Nat), (48 : Nat))] ∈ lw_good := zin 963 (by decide +kernel) (by decide +kernel)
set_option maxHeartbeats 4000000 in
set_option maxRecDepth 10000 in
theorem sL_rises {Γ : zG} {d : Nat} {G : zH} {Post : zV} {b ou : Nat} {fs : List Value} {p0 : Int32} (hG : G b = some (.inr (10, fs))) (hM : ∀ P : zP, (∀ o G', (∃ (r : Int32) (f : Nat → Int64), o = .inl (some (.int r)) ∧ G' ou = some (.inl (.long, (1, .inr (.inl f)))) ∧ Post (some (.int 0)) (zset G' ou (.inl (.long, (1, .inr (.inl (vp_updL f 0 (if r = 0 then 0 else 1)))))))) ∨ (∃ E c, o = .inr E ∧ zcd E ["java/lang/IndexOutOfBoundsException"] 1 = some c ∧ Post (some (.int c)) G') → P o G') → zMX Γ d mX10_rises 1 6 [.ref b, .int p0] G P) : zMW Γ (d + 1) mL_rises 1 6 [.ref b, .int p0, .ref ou] G Post := by
  refine zMW_of pnL rfl (Nat.le_of_ble_eq_true rfl) ?_
  refine z_aload_n dL_rises_0 rfl ?_
  refine z_iconst (v := 0) dL_rises_1 (by decide) ?_
  refine z_aload_n dL_rises_2 rfl ?_
  refine z_iload_n dL_rises_3 rfl ?_
  refine z_callVX (mi' := mX10_rises) (As := [.int p0]) (mc' := 1) (ms' := 6) (z := 1) dL_rises_4 lL_84 nX10_rises kX10_rises (Nat.le_of_ble_eq_true rfl) rfl (Nat.le_of_ble_eq_true rfl) (by decide) (by decide) hG rfl rfl ?_
  refine hM _ (fun o G' hq => ?_)
  rcases hq with ⟨r, f, rfl, ho, hp⟩ | ⟨E, c, rfl, hc, hp⟩
  · refine z_if_eq (tgt := 14) dL_rises_7 (by decide) (fun c1 => ?_) (fun c1 => ?_)
    · rw [if_pos c1] at hp
      refine z_lconst (v := 0) dL_rises_14 (by decide) ?_
      refine z_last dL_rises_15 ho (vp_in_nI (n := 0) (show 0 < 1 by decide) (by decide)) ?_
      refine z_goto (tgt := 22) dL_rises_16 (by decide) ?_
      refine z_iconst (v := 0) dL_rises_22 (by decide) ?_
      exact z_ireturn (mi := mL_rises) dL_rises_23 rfl rfl (by decide) (by decide) (hp)
    · rw [if_neg c1] at hp
      refine z_lconst (v := 1) dL_rises_10 (by decide) ?_
      refine z_goto (tgt := 15) dL_rises_11 (by decide) ?_
      refine z_last dL_rises_15 ho (vp_in_nI (n := 0) (show 0 < 1 by decide) (by decide)) ?_
      refine z_goto (tgt := 22) dL_rises_16 (by decide) ?_
      refine z_iconst (v := 0) dL_rises_22 (by decide) ?_
      exact z_ireturn (mi := mL_rises) dL_rises_23 rfl rfl (by decide) (by decide) (hp)
  · obtain ⟨rfl, rfl⟩ := zcd_1 hc
    refine z_catch [] _ [] rfl (fun z hz => absurd hz List.not_mem_nil) (by decide) (by decide) gL_48 (by decide) (fun q => ?_)
    refine z_astore_n dL_rises_19 (by decide) rfl ?_
    refine z_iconst (v := 1) dL_rises_20 (by decide) ?_
    exact z_ireturn (mi := mL_rises) dL_rises_21 rfl rfl (by decide) (by decide) (hp)
theorem kgL_ranked9 : Cond.codeWith yL_ranked method_25_code 4 ((Option.some Jvm.ClassFile.FieldType.int)) [((0 : Nat), (9 : Nat), (12 : Nat), (58 : Nat))] ∈ lw_good := zin 970 (by decide +kernel) (by decide +kernel)
set_option maxHeartbeats 4000000 in
set_option maxRecDepth 10000 in
theorem sL_ranked {Γ : zG} {d : Nat} {G : zH} {Post : zV} {b ou : Nat} {fs : List Value} {p0 : Int32} (hG : G b = some (.inr (10, fs))) (hM : ∀ P : zP, (∀ o G', (∃ (r : Int32) (f : Nat → Int64), o = .inl (some (.int r)) ∧ G' ou = some (.inl (.long, (1, .inr (.inl f)))) ∧ Post (some (.int 0)) (zset G' ou (.inl (.long, (1, .inr (.inl (vp_updL f 0 r.toInt64))))))) ∨ (∃ E c, o = .inr E ∧ zcd E ["java/util/NoSuchElementException"] 1 = some c ∧ Post (some (.int c)) G') → P o G') → zMX Γ d mX10_ranked 1 6 [.ref b, .int p0] G P) : zMW Γ (d + 1) mL_ranked 1 6 [.ref b, .int p0, .ref ou] G Post := by
  refine zMW_of pnL rfl (Nat.le_of_ble_eq_true rfl) ?_
  refine z_aload_n dL_ranked_0 rfl ?_
  refine z_iconst (v := 0) dL_ranked_1 (by decide) ?_
  refine z_aload_n dL_ranked_2 rfl ?_
  refine z_iload_n dL_ranked_3 rfl ?_
  refine z_callVX (mi' := mX10_ranked) (As := [.int p0]) (mc' := 1) (ms' := 6) (z := 1) dL_ranked_4 lL_88 nX10_ranked kX10_ranked (Nat.le_of_ble_eq_true rfl) rfl (Nat.le_of_ble_eq_true rfl) (by decide) (by decide) hG rfl rfl ?_
  refine hM _ (fun o G' hq => ?_)
  rcases hq with ⟨r, f, rfl, ho, hp⟩ | ⟨E, c, rfl, hc, hp⟩
  · refine z_i2l dL_ranked_7 ?_
    refine z_last dL_ranked_8 ho (vp_in_nI (n := 0) (show 0 < 1 by decide) (by decide)) ?_
    refine z_goto (tgt := 15) dL_ranked_9 (by decide) ?_
    refine z_iconst (v := 0) dL_ranked_15 (by decide) ?_
    exact z_ireturn (mi := mL_ranked) dL_ranked_16 rfl rfl (by decide) (by decide) (hp)
  · obtain ⟨rfl, rfl⟩ := zcd_1 hc
    refine z_catch [] _ [] rfl (fun z hz => absurd hz List.not_mem_nil) (by decide) (by decide) gL_58 (by decide) (fun q => ?_)
    refine z_astore_n dL_ranked_12 (by decide) rfl ?_
    refine z_iconst (v := 1) dL_ranked_13 (by decide) ?_
    exact z_ireturn (mi := mL_ranked) dL_ranked_14 rfl rfl (by decide) (by decide) (hp)
theorem kgL_append9 : Cond.codeWith yL_append method_26_code 4 ((Option.some Jvm.ClassFile.FieldType.int)) [((0 : Nat), (9 : Nat), (12 : Nat), (95 : Nat))] ∈ lw_good := zin 987 (by decide +kernel) (by decide +kernel)
set_option maxHeartbeats 4000000 in
set_option maxRecDepth 10000 in
theorem sL_append {Γ : zG} {d : Nat} {G : zH} {Post : zV} {b ou : Nat} {fs : List Value} {p0 : Int32} (hG : G b = some (.inr (10, fs))) (hM : ∀ P : zP, (∀ o G', (∃ (r : Int32) (f : Nat → Int64), o = .inl (some (.int r)) ∧ G' ou = some (.inl (.long, (1, .inr (.inl f)))) ∧ Post (some (.int 0)) (zset G' ou (.inl (.long, (1, .inr (.inl (vp_updL f 0 r.toInt64))))))) ∨ (∃ E c, o = .inr E ∧ zcd E ["java/lang/IllegalStateException"] 1 = some c ∧ Post (some (.int c)) G') → P o G') → zMX Γ d mX10_append 1 6 [.ref b, .int p0] G P) : zMW Γ (d + 1) mL_append 1 6 [.ref b, .int p0, .ref ou] G Post := by
  refine zMW_of pnL rfl (Nat.le_of_ble_eq_true rfl) ?_
  refine z_aload_n dL_append_0 rfl ?_
  refine z_iconst (v := 0) dL_append_1 (by decide) ?_
  refine z_aload_n dL_append_2 rfl ?_
  refine z_iload_n dL_append_3 rfl ?_
  refine z_callVX (mi' := mX10_append) (As := [.int p0]) (mc' := 1) (ms' := 6) (z := 1) dL_append_4 lL_91 nX10_append kX10_append (Nat.le_of_ble_eq_true rfl) rfl (Nat.le_of_ble_eq_true rfl) (by decide) (by decide) hG rfl rfl ?_
  refine hM _ (fun o G' hq => ?_)
  rcases hq with ⟨r, f, rfl, ho, hp⟩ | ⟨E, c, rfl, hc, hp⟩
  · refine z_i2l dL_append_7 ?_
    refine z_last dL_append_8 ho (vp_in_nI (n := 0) (show 0 < 1 by decide) (by decide)) ?_
    refine z_goto (tgt := 15) dL_append_9 (by decide) ?_
    refine z_iconst (v := 0) dL_append_15 (by decide) ?_
    exact z_ireturn (mi := mL_append) dL_append_16 rfl rfl (by decide) (by decide) (hp)
  · obtain ⟨rfl, rfl⟩ := zcd_1 hc
    refine z_catch [] _ [] rfl (fun z hz => absurd hz List.not_mem_nil) (by decide) (by decide) gL_95 (by decide) (fun q => ?_)
    refine z_astore_n dL_append_12 (by decide) rfl ?_
    refine z_iconst (v := 1) dL_append_13 (by decide) ?_
    exact z_ireturn (mi := mL_append) dL_append_14 rfl rfl (by decide) (by decide) (hp)
theorem kgL_commands9 : Cond.codeWith yL_commands method_27_code 3 ((Option.some Jvm.ClassFile.FieldType.int)) [((0 : Nat), (8 : Nat), (11 : Nat), (50 : Nat)), ((0 : Nat), (8 : Nat), (14 : Nat), (13 : Nat))] ∈ lw_good := zin 1019 (by decide +kernel) (by decide +kernel)
set_option maxHeartbeats 4000000 in
set_option maxRecDepth 10000 in
theorem sL_commands {Γ : zG} {d : Nat} {G : zH} {Post : zV} {b ou : Nat} {fs : List Value} (hG : G b = some (.inr (10, fs))) (hM : ∀ P : zP, (∀ o G', (∃ (r : Int32) (f : Nat → Int64), o = .inl (some (.int r)) ∧ G' ou = some (.inl (.long, (1, .inr (.inl f)))) ∧ Post (some (.int 0)) (zset G' ou (.inl (.long, (1, .inr (.inl (vp_updL f 0 r.toInt64))))))) ∨ (∃ E c, o = .inr E ∧ zcd E ["java/lang/IllegalArgumentException", "java/lang/UnsupportedOperationException"] 1 = some c ∧ Post (some (.int c)) G') → P o G') → zMX Γ d mX10_commands 1 6 [.ref b] G P) : zMW Γ (d + 1) mL_commands 1 6 [.ref b, .ref ou] G Post := by
  refine zMW_of pnL rfl (Nat.le_of_ble_eq_true rfl) ?_
  refine z_aload_n dL_commands_0 rfl ?_
  refine z_iconst (v := 0) dL_commands_1 (by decide) ?_
  refine z_aload_n dL_commands_2 rfl ?_
  refine z_callVX (mi' := mX10_commands) (As := []) (mc' := 1) (ms' := 6) (z := 0) dL_commands_3 lL_97 nX10_commands kX10_commands (Nat.le_of_ble_eq_true rfl) rfl (Nat.le_of_ble_eq_true rfl) (by decide) (by decide) hG rfl rfl ?_
  refine hM _ (fun o G' hq => ?_)
  rcases hq with ⟨r, f, rfl, ho, hp⟩ | ⟨E, c, rfl, hc, hp⟩
  · refine z_i2l dL_commands_6 ?_
    refine z_last dL_commands_7 ho (vp_in_nI (n := 0) (show 0 < 1 by decide) (by decide)) ?_
    refine z_goto (tgt := 17) dL_commands_8 (by decide) ?_
    refine z_iconst (v := 0) dL_commands_17 (by decide) ?_
    exact z_ireturn (mi := mL_commands) dL_commands_18 rfl rfl (by decide) (by decide) (hp)
  · rcases zcd_2 hc with ⟨rfl, rfl⟩ | ⟨rfl, rfl⟩
    · refine z_catch [] _ [_] rfl (fun z hz => absurd hz List.not_mem_nil) (by decide) (by decide) gL_50 (by decide) (fun q => ?_)
      refine z_astore_n dL_commands_11 (by decide) rfl ?_
      refine z_iconst (v := 1) dL_commands_12 (by decide) ?_
      exact z_ireturn (mi := mL_commands) dL_commands_13 rfl rfl (by decide) (by decide) (hp)
    · refine z_catch [_] _ [] rfl (fun z hz => by rw [List.mem_singleton] at hz; subst hz; exact Or.inr ⟨by decide, _, gL_50, by decide⟩) (by decide) (by decide) gL_13 (by decide) (fun q => ?_)
      refine z_astore_n dL_commands_14 (by decide) rfl ?_
      refine z_iconst (v := 2) dL_commands_15 (by decide) ?_
      exact z_ireturn (mi := mL_commands) dL_commands_16 rfl rfl (by decide) (by decide) (hp)
theorem kgL_reason9 : Cond.codeWith yL_reason method_28_code 4 ((Option.some Jvm.ClassFile.FieldType.int)) [((0 : Nat), (9 : Nat), (12 : Nat), (50 : Nat)), ((0 : Nat), (9 : Nat), (15 : Nat), (58 : Nat))] ∈ lw_good := zin 1133 (by decide +kernel) (by decide +kernel)
set_option maxHeartbeats 4000000 in
set_option maxRecDepth 10000 in
theorem sL_reason {Γ : zG} {d : Nat} {G : zH} {Post : zV} {b ou : Nat} {fs : List Value} {p0 : Int32} (hG : G b = some (.inr (10, fs))) (hM : ∀ P : zP, (∀ o G', (∃ (r : Int32) (f : Nat → Int64), o = .inl (some (.int r)) ∧ G' ou = some (.inl (.long, (1, .inr (.inl f)))) ∧ Post (some (.int 0)) (zset G' ou (.inl (.long, (1, .inr (.inl (vp_updL f 0 r.toInt64))))))) ∨ (∃ E c, o = .inr E ∧ zcd E ["java/lang/IllegalArgumentException", "java/util/NoSuchElementException"] 1 = some c ∧ Post (some (.int c)) G') → P o G') → zMX Γ d mX10_reason 1 6 [.ref b, .int p0] G P) : zMW Γ (d + 1) mL_reason 1 6 [.ref b, .int p0, .ref ou] G Post := by
  refine zMW_of pnL rfl (Nat.le_of_ble_eq_true rfl) ?_
  refine z_aload_n dL_reason_0 rfl ?_
  refine z_iconst (v := 0) dL_reason_1 (by decide) ?_
  refine z_aload_n dL_reason_2 rfl ?_
  refine z_iload_n dL_reason_3 rfl ?_
  refine z_callVX (mi' := mX10_reason) (As := [.int p0]) (mc' := 1) (ms' := 6) (z := 1) dL_reason_4 lL_100 nX10_reason kX10_reason (Nat.le_of_ble_eq_true rfl) rfl (Nat.le_of_ble_eq_true rfl) (by decide) (by decide) hG rfl rfl ?_
  refine hM _ (fun o G' hq => ?_)
  rcases hq with ⟨r, f, rfl, ho, hp⟩ | ⟨E, c, rfl, hc, hp⟩
  · refine z_i2l dL_reason_7 ?_
    refine z_last dL_reason_8 ho (vp_in_nI (n := 0) (show 0 < 1 by decide) (by decide)) ?_
    refine z_goto (tgt := 18) dL_reason_9 (by decide) ?_
    refine z_iconst (v := 0) dL_reason_18 (by decide) ?_
    exact z_ireturn (mi := mL_reason) dL_reason_19 rfl rfl (by decide) (by decide) (hp)
  · rcases zcd_2 hc with ⟨rfl, rfl⟩ | ⟨rfl, rfl⟩
    · refine z_catch [] _ [_] rfl (fun z hz => absurd hz List.not_mem_nil) (by decide) (by decide) gL_50 (by decide) (fun q => ?_)
      refine z_astore_n dL_reason_12 (by decide) rfl ?_
      refine z_iconst (v := 1) dL_reason_13 (by decide) ?_
      exact z_ireturn (mi := mL_reason) dL_reason_14 rfl rfl (by decide) (by decide) (hp)
    · refine z_catch [_] _ [] rfl (fun z hz => by rw [List.mem_singleton] at hz; subst hz; exact Or.inr ⟨by decide, _, gL_50, by decide⟩) (by decide) (by decide) gL_58 (by decide) (fun q => ?_)
      refine z_astore_n dL_reason_15 (by decide) rfl ?_
      refine z_iconst (v := 2) dL_reason_16 (by decide) ?_
      exact z_ireturn (mi := mL_reason) dL_reason_17 rfl rfl (by decide) (by decide) (hp)
theorem kgL_line9 : Cond.codeWith yL_line method_29_code 4 ((Option.some Jvm.ClassFile.FieldType.int)) [((0 : Nat), (9 : Nat), (12 : Nat), (48 : Nat))] ∈ lw_good := zin 1142 (by decide +kernel) (by decide +kernel)
set_option maxHeartbeats 4000000 in
set_option maxRecDepth 10000 in
theorem sL_line {Γ : zG} {d : Nat} {G : zH} {Post : zV} {b ou : Nat} {fs : List Value} {p0 : Int32} (hG : G b = some (.inr (10, fs))) (hM : ∀ P : zP, (∀ o G', (∃ (r : Int32) (f : Nat → Int64), o = .inl (some (.int r)) ∧ G' ou = some (.inl (.long, (1, .inr (.inl f)))) ∧ Post (some (.int 0)) (zset G' ou (.inl (.long, (1, .inr (.inl (vp_updL f 0 r.toInt64))))))) ∨ (∃ E c, o = .inr E ∧ zcd E ["java/lang/IndexOutOfBoundsException"] 1 = some c ∧ Post (some (.int c)) G') → P o G') → zMX Γ d mX10_line 32 6400 [.ref b, .int p0] G P) : zMW Γ (d + 1) mL_line 32 6400 [.ref b, .int p0, .ref ou] G Post := by
  refine zMW_of pnL rfl (Nat.le_of_ble_eq_true rfl) ?_
  refine z_aload_n dL_line_0 rfl ?_
  refine z_iconst (v := 0) dL_line_1 (by decide) ?_
  refine z_aload_n dL_line_2 rfl ?_
  refine z_iload_n dL_line_3 rfl ?_
  refine z_callVX (mi' := mX10_line) (As := [.int p0]) (mc' := 32) (ms' := 6400) (z := 1) dL_line_4 lL_103 nX10_line kX10_line (Nat.le_of_ble_eq_true rfl) rfl (Nat.le_of_ble_eq_true rfl) (by decide) (by decide) hG rfl rfl ?_
  refine hM _ (fun o G' hq => ?_)
  rcases hq with ⟨r, f, rfl, ho, hp⟩ | ⟨E, c, rfl, hc, hp⟩
  · refine z_i2l dL_line_7 ?_
    refine z_last dL_line_8 ho (vp_in_nI (n := 0) (show 0 < 1 by decide) (by decide)) ?_
    refine z_goto (tgt := 15) dL_line_9 (by decide) ?_
    refine z_iconst (v := 0) dL_line_15 (by decide) ?_
    exact z_ireturn (mi := mL_line) dL_line_16 rfl rfl (by decide) (by decide) (hp)
  · obtain ⟨rfl, rfl⟩ := zcd_1 hc
    refine z_catch [] _ [] rfl (fun z hz => absurd hz List.not_mem_nil) (by decide) (by decide) gL_48 (by decide) (fun q => ?_)
    refine z_astore_n dL_line_12 (by decide) rfl ?_
    refine z_iconst (v := 1) dL_line_13 (by decide) ?_
    exact z_ireturn (mi := mL_line) dL_line_14 rfl rfl (by decide) (by decide) (hp)
theorem kgL_character9 : Cond.codeWith yL_character method_30_code 4 ((Option.some Jvm.ClassFile.FieldType.int)) [((0 : Nat), (9 : Nat), (12 : Nat), (48 : Nat))] ∈ lw_good := zin 1393 (by decide +kernel) (by decide +kernel)
set_option maxHeartbeats 4000000 in
set_option maxRecDepth 10000 in
theorem sL_character {Γ : zG} {d : Nat} {G : zH} {Post : zV} {b ou : Nat} {fs : List Value} {p0 : Int32} (hG : G b = some (.inr (10, fs))) (hM : ∀ P : zP, (∀ o G', (∃ (r : Int32) (f : Nat → Int64), o = .inl (some (.int r)) ∧ G' ou = some (.inl (.long, (1, .inr (.inl f)))) ∧ Post (some (.int 0)) (zset G' ou (.inl (.long, (1, .inr (.inl (vp_updL f 0 r.toInt64))))))) ∨ (∃ E c, o = .inr E ∧ zcd E ["java/lang/IndexOutOfBoundsException"] 1 = some c ∧ Post (some (.int c)) G') → P o G') → zMX Γ d mX10_character 1 6 [.ref b, .int p0] G P) : zMW Γ (d + 1) mL_character 1 6 [.ref b, .int p0, .ref ou] G Post := by
  refine zMW_of pnL rfl (Nat.le_of_ble_eq_true rfl) ?_
  refine z_aload_n dL_character_0 rfl ?_
  refine z_iconst (v := 0) dL_character_1 (by decide) ?_
  refine z_aload_n dL_character_2 rfl ?_
  refine z_iload_n dL_character_3 rfl ?_
  refine z_callVX (mi' := mX10_character) (As := [.int p0]) (mc' := 1) (ms' := 6) (z := 1) dL_character_4 lL_106 nX10_character kX10_character (Nat.le_of_ble_eq_true rfl) rfl (Nat.le_of_ble_eq_true rfl) (by decide) (by decide) hG rfl rfl ?_
  refine hM _ (fun o G' hq => ?_)
  rcases hq with ⟨r, f, rfl, ho, hp⟩ | ⟨E, c, rfl, hc, hp⟩
  · refine z_i2l dL_character_7 ?_
    refine z_last dL_character_8 ho (vp_in_nI (n := 0) (show 0 < 1 by decide) (by decide)) ?_
    refine z_goto (tgt := 15) dL_character_9 (by decide) ?_
    refine z_iconst (v := 0) dL_character_15 (by decide) ?_
    exact z_ireturn (mi := mL_character) dL_character_16 rfl rfl (by decide) (by decide) (hp)
  · obtain ⟨rfl, rfl⟩ := zcd_1 hc
    refine z_catch [] _ [] rfl (fun z hz => absurd hz List.not_mem_nil) (by decide) (by decide) gL_48 (by decide) (fun q => ?_)
    refine z_astore_n dL_character_12 (by decide) rfl ?_
    refine z_iconst (v := 1) dL_character_13 (by decide) ?_
    exact z_ireturn (mi := mL_character) dL_character_14 rfl rfl (by decide) (by decide) (hp)
theorem kgL_estimate9 : Cond.codeWith yL_estimate method_31_code 4 ((Option.some Jvm.ClassFile.FieldType.int)) [((0 : Nat), (8 : Nat), (11 : Nat), (48 : Nat)), ((0 : Nat), (8 : Nat), (14 : Nat), (114 : Nat))] ∈ lw_good := zin 1411 (by decide +kernel) (by decide +kernel)
set_option maxHeartbeats 4000000 in
set_option maxRecDepth 10000 in
theorem sL_estimate {Γ : zG} {d : Nat} {G : zH} {Post : zV} {b ou : Nat} {fs : List Value} {p0 : Int32} (hG : G b = some (.inr (10, fs))) (hM : ∀ P : zP, (∀ o G', (∃ (r : UInt64) (f : Nat → UInt64), o = .inl (some (.double r)) ∧ G' ou = some (.inl (.double, (1, .inr (.inr (.inr (.inl f)))))) ∧ Post (some (.int 0)) (zset G' ou (.inl (.double, (1, .inr (.inr (.inr (.inl (vf_upd f 0 r))))))))) ∨ (∃ E c, o = .inr E ∧ zcd E ["java/lang/IndexOutOfBoundsException", "java/lang/ArithmeticException"] 1 = some c ∧ Post (some (.int c)) G') → P o G') → zMX Γ d mX10_estimate 1 6 [.ref b, .int p0] G P) : zMW Γ (d + 1) mL_estimate 1 6 [.ref b, .int p0, .ref ou] G Post := by
  refine zMW_of pnL rfl (Nat.le_of_ble_eq_true rfl) ?_
  refine z_aload_n dL_estimate_0 rfl ?_
  refine z_iconst (v := 0) dL_estimate_1 (by decide) ?_
  refine z_aload_n dL_estimate_2 rfl ?_
  refine z_iload_n dL_estimate_3 rfl ?_
  refine z_callVX (mi' := mX10_estimate) (As := [.int p0]) (mc' := 1) (ms' := 6) (z := 1) dL_estimate_4 lL_110 nX10_estimate kX10_estimate (Nat.le_of_ble_eq_true rfl) rfl (Nat.le_of_ble_eq_true rfl) (by decide) (by decide) hG rfl rfl ?_
  refine hM _ (fun o G' hq => ?_)
  rcases hq with ⟨r, f, rfl, ho, hp⟩ | ⟨E, c, rfl, hc, hp⟩
  · refine z_dast dL_estimate_7 ho (vp_in_nI (n := 0) (show 0 < 1 by decide) (by decide)) ?_
    refine z_goto (tgt := 17) dL_estimate_8 (by decide) ?_
    refine z_iconst (v := 0) dL_estimate_17 (by decide) ?_
    exact z_ireturn (mi := mL_estimate) dL_estimate_18 rfl rfl (by decide) (by decide) (hp)
  · rcases zcd_2 hc with ⟨rfl, rfl⟩ | ⟨rfl, rfl⟩
    · refine z_catch [] _ [_] rfl (fun z hz => absurd hz List.not_mem_nil) (by decide) (by decide) gL_48 (by decide) (fun q => ?_)
      refine z_astore_n dL_estimate_11 (by decide) rfl ?_
      refine z_iconst (v := 1) dL_estimate_12 (by decide) ?_
      exact z_ireturn (mi := mL_estimate) dL_estimate_13 rfl rfl (by decide) (by decide) (hp)
    · refine z_catch [_] _ [] rfl (fun z hz => by rw [List.mem_singleton] at hz; subst hz; exact Or.inr ⟨by decide, _, gL_48, by decide⟩) (by decide) (by decide) gL_114 (by decide) (fun q => ?_)
      refine z_astore_n dL_estimate_14 (by decide) rfl ?_
      refine z_iconst (v := 2) dL_estimate_15 (by decide) ?_
      exact z_ireturn (mi := mL_estimate) dL_estimate_16 rfl rfl (by decide) (by decide) (hp)
theorem kgL_meanEdge9 : Cond.codeWith yL_meanEdge method_32_code 3 ((Option.some Jvm.ClassFile.FieldType.int)) [((0 : Nat), (8 : Nat), (11 : Nat), (114 : Nat))] ∈ lw_good := zin 1439 (by decide +kernel) (by decide +kernel)
set_option maxHeartbeats 4000000 in
set_option maxRecDepth 10000 in
theorem sL_meanEdge {Γ : zG} {d : Nat} {G : zH} {Post : zV} {b ou : Nat} {fs : List Value} (hG : G b = some (.inr (10, fs))) (hM : ∀ P : zP, (∀ o G', (∃ (r : UInt32) (f : Nat → UInt64), o = .inl (some (.float r)) ∧ G' ou = some (.inl (.double, (1, .inr (.inr (.inr (.inl f)))))) ∧ Post (some (.int 0)) (zset G' ou (.inl (.double, (1, .inr (.inr (.inr (.inl (vf_upd f 0 (FP.f2d r))))))))) ∧ vf_n64 (FP.f2d r)) ∨ (∃ E c, o = .inr E ∧ zcd E ["java/lang/ArithmeticException"] 1 = some c ∧ Post (some (.int c)) G') → P o G') → zMX Γ d mX10_meanEdge 1 6 [.ref b] G P) : zMW Γ (d + 1) mL_meanEdge 1 6 [.ref b, .ref ou] G Post := by
  refine zMW_of pnL rfl (Nat.le_of_ble_eq_true rfl) ?_
  refine z_aload_n dL_meanEdge_0 rfl ?_
  refine z_iconst (v := 0) dL_meanEdge_1 (by decide) ?_
  refine z_aload_n dL_meanEdge_2 rfl ?_
  refine z_callVX (mi' := mX10_meanEdge) (As := []) (mc' := 1) (ms' := 6) (z := 0) dL_meanEdge_3 lL_116 nX10_meanEdge kX10_meanEdge (Nat.le_of_ble_eq_true rfl) rfl (Nat.le_of_ble_eq_true rfl) (by decide) (by decide) hG rfl rfl ?_
  refine hM _ (fun o G' hq => ?_)
  rcases hq with ⟨r, f, rfl, ho, hp, hne⟩ | ⟨E, c, rfl, hc, hp⟩
  · refine z_f2d dL_meanEdge_6 hne ?_
    refine z_dast dL_meanEdge_7 ho (vp_in_nI (n := 0) (show 0 < 1 by decide) (by decide)) ?_
    refine z_goto (tgt := 14) dL_meanEdge_8 (by decide) ?_
    refine z_iconst (v := 0) dL_meanEdge_14 (by decide) ?_
    exact z_ireturn (mi := mL_meanEdge) dL_meanEdge_15 rfl rfl (by decide) (by decide) (hp)
  · obtain ⟨rfl, rfl⟩ := zcd_1 hc
    refine z_catch [] _ [] rfl (fun z hz => absurd hz List.not_mem_nil) (by decide) (by decide) gL_114 (by decide) (fun q => ?_)
    refine z_astore_n dL_meanEdge_11 (by decide) rfl ?_
    refine z_iconst (v := 1) dL_meanEdge_12 (by decide) ?_
    exact z_ireturn (mi := mL_meanEdge) dL_meanEdge_13 rfl rfl (by decide) (by decide) (hp)
theorem kgL_account9 : Cond.codeWith yL_account method_33_code 4 ((Option.some Jvm.ClassFile.FieldType.int)) [((0 : Nat), (9 : Nat), (12 : Nat), (50 : Nat))] ∈ lw_good := zin 1451 (by decide +kernel) (by decide +kernel)
set_option maxHeartbeats 4000000 in
set_option maxRecDepth 10000 in
theorem sL_account {Γ : zG} {d : Nat} {G : zH} {Post : zV} {b ou : Nat} {fs : List Value} {p0 : Int32} (hG : G b = some (.inr (10, fs))) (hM : ∀ P : zP, (∀ o G', (∃ (r : Int32) (f : Nat → Int64), o = .inl (some (.int r)) ∧ G' ou = some (.inl (.long, (1, .inr (.inl f)))) ∧ Post (some (.int 0)) (zset G' ou (.inl (.long, (1, .inr (.inl (vp_updL f 0 r.toInt64))))))) ∨ (∃ E c, o = .inr E ∧ zcd E ["java/lang/IllegalArgumentException"] 1 = some c ∧ Post (some (.int c)) G') → P o G') → zMX Γ d mX10_account 1 6 [.ref b, .int p0] G P) : zMW Γ (d + 1) mL_account 1 6 [.ref b, .int p0, .ref ou] G Post := by
  refine zMW_of pnL rfl (Nat.le_of_ble_eq_true rfl) ?_
  refine z_aload_n dL_account_0 rfl ?_
  refine z_iconst (v := 0) dL_account_1 (by decide) ?_
  refine z_aload_n dL_account_2 rfl ?_
  refine z_iload_n dL_account_3 rfl ?_
  refine z_callVX (mi' := mX10_account) (As := [.int p0]) (mc' := 1) (ms' := 6) (z := 1) dL_account_4 lL_120 nX10_account kX10_account (Nat.le_of_ble_eq_true rfl) rfl (Nat.le_of_ble_eq_true rfl) (by decide) (by decide) hG rfl rfl ?_
  refine hM _ (fun o G' hq => ?_)
  rcases hq with ⟨r, f, rfl, ho, hp⟩ | ⟨E, c, rfl, hc, hp⟩
  · refine z_i2l dL_account_7 ?_
    refine z_last dL_account_8 ho (vp_in_nI (n := 0) (show 0 < 1 by decide) (by decide)) ?_
    refine z_goto (tgt := 15) dL_account_9 (by decide) ?_
    refine z_iconst (v := 0) dL_account_15 (by decide) ?_
    exact z_ireturn (mi := mL_account) dL_account_16 rfl rfl (by decide) (by decide) (hp)
  · obtain ⟨rfl, rfl⟩ := zcd_1 hc
    refine z_catch [] _ [] rfl (fun z hz => absurd hz List.not_mem_nil) (by decide) (by decide) gL_50 (by decide) (fun q => ?_)
    refine z_astore_n dL_account_12 (by decide) rfl ?_
    refine z_iconst (v := 1) dL_account_13 (by decide) ?_
    exact z_ireturn (mi := mL_account) dL_account_14 rfl rfl (by decide) (by decide) (hp)
theorem kgL_undo9 : Cond.codeWith yL_undo method_34_code 3 ((Option.some Jvm.ClassFile.FieldType.int)) [((0 : Nat), (8 : Nat), (11 : Nat), (95 : Nat))] ∈ lw_good := zin 1468 (by decide +kernel) (by decide +kernel)
set_option maxHeartbeats 4000000 in
set_option maxRecDepth 10000 in
theorem sL_undo {Γ : zG} {d : Nat} {G : zH} {Post : zV} {b ou : Nat} {fs : List Value} (hG : G b = some (.inr (10, fs))) (hM : ∀ P : zP, (∀ o G', (∃ (r : Int32) (f : Nat → Int64), o = .inl (some (.int r)) ∧ G' ou = some (.inl (.long, (1, .inr (.inl f)))) ∧ Post (some (.int 0)) (zset G' ou (.inl (.long, (1, .inr (.inl (vp_updL f 0 r.toInt64))))))) ∨ (∃ E c, o = .inr E ∧ zcd E ["java/lang/IllegalStateException"] 1 = some c ∧ Post (some (.int c)) G') → P o G') → zMX Γ d mX10_undo 1 6 [.ref b] G P) : zMW Γ (d + 1) mL_undo 1 6 [.ref b, .ref ou] G Post := by
  refine zMW_of pnL rfl (Nat.le_of_ble_eq_true rfl) ?_
  refine z_aload_n dL_undo_0 rfl ?_
  refine z_iconst (v := 0) dL_undo_1 (by decide) ?_
  refine z_aload_n dL_undo_2 rfl ?_
  refine z_callVX (mi' := mX10_undo) (As := []) (mc' := 1) (ms' := 6) (z := 0) dL_undo_3 lL_123 nX10_undo kX10_undo (Nat.le_of_ble_eq_true rfl) rfl (Nat.le_of_ble_eq_true rfl) (by decide) (by decide) hG rfl rfl ?_
  refine hM _ (fun o G' hq => ?_)
  rcases hq with ⟨r, f, rfl, ho, hp⟩ | ⟨E, c, rfl, hc, hp⟩
  · refine z_i2l dL_undo_6 ?_
    refine z_last dL_undo_7 ho (vp_in_nI (n := 0) (show 0 < 1 by decide) (by decide)) ?_
    refine z_goto (tgt := 14) dL_undo_8 (by decide) ?_
    refine z_iconst (v := 0) dL_undo_14 (by decide) ?_
    exact z_ireturn (mi := mL_undo) dL_undo_15 rfl rfl (by decide) (by decide) (hp)
  · obtain ⟨rfl, rfl⟩ := zcd_1 hc
    refine z_catch [] _ [] rfl (fun z hz => absurd hz List.not_mem_nil) (by decide) (by decide) gL_95 (by decide) (fun q => ?_)
    refine z_astore_n dL_undo_11 (by decide) rfl ?_
    refine z_iconst (v := 1) dL_undo_12 (by decide) ?_
    exact z_ireturn (mi := mL_undo) dL_undo_13 rfl rfl (by decide) (by decide) (hp)
theorem kgL_restore9 : Cond.codeWith yL_restore method_35_code 3 ((Option.some Jvm.ClassFile.FieldType.int)) [((0 : Nat), (8 : Nat), (11 : Nat), (95 : Nat))] ∈ lw_good := zin 1480 (by decide +kernel) (by decide +kernel)
set_option maxHeartbeats 4000000 in
set_option maxRecDepth 10000 in
theorem sL_restore {Γ : zG} {d : Nat} {G : zH} {Post : zV} {b ou : Nat} {fs : List Value} (hG : G b = some (.inr (10, fs))) (hM : ∀ P : zP, (∀ o G', (∃ (r : Int32) (f : Nat → Int64), o = .inl (some (.int r)) ∧ G' ou = some (.inl (.long, (1, .inr (.inl f)))) ∧ Post (some (.int 0)) (zset G' ou (.inl (.long, (1, .inr (.inl (vp_updL f 0 r.toInt64))))))) ∨ (∃ E c, o = .inr E ∧ zcd E ["java/lang/IllegalStateException"] 1 = some c ∧ Post (some (.int c)) G') → P o G') → zMX Γ d mX10_restore 1 6 [.ref b] G P) : zMW Γ (d + 1) mL_restore 1 6 [.ref b, .ref ou] G Post := by
  refine zMW_of pnL rfl (Nat.le_of_ble_eq_true rfl) ?_
  refine z_aload_n dL_restore_0 rfl ?_
  refine z_iconst (v := 0) dL_restore_1 (by decide) ?_
  refine z_aload_n dL_restore_2 rfl ?_
  refine z_callVX (mi' := mX10_restore) (As := []) (mc' := 1) (ms' := 6) (z := 0) dL_restore_3 lL_126 nX10_restore kX10_restore (Nat.le_of_ble_eq_true rfl) rfl (Nat.le_of_ble_eq_true rfl) (by decide) (by decide) hG rfl rfl ?_
  refine hM _ (fun o G' hq => ?_)
  rcases hq with ⟨r, f, rfl, ho, hp⟩ | ⟨E, c, rfl, hc, hp⟩
  · refine z_i2l dL_restore_6 ?_
    refine z_last dL_restore_7 ho (vp_in_nI (n := 0) (show 0 < 1 by decide) (by decide)) ?_
    refine z_goto (tgt := 14) dL_restore_8 (by decide) ?_
    refine z_iconst (v := 0) dL_restore_14 (by decide) ?_
    exact z_ireturn (mi := mL_restore) dL_restore_15 rfl rfl (by decide) (by decide) (hp)
  · obtain ⟨rfl, rfl⟩ := zcd_1 hc
    refine z_catch [] _ [] rfl (fun z hz => absurd hz List.not_mem_nil) (by decide) (by decide) gL_95 (by decide) (fun q => ?_)
    refine z_astore_n dL_restore_11 (by decide) rfl ?_
    refine z_iconst (v := 1) dL_restore_12 (by decide) ?_
    exact z_ireturn (mi := mL_restore) dL_restore_13 rfl rfl (by decide) (by decide) (hp)
