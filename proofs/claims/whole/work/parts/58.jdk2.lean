section ZJ2
variable {Γ : zG} {mi : zMI} {d mc ms pc k n : Nat} {lv : List (Option Value)} {st : List Value} {G : zH} {Post : zP}
set_option maxHeartbeats 1000000 in
/-- an inherited method of the builder -/
theorem z_callVU {mi' : zMI} {mc' ms' j z b : Nat} {As fs : List Value} (hd : decode mi.2.1 pc = .ok (.invokevirtual j, 3)) (hl9 : zLU mi.1.cls j mi'.1) (hds : zDs mi'.1 z) (hc : Cond.code mi'.1 mi'.2.1 mi'.2.2.1 mi'.2.2.2.1 ∈ lw_good) (hm : mi'.2.2.1 ≤ 45) (hz : As.length = z) (hst : (st.map fun v => v.category).sum ≤ 8) (hk : k + mc' ≤ mc) (hn : n + ms' ≤ ms) (hG : G b = some (.inr (7, fs)))
    (hM : zM Γ d mi' mc' ms' (.ref b :: As) G (fun v G' => zX Γ mi (d + 1) mc ms (pc + 3) lv (v.toList ++ st) G' (k + mc') (n + ms') Post)) : zX Γ mi (d + 1) mc ms pc lv (As.reverse ++ .ref b :: st) G k n Post := by
  intro p e R s m args below meth c H locs ls C hH hS hl
  obtain ⟨hx, hb, hml, hown, hts, hret, hlk, hname, htab, hks, hkh, hfr, hlo, hmc, hms⟩ := id C
  have hr := zroom hfr hlo hm
  have cw : va_CU R s args mi.1.cls RJ4 mi'.1.cls j mi'.1 mi'.1 mi'.2.1 mi'.2.2.1 mi'.2.2.2.1 (Cond.code mi'.1 mi'.2.1 mi'.2.2.1 mi'.2.2.2.1 :: lw_good) (zRm d mc' ms') mc' ms' z :=
    ⟨⟨rfl, rfl, hr.1, hr.2, pay_in hts (zgood (L := []) (fun _ h => absurd h List.not_mem_nil) hc), List.mem_cons_self⟩, hts _ hc, hts _ hl9.2.2.2.1, ⟨hds.1, hds.2.1⟩, fun sig h => by
      have h2 := hds.2.2
      rw [h] at h2
      exact (Option.some.inj h2).symm, hts _ hl9.1, hts _ hl9.2.1, va_Decl.of (hts _ hl9.2.2.1) (hts _ hc), hl9.2.2.2.2 s args hts hks.2.2.2.1.2, hts _ hl9.2.2.1⟩
  refine z_run C hS hl (va_runU ⟨hx, hb, hml, hown, hts⟩ hM cw ⟨zblind, zrecv (q := (RJ4, TJ4, 4)) hH hG rfl, fun U hU hW => ⟨rfl, zpre hH hS hks hkh hU hW⟩⟩ rfl hz hl.1 rfl (lv_room hst) hd ⟨Nat.le_trans hk hmc, Nat.le_trans hn hms⟩) (fun v G' h => h)
def zLP (own : String) (idx : Nat) (y : MethodName) : Prop := Cond.methodLink own idx y ∈ lw_good ∧ Cond.sameMethod y.cls y.cls y.name y.desc ∈ lw_good ∧ Cond.superclass own y.cls ∈ lw_good ∧ Cond.instanceMethod y ∈ lw_good ∧ Cond.initialized y.cls ∈ lw_good ∧ y.name ≠ "<init>"
set_option maxHeartbeats 1000000 in
/-- super's method -/
theorem z_callSU {mi' : zMI} {mc' ms' j z b : Nat} {As fs : List Value} (hd : decode mi.2.1 pc = .ok (.invokespecial j, 3)) (hl9 : zLP mi.1.cls j mi'.1) (hds : zDs mi'.1 z) (hc : Cond.code mi'.1 mi'.2.1 mi'.2.2.1 mi'.2.2.2.1 ∈ lw_good) (hm : mi'.2.2.1 ≤ 45) (hz : As.length = z) (hst : (st.map fun v => v.category).sum ≤ 8) (hk : k + mc' ≤ mc) (hn : n + ms' ≤ ms) (hG : G b = some (.inr (7, fs)))
    (hM : zM Γ d mi' mc' ms' (.ref b :: As) G (fun v G' => zX Γ mi (d + 1) mc ms (pc + 3) lv (v.toList ++ st) G' (k + mc') (n + ms') Post)) : zX Γ mi (d + 1) mc ms pc lv (As.reverse ++ .ref b :: st) G k n Post := by
  intro p e R s m args below meth c H locs ls C hH hS hl
  obtain ⟨hx, hb, hml, hown, hts, hret, hlk, hname, htab, hks, hkh, hfr, hlo, hmc, hms⟩ := id C
  have hr := zroom hfr hlo hm
  obtain ⟨cC, hat⟩ := classAt_of (hts _ zc7.2.2.2.2.1)
  have cw : va_CS R s args mi.1.cls j mi'.1 mi'.2.1 mi'.2.2.1 mi'.2.2.2.1 (Cond.code mi'.1 mi'.2.1 mi'.2.2.1 mi'.2.2.2.1 :: lw_good) (zRm d mc' ms') mc' ms' z :=
    ⟨⟨rfl, rfl, hr.1, hr.2, pay_in hts (zgood (L := []) (fun _ h => absurd h List.not_mem_nil) hc), List.mem_cons_self⟩, hts _ hl9.1, hts _ hl9.2.1, hts _ hl9.2.2.1, hts _ hl9.2.2.2.1, hts _ hl9.2.2.2.2.1, hts _ hc, hl9.2.2.2.2.2, fun sig h => by
      have h2 := hds.2.2
      rw [h] at h2
      exact (Option.some.inj h2).symm⟩
  refine z_run C hS hl (va_runSU (C := RJ4) hat ⟨hx, hb, hml, hown, hts⟩ hM cw ⟨zblind, zrecv (q := (RJ4, TJ4, 4)) hH hG rfl, fun U hU hW => ⟨rfl, zpre hH hS hks hkh hU hW⟩⟩ rfl hz hl.1 rfl (lv_room hst) hd ⟨Nat.le_trans hk hmc, Nat.le_trans hn hms⟩) (fun v G' h => h)
theorem z_VU0 {mi' : zMI} {mc' ms' j b : Nat} {fs : List Value} (hd : decode mi.2.1 pc = .ok (.invokevirtual j, 3)) (hl9 : zLU mi.1.cls j mi'.1) (hds : zDs mi'.1 0) (hc : Cond.code mi'.1 mi'.2.1 mi'.2.2.1 mi'.2.2.2.1 ∈ lw_good) (hm : mi'.2.2.1 ≤ 45) (hst : (st.map fun v => v.category).sum ≤ 8) (hk : k + mc' ≤ mc) (hn : n + ms' ≤ ms) (hG : G b = some (.inr (7, fs)))
    (hM : zM Γ d mi' mc' ms' (.ref b :: []) G (fun v G' => zX Γ mi (d + 1) mc ms (pc + 3) lv (v.toList ++ st) G' (k + mc') (n + ms') Post)) : zX Γ mi (d + 1) mc ms pc lv (.ref b :: st) G k n Post := z_callVU (As := []) hd hl9 hds hc hm rfl hst hk hn hG hM
theorem z_VU1 {mi' : zMI} {mc' ms' j b : Nat} {fs : List Value} {a1 : Value} (hd : decode mi.2.1 pc = .ok (.invokevirtual j, 3)) (hl9 : zLU mi.1.cls j mi'.1) (hds : zDs mi'.1 1) (hc : Cond.code mi'.1 mi'.2.1 mi'.2.2.1 mi'.2.2.2.1 ∈ lw_good) (hm : mi'.2.2.1 ≤ 45) (hst : (st.map fun v => v.category).sum ≤ 8) (hk : k + mc' ≤ mc) (hn : n + ms' ≤ ms) (hG : G b = some (.inr (7, fs)))
    (hM : zM Γ d mi' mc' ms' (.ref b :: [a1]) G (fun v G' => zX Γ mi (d + 1) mc ms (pc + 3) lv (v.toList ++ st) G' (k + mc') (n + ms') Post)) : zX Γ mi (d + 1) mc ms pc lv (a1 :: .ref b :: st) G k n Post := z_callVU (As := [a1]) hd hl9 hds hc hm rfl hst hk hn hG hM
theorem z_SU0 {mi' : zMI} {mc' ms' j b : Nat} {fs : List Value} (hd : decode mi.2.1 pc = .ok (.invokespecial j, 3)) (hl9 : zLP mi.1.cls j mi'.1) (hds : zDs mi'.1 0) (hc : Cond.code mi'.1 mi'.2.1 mi'.2.2.1 mi'.2.2.2.1 ∈ lw_good) (hm : mi'.2.2.1 ≤ 45) (hst : (st.map fun v => v.category).sum ≤ 8) (hk : k + mc' ≤ mc) (hn : n + ms' ≤ ms) (hG : G b = some (.inr (7, fs)))
    (hM : zM Γ d mi' mc' ms' (.ref b :: []) G (fun v G' => zX Γ mi (d + 1) mc ms (pc + 3) lv (v.toList ++ st) G' (k + mc') (n + ms') Post)) : zX Γ mi (d + 1) mc ms pc lv (.ref b :: st) G k n Post := z_callSU (As := []) hd hl9 hds hc hm rfl hst hk hn hG hM
theorem z_SU1 {mi' : zMI} {mc' ms' j b : Nat} {fs : List Value} {a1 : Value} (hd : decode mi.2.1 pc = .ok (.invokespecial j, 3)) (hl9 : zLP mi.1.cls j mi'.1) (hds : zDs mi'.1 1) (hc : Cond.code mi'.1 mi'.2.1 mi'.2.2.1 mi'.2.2.2.1 ∈ lw_good) (hm : mi'.2.2.1 ≤ 45) (hst : (st.map fun v => v.category).sum ≤ 8) (hk : k + mc' ≤ mc) (hn : n + ms' ≤ ms) (hG : G b = some (.inr (7, fs)))
    (hM : zM Γ d mi' mc' ms' (.ref b :: [a1]) G (fun v G' => zX Γ mi (d + 1) mc ms (pc + 3) lv (v.toList ++ st) G' (k + mc') (n + ms') Post)) : zX Γ mi (d + 1) mc ms pc lv (a1 :: .ref b :: st) G k n Post := z_callSU (As := [a1]) hd hl9 hds hc hm rfl hst hk hn hG hM
theorem z_ldcI {j : Nat} {v : Int32} (hd : decode mi.2.1 pc = .ok (.ldc j, 2)) (hc : Cond.constant mi.1.cls j v ∈ lw_good) (kk : zX Γ mi d mc ms (pc + 2) lv (.int v :: st) G k n Post) : zX Γ mi d mc ms pc lv st G k n Post := z_ldc hd hc kk
set_option maxHeartbeats 1000000 in
/-- System.arraycopy from one row of bytes to another -/
theorem z_copyB {j a b N0 N1 : Nat} {f g : Nat → Int32} {len : Int32} (hd : decode mi.2.1 pc = .ok (.invokestatic j, 3)) (hlk : Cond.methodLink mi.1.cls j arraycopyName ∈ lw_good) (hA : G a = some (.inl (.byte, (N0, .inl f)))) (hB : G b = some (.inl (.byte, (N1, .inl g)))) (h0 : ¬ len < 0) (hN : len.toNatClampNeg ≤ N0) (hN1 : len.toNatClampNeg ≤ N1) (hfit : ∀ i, i < N0 → fits .byte (.int (f i)) = true) (hst : (st.map fun v => v.category).sum ≤ 8)
    (kk : zX Γ mi d mc ms (pc + 3) lv st (zset G b (.inl (.byte, (N1, .inl (va_cpy f g 0 0 len.toNatClampNeg))))) k n Post) : zX Γ mi d mc ms pc lv (.int len :: .int 0 :: .ref b :: .int 0 :: .ref a :: st) G k n Post := by
  intro p e R s m args below meth c H locs ls C hH hS hl
  obtain ⟨hx, hb, hml, hown, hts, hret, hlk2, hname, htab, hks, hkh, hfr, hlo, hmc, hms⟩ := id C
  obtain ⟨ws, tys, h1, h2, h3, h4⟩ := id hH
  obtain ⟨cA, q0, t0, hq, ht⟩ := h4.arr hA
  obtain ⟨cB, q1, t1, hq1, ht1⟩ := h4.arr hB
  have hfr1 : 1 ≤ R.frames := Nat.le_trans (show 1 ≤ zFr d by unfold zFr; omega) hfr
  have hw9 : nativeFrameWords "java/lang/System" "arraycopy" 5 + 11 ≤ 100 := by decide +kernel
  have hlo1 : (st.map fun v => v.category).sum + (nativeFrameWords "java/lang/System" "arraycopy" 5 + 11) ≤ R.locals := Nat.le_trans (show _ ≤ zLo d by unfold zLo; omega) hlo
  refine va_copyi (ty := .byte) hx hb (by rw [hml]; exact hl.1.symm) hown (hts _ hlk) (hts _ zac1) (hts _ zac2) (hts _ zac3) h3 h1 h2 hS q0 q1 t0 t1 hq hq1 ht ht1 rfl (sp := 0) (dp := 0) (n := len) (by decide) (by decide) h0 (by show 0 + _ ≤ _; omega) (by show 0 + _ ≤ _; omega) (fun i hi => hfit _ (by show 0 + i < N0; omega)) hfr1 hlo1 hd (fun H1 locs1 g1 g2 g3 => ?_)
  exact kk p e R s m args below meth c H1 locs1 ls C ⟨_, tys, g1, g2, h3, h4.setA hq1 ht1 _⟩ g3 hl
end ZJ2
theorem uJ5_100 : zLU RJ5 100 yJ5_ensureCapacityInternal_d00df := ⟨zin 1173 (by decide +kernel) (by decide +kernel), zin 1900 (by decide +kernel) (by decide +kernel), zin 1175 (by decide +kernel) (by decide +kernel), zin 11 (by decide +kernel) (by decide +kernel), fun s args _ hsel => va_Nw.use rfl (hsel _ (by simp [zSelB]))⟩
theorem uJ5_104 : zLU RJ5 104 yJ5_newCapacity_0f7a4 := ⟨zin 1177 (by decide +kernel) (by decide +kernel), zin 1901 (by decide +kernel) (by decide +kernel), zin 1179 (by decide +kernel) (by decide +kernel), zin 11 (by decide +kernel) (by decide +kernel), fun s args _ hsel => va_Nw.use rfl (hsel _ (by simp [zSelB]))⟩
theorem uJ5_83 : zLU RJ5 83 yJ5_isLatin1_aae02 := ⟨zin 1202 (by decide +kernel) (by decide +kernel), zin 1204 (by decide +kernel) (by decide +kernel), zin 1203 (by decide +kernel) (by decide +kernel), zin 11 (by decide +kernel) (by decide +kernel), fun s args hts _ => hts _ (zin 1205 (by decide +kernel) (by decide +kernel))⟩
theorem uJ4_333 : zLP RJ4 333 yJ5_setLength_d00df := ⟨zin 1151 (by decide +kernel) (by decide +kernel), zin 1897 (by decide +kernel) (by decide +kernel), zin 294 (by decide +kernel) (by decide +kernel), zin 1152 (by decide +kernel) (by decide +kernel), zin 11 (by decide +kernel) (by decide +kernel), by decide⟩
theorem uJ4_53 : zLP RJ4 53 yJ5_append_c97b9 := ⟨zin 1261 (by decide +kernel) (by decide +kernel), zin 1905 (by decide +kernel) (by decide +kernel), zin 294 (by decide +kernel) (by decide +kernel), zin 1262 (by decide +kernel) (by decide +kernel), zin 11 (by decide +kernel) (by decide +kernel), by decide⟩
theorem uJ4_50 : zLP RJ4 50 yJ5_append_3fe6f := ⟨zin 1381 (by decide +kernel) (by decide +kernel), zin 1906 (by decide +kernel) (by decide +kernel), zin 294 (by decide +kernel) (by decide +kernel), zin 1382 (by decide +kernel) (by decide +kernel), zin 11 (by decide +kernel) (by decide +kernel), by decide⟩
theorem uJ4_343 : zLP RJ4 343 yJ5_length_8abf5 := ⟨zin 1305 (by decide +kernel) (by decide +kernel), zin 1301 (by decide +kernel) (by decide +kernel), zin 294 (by decide +kernel) (by decide +kernel), zin 1300 (by decide +kernel) (by decide +kernel), zin 11 (by decide +kernel) (by decide +kernel), by decide⟩
theorem uJ4_329 : zLP RJ4 329 yJ5_charAt_5068e := ⟨zin 1403 (by decide +kernel) (by decide +kernel), zin 1908 (by decide +kernel) (by decide +kernel), zin 294 (by decide +kernel) (by decide +kernel), zin 1404 (by decide +kernel) (by decide +kernel), zin 11 (by decide +kernel) (by decide +kernel), by decide⟩
