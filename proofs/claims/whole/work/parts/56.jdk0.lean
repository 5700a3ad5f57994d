/-! ===== the JDK: statics, constants, inherited calls ===== -/
theorem wJ5_18 : Cond.fieldLink RJ5 18 "java/lang/String" "COMPACT_STRINGS" "Z" ∈ lw_good := zin 272 (by decide +kernel) (by decide +kernel)
theorem wJ0_38 : Cond.fieldLink RJ0 38 "java/lang/String" "COMPACT_STRINGS" "Z" ∈ lw_good := zin 1058 (by decide +kernel) (by decide +kernel)
theorem wJ0_1053 : Cond.fieldLink RJ0 1053 "jdk/internal/util/Preconditions" "SIOOBE_FORMATTER" "Ljava/util/function/BiFunction;" ∈ lw_good := zin 1073 (by decide +kernel) (by decide +kernel)
theorem wJ6_83 : Cond.fieldLink RJ6 83 "java/lang/Integer" "DigitOnes" "[B" ∈ lw_good := zin 1270 (by decide +kernel) (by decide +kernel)
theorem wJ6_87 : Cond.fieldLink RJ6 87 "java/lang/Integer" "DigitTens" "[B" ∈ lw_good := zin 1272 (by decide +kernel) (by decide +kernel)
theorem wJ0_9 : Cond.fieldLink RJ0 9 "java/lang/String" "value" "[B" ∈ lw_good := zin 1335 (by decide +kernel) (by decide +kernel)
theorem wJ0_15 : Cond.fieldLink RJ0 15 "java/lang/String" "coder" "B" ∈ lw_good := zin 1336 (by decide +kernel) (by decide +kernel)
section ZJ
variable {Γ : zG} {mi : zMI} {d mc ms pc k n : Nat} {lv : List (Option Value)} {st : List Value} {G : zH} {Post : zP}
theorem z_gets {j : Nat} {C nn dd : String} {v : Value} (hd : decode mi.2.1 pc = .ok (.getstatic j, 3)) (hlk : Cond.fieldLink mi.1.cls j C nn dd ∈ lw_good) (hZ : ∀ (s : State) (H : Heap), zKh Γ s H → va_Z C nn dd v (zA Γ) s H) (kk : zX Γ mi d mc ms (pc + 3) lv (v :: st) G k n Post) : zX Γ mi d mc ms pc lv st G k n Post := by
  intro p e R s m args below meth c H locs ls Cx hH hS hl
  exact va_gets Cx.1 Cx.2.1 (hZ s s.heap Cx.2.2.2.2.2.2.2.2.2.2.1) hS Cx.2.2.2.1 (Cx.2.2.2.2.1 _ hlk) (fun _ h => h) hd (kk p e R s m args below meth c H locs ls Cx hH hS hl)
theorem zkCS : ∀ (s : State) (H : Heap), zKh Γ s H → va_Z "java/lang/String" "COMPACT_STRINGS" "Z" (.int 1) (zA Γ) s H := fun _ _ h => h.2.2.1.1
theorem zkSF : ∀ (s : State) (H : Heap), zKh Γ s H → va_Z "jdk/internal/util/Preconditions" "SIOOBE_FORMATTER" "Ljava/util/function/BiFunction;" (zFv Γ) (zA Γ) s H := fun _ _ h => h.2.2.1.2
theorem zkDO : ∀ (s : State) (H : Heap), zKh Γ s H → va_Z "java/lang/Integer" "DigitOnes" "[B" (.ref (Γ.2.2.2.2 100)) (zA Γ) s H := fun _ _ h => h.2.2.2.1
theorem zkDT : ∀ (s : State) (H : Heap), zKh Γ s H → va_Z "java/lang/Integer" "DigitTens" "[B" (.ref (Γ.2.2.2.2 101)) (zA Γ) s H := fun _ _ h => h.2.2.2.2.1
theorem z_kval {j i : Nat} (hd : decode mi.2.1 pc = .ok (.getfield j, 3)) (hlk : Cond.fieldLink mi.1.cls j "java/lang/String" "value" "[B" ∈ lw_good) (hi : i < 6) (kk : zX Γ mi d mc ms (pc + 3) lv (.ref (Γ.2.2.2.2 i) :: st) G k n Post) : zX Γ mi d mc ms pc lv (.ref (Γ.2.2.2.1 i) :: st) G k n Post := by
  intro p e R s m args below meth c H locs ls Cx hH hS hl
  exact vk_getf Cx.1 Cx.2.1 (Cx.2.2.2.2.2.2.2.2.2.2.1.2.1 i hi).2.2.1 hS Cx.2.2.2.1 (Cx.2.2.2.2.1 _ hlk) (fun _ h => h) hd (kk p e R s m args below meth c H locs ls Cx hH hS hl)
theorem z_kcod {j i : Nat} (hd : decode mi.2.1 pc = .ok (.getfield j, 3)) (hlk : Cond.fieldLink mi.1.cls j "java/lang/String" "coder" "B" ∈ lw_good) (hi : i < 6) (kk : zX Γ mi d mc ms (pc + 3) lv (.int 0 :: st) G k n Post) : zX Γ mi d mc ms pc lv (.ref (Γ.2.2.2.1 i) :: st) G k n Post := by
  intro p e R s m args below meth c H locs ls Cx hH hS hl
  exact vk_getf Cx.1 Cx.2.1 (Cx.2.2.2.2.2.2.2.2.2.2.1.2.1 i hi).2.1 hS Cx.2.2.2.1 (Cx.2.2.2.2.1 _ hlk) (fun _ h => h) hd (kk p e R s m args below meth c H locs ls Cx hH hS hl)
theorem z_klen {i : Nat} {v : Int32} (hd : decode mi.2.1 pc = .ok (.arraylength, 1)) (hi : i < 6) (hv : Int32.ofNat (zLen.getD i 0) = v) (kk : zX Γ mi d mc ms (pc + 1) lv (.int v :: st) G k n Post) : zX Γ mi d mc ms pc lv (.ref (Γ.2.2.2.2 i) :: st) G k n Post := by
  intro p e R s m args below meth c H locs ls Cx hH hS hl
  exact va_tlen Cx.1 Cx.2.1 (Cx.2.2.2.2.2.2.2.2.2.2.1.2.1 i hi).2.2.2 hS hv hd (kk p e R s m args below meth c H locs ls Cx hH hS hl)
theorem z_kbld {i : Nat} {x : Int32} (hd : decode mi.2.1 pc = .ok (.baload, 1)) (hi : i < 6) (hin : vp_in x (zLen.getD i 0)) (kk : zX Γ mi d mc ms (pc + 1) lv (.int ((zByt.getD i []).getD x.toNatClampNeg 0) :: st) G k n Post) : zX Γ mi d mc ms pc lv (.int x :: .ref (Γ.2.2.2.2 i) :: st) G k n Post := by
  intro p e R s m args below meth c H locs ls Cx hH hS hl
  exact va_tb Cx.1 Cx.2.1 (Cx.2.2.2.2.2.2.2.2.2.2.1.2.1 i hi).2.2.2 hS hin rfl hd (kk p e R s m args below meth c H locs ls Cx hH hS hl)
theorem z_dones {x : Int32} (hd : decode mi.2.1 pc = .ok (.baload, 1)) (hin : vp_in x 100) (kk : zX Γ mi d mc ms (pc + 1) lv (.int (zOnes x.toNatClampNeg) :: st) G k n Post) : zX Γ mi d mc ms pc lv (.int x :: .ref (Γ.2.2.2.2 100) :: st) G k n Post := by
  intro p e R s m args below meth c H locs ls Cx hH hS hl
  exact va_tb Cx.1 Cx.2.1 Cx.2.2.2.2.2.2.2.2.2.2.1.2.2.2.2.2.1 hS hin rfl hd (kk p e R s m args below meth c H locs ls Cx hH hS hl)
theorem z_dtens {x : Int32} (hd : decode mi.2.1 pc = .ok (.baload, 1)) (hin : vp_in x 100) (kk : zX Γ mi d mc ms (pc + 1) lv (.int (zTens x.toNatClampNeg) :: st) G k n Post) : zX Γ mi d mc ms pc lv (.int x :: .ref (Γ.2.2.2.2 101) :: st) G k n Post := by
  intro p e R s m args below meth c H locs ls Cx hH hS hl
  exact va_tb Cx.1 Cx.2.1 Cx.2.2.2.2.2.2.2.2.2.2.1.2.2.2.2.2.2.1 hS hin rfl hd (kk p e R s m args below meth c H locs ls Cx hH hS hl)
set_option maxHeartbeats 1000000 in
/-- a method of a String constant -/
theorem z_callVK {mi' : zMI} {mc' ms' j z i : Nat} {As : List Value} (hd : decode mi.2.1 pc = .ok (.invokevirtual j, 3)) (hl9 : zLV mi.1.cls j mi'.1.cls mi'.1) (hds : zDs mi'.1 z) (hc : Cond.code mi'.1 mi'.2.1 mi'.2.2.1 mi'.2.2.2.1 ∈ lw_good) (hm : mi'.2.2.1 ≤ 45) (hz : As.length = z) (hst : (st.map fun v => v.category).sum ≤ 8) (hk : k + mc' ≤ mc) (hn : n + ms' ≤ ms) (hi : i < 6) (hqc : "java/lang/String" = mi'.1.cls)
    (hM : zM Γ d mi' mc' ms' (.ref (Γ.2.2.2.1 i) :: As) G (fun v G' => zX Γ mi (d + 1) mc ms (pc + 3) lv (v.toList ++ st) G' (k + mc') (n + ms') Post)) : zX Γ mi (d + 1) mc ms pc lv (As.reverse ++ .ref (Γ.2.2.2.1 i) :: st) G k n Post := by
  intro p e R s m args below meth c H locs ls C hH hS hl
  obtain ⟨hx, hb, hml, hown, hts, hret, hlk, hname, htab, hks, hkh, hfr, hlo, hmc, hms⟩ := id C
  obtain ⟨cell, g1, g2, g3, -⟩ := (hkh.2.1 i hi).1.kept hS.2.1
  refine z_run C hS hl (va_runV ⟨hx, hb, hml, hown, hts⟩ hM (cwV z hts (zgood hl9 hc) rfl rfl rfl ⟨rfl, hds⟩ (zroom hfr hlo hm)) ⟨zblind, by rw [← hqc]; exact ⟨cell, g1, g2, g3⟩, fun U hU hW => ⟨rfl, zpre hH hS hks hkh hU hW⟩⟩ rfl hz hl.1 rfl (lv_room hst) hd ⟨Nat.le_trans hk hmc, Nat.le_trans hn hms⟩) (fun v G' h => h)
theorem z_VK0 {mi' : zMI} {j i : Nat} (hd : decode mi.2.1 pc = .ok (.invokevirtual j, 3)) (hl9 : zLV mi.1.cls j mi'.1.cls mi'.1) (hds : zDs mi'.1 0) (hc : Cond.code mi'.1 mi'.2.1 mi'.2.2.1 mi'.2.2.2.1 ∈ lw_good) (hm : mi'.2.2.1 ≤ 45) (hst : (st.map fun v => v.category).sum ≤ 8) (hk : k ≤ mc) (hn : n ≤ ms) (hi : i < 6) (hqc : "java/lang/String" = mi'.1.cls)
    (hM : zM Γ d mi' 0 0 (.ref (Γ.2.2.2.1 i) :: []) G (fun v G' => zX Γ mi (d + 1) mc ms (pc + 3) lv (v.toList ++ st) G' k n Post)) : zX Γ mi (d + 1) mc ms pc lv (.ref (Γ.2.2.2.1 i) :: st) G k n Post :=
  z_callVK (As := []) hd hl9 hds hc hm rfl hst hk hn hi hqc hM
theorem z_VK1 {mi' : zMI} {j i : Nat} {a1 : Value} (hd : decode mi.2.1 pc = .ok (.invokevirtual j, 3)) (hl9 : zLV mi.1.cls j mi'.1.cls mi'.1) (hds : zDs mi'.1 1) (hc : Cond.code mi'.1 mi'.2.1 mi'.2.2.1 mi'.2.2.2.1 ∈ lw_good) (hm : mi'.2.2.1 ≤ 45) (hst : (st.map fun v => v.category).sum ≤ 8) (hk : k ≤ mc) (hn : n ≤ ms) (hi : i < 6) (hqc : "java/lang/String" = mi'.1.cls)
    (hM : zM Γ d mi' 0 0 (.ref (Γ.2.2.2.1 i) :: [a1]) G (fun v G' => zX Γ mi (d + 1) mc ms (pc + 3) lv (v.toList ++ st) G' k n Post)) : zX Γ mi (d + 1) mc ms pc lv (a1 :: .ref (Γ.2.2.2.1 i) :: st) G k n Post :=
  z_callVK (As := [a1]) hd hl9 hds hc hm rfl hst hk hn hi hqc hM
/-- a private method is what is run, whatever the receiver's class -/
theorem zselP {y y0 : MethodName} {C : String} {s : State} {args : Array Value} {n9 : Nat} (hy : y.cls ≠ "java/lang/invoke/MethodHandle" ∧ y.cls ≠ "java/lang/invoke/VarHandle") (hins : (Cond.instantiable C n9).before args s = true) (hpriv : (Cond.privateMethod y).before args s = true) (hinst : (Cond.instanceMethod y).before args s = true) (h0 : (Cond.selects C y0 y0).before args s = true) (hcy : y0.cls = y.cls) : (Cond.selects C y y).before args s = true := by
  obtain ⟨c, kx, hc, hkx, -, hniab, -, -⟩ := Cond.instantiable_spec hins
  obtain ⟨mk, methM, hnamed, hmethM, -, -⟩ := Cond.instanceMethod_spec hinst
  have hfound : s.methodFound? y.cls y.name y.desc = some mk := State.methodFound?_of_named hnamed hy
  have hsel : selectMethod {} s.vm c mk = .method mk := selectMethod_private hmethM (Cond.privateMethod_at hpriv mk methM hnamed hmethM)
  obtain ⟨c0, r0, m0, g1, g2, g3, g4, k0, g5, g6⟩ := Cond.selects_spec h0
  have hm0 : m0.cls = mk.cls := Option.some.inj ((findClass_of_methodNamed g3).symm.trans (by rw [hcy]; exact findClass_of_methodNamed hnamed))
  simp only [Cond.before, Cond.holds, Cond.value, hc, hfound, hnamed, hsel]
  simp only [← hm0, g5]
  simp [g6]
/-- what a call of an inherited method of the builder wants -/
def zLU (own : String) (idx : Nat) (y : MethodName) : Prop := Cond.methodLink own idx y ∈ lw_good ∧ Cond.sameMethod y.cls y.cls y.name y.desc ∈ lw_good ∧ Cond.instanceMethod y ∈ lw_good ∧ Cond.initialized y.cls ∈ lw_good ∧ (∀ (s : State) (args : Array Value), (∀ w ∈ lw_good, w.before args s = true) → (∀ w ∈ zSelB, va_Nw w s) → (Cond.selects RJ4 y y).before args s = true)
end ZJ
