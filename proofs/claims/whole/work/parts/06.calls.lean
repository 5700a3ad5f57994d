/-! ===== calls ===== -/
section ZC
variable {Γ : zG} {mi : zMI} {d mc ms pc k n : Nat} {lv : List (Option Value)} {st : List Value} {G : zH} {Post : zP}
def zDs (y : MethodName) (n : Nat) : Prop := y.cls ≠ "java/lang/invoke/MethodHandle" ∧ y.cls ≠ "java/lang/invoke/VarHandle" ∧ (parseMethodDescriptor y.desc).map (fun d => d.parameters.length) = some n
theorem zgood {L : List Cond} {y : MethodName} {bytes : ByteArray} {maxL : Nat} {ret : Option FieldType} (h : ∀ w ∈ L, w ∈ lw_good) (hc : Cond.code y bytes maxL ret ∈ lw_good) : GoodIn lw_good (L ++ (Cond.code y bytes maxL ret :: lw_good)) := by
  intro w hw
  refine lw_good_self w ?_
  rcases List.mem_append.mp hw with h1 | h1
  · exact h w h1
  · rcases List.mem_cons.mp h1 with rfl | h2
    · exact hc
    · exact h2
theorem zblind {args : List Value} : FrameBlind (va_Pc args (zPre Γ G)) := fun a U g mk q => ⟨q.1, zHR.moved (u := U) (U := U.calling g mk a) (Vm.Alike.refl U.vm) q.2.1, zKs.same (s := U) (U := U.calling g mk a) rfl q.2.2.1, zKh.moved (u := U) (U := U.calling g mk a) (Vm.Alike.refl U.vm) q.2.2.2⟩
theorem zpre {s U : State} {H : Heap} {locs : List Loc} (hH : zHR Γ G s H) (hS : va_S (zA Γ) s.heap H locs) (hks : zKs Γ s) (hkh : zKh Γ s s.heap) (hU : U.heap = H) (hW : s.WarmedH U.vm) : zPre Γ G U := by
  refine ⟨by rw [hU]; exact hH.moved hW.alike, hks.warm hW, ?_⟩
  rw [hU]
  exact (hkh.kept hS.1 hS.2.1).moved hW.alike
theorem z_run {p : Program} {e : Env} {R : Room} {s : State} {m : MethodId} {args : Array Value} {below : List Frame} {meth : Method} {c : Code} {H : Heap} {locs : List Loc} {ls : Array Slot} {mc' ms' : Nat} {st0 rest : List Value} {P : zV}
    (C : zCtx Γ mi d mc ms p R s m args meth c) (hS : va_S (zA Γ) s.heap H locs) (hl : zlv mi.2.2.1 ls lv)
    (hr : va_Run p Γ.1 e R s m args below meth c H locs k n mc' ms' (F0 m pc ls st0) rest (fun st o t => (∃ (v : Option Value) (G : zH), o = .returned v ∧ P v G ∧ zHR Γ G t t.heap) ∧ va_F (zA Γ) st t) (zA Γ))
    (kk : ∀ v G', P v G' → zX Γ mi d mc ms (pc + 3) lv (v.toList ++ rest) G' (k + mc') (n + ms') Post) :
    W p Γ.1 e R s m args below meth c H locs k n (vx_MQ below (zQ Γ Post) (zXC Γ Post) args s mc ms (zA Γ)) (F0 m pc ls st0) := by
  intro T hT X
  obtain ⟨v, st₀, t, T', L, h0, X', hL, e1, e2, ⟨⟨v', G', hv, hp, hb⟩, hF⟩, st⟩ := hr T hT X
  cases hv
  obtain ⟨k1, k2, k3⟩ := vx_keep h0 e1 hS (fun q _ h => h) (fun q h => h) hL hF
  obtain ⟨t2, a1, b1⟩ := kk v G' hp p e R s m args below meth c T'.heap (locs ++ L) ls C (by rw [e1]; exact hb.moved (by rw [← e2]; exact X'.warmed.alike.symm)) k3 hl T' rfl X'
  exact ⟨t2, st t2 a1, b1⟩
theorem zroom {d m9 : Nat} {R : Room} (h1 : zFr (d + 1) ≤ R.frames) (h2 : zLo (d + 1) ≤ R.locals) (hm : m9 ≤ 45) : zFr d + 1 ≤ R.frames ∧ 8 + (m9 + 11) + zLo d ≤ R.locals := by
  unfold zFr zLo at *
  omega
set_option maxHeartbeats 1000000 in
theorem z_callS {mi' : zMI} {mc' ms' j z : Nat} {As : List Value} (hd : decode mi.2.1 pc = .ok (.invokestatic j, 3)) (hl9 : zLS mi.1.cls j mi'.1) (hds : zDs mi'.1 z) (hc : Cond.code mi'.1 mi'.2.1 mi'.2.2.1 mi'.2.2.2.1 ∈ lw_good) (hm : mi'.2.2.1 ≤ 45) (hz : As.length = z) (hst : (st.map fun v => v.category).sum ≤ 8) (hk : k + mc' ≤ mc) (hn : n + ms' ≤ ms)
    (hM : zM Γ d mi' mc' ms' As G (fun v G' => zX Γ mi (d + 1) mc ms (pc + 3) lv (v.toList ++ st) G' (k + mc') (n + ms') Post)) : zX Γ mi (d + 1) mc ms pc lv (As.reverse ++ st) G k n Post := by
  intro p e R s m args below meth c H locs ls C hH hS hl
  obtain ⟨hx, hb, hml, hown, hts, hret, hlk, hname, htab, hks, hkh, hfr, hlo, hmc, hms⟩ := id C
  refine z_run C hS hl (va_runS ⟨hx, hb, hml, hown, hts⟩ hM (va_cwS z hts (zgood hl9 hc) rfl rfl rfl hds (zroom hfr hlo hm)) ⟨zblind, fun U hU hW => ⟨rfl, zpre hH hS hks hkh hU hW⟩⟩ rfl hz hl.1 rfl (lv_room hst) hd ⟨Nat.le_trans hk hmc, Nat.le_trans hn hms⟩) (fun v G' h => h)
theorem zrecv {s : State} {H : Heap} {b ci : Nat} {fs : List Value} {q : vw_C} (hH : zHR Γ G s H) (hG : G b = some (.inr (ci, fs))) (hc : zcl[ci]? = some q) : ∃ cell : Cell, H[b]? = some cell ∧ cell.vm.isStatics = false ∧ s.vm.findClass q.1 = some cell.cls := by
  obtain ⟨ws, tys, h1, h2, h3, h4⟩ := hH
  obtain ⟨q0, hq⟩ := h4.obj hG
  exact va_recv h3 h1 hc hq
set_option maxHeartbeats 1000000 in
theorem z_callV {mi' : zMI} {mc' ms' j z b ci : Nat} {As fs : List Value} {q : vw_C} (hd : decode mi.2.1 pc = .ok (.invokevirtual j, 3)) (hl9 : zLV mi.1.cls j mi'.1.cls mi'.1) (hds : zDs mi'.1 z) (hc : Cond.code mi'.1 mi'.2.1 mi'.2.2.1 mi'.2.2.2.1 ∈ lw_good) (hm : mi'.2.2.1 ≤ 45) (hz : As.length = z) (hst : (st.map fun v => v.category).sum ≤ 8) (hk : k + mc' ≤ mc) (hn : n + ms' ≤ ms) (hG : G b = some (.inr (ci, fs))) (hq : zcl[ci]? = some q) (hqc : q.1 = mi'.1.cls)
    (hM : zM Γ d mi' mc' ms' (.ref b :: As) G (fun v G' => zX Γ mi (d + 1) mc ms (pc + 3) lv (v.toList ++ st) G' (k + mc') (n + ms') Post)) : zX Γ mi (d + 1) mc ms pc lv (As.reverse ++ .ref b :: st) G k n Post := by
  intro p e R s m args below meth c H locs ls C hH hS hl
  obtain ⟨hx, hb, hml, hown, hts, hret, hlk, hname, htab, hks, hkh, hfr, hlo, hmc, hms⟩ := id C
  refine z_run C hS hl (va_runV ⟨hx, hb, hml, hown, hts⟩ hM (cwV z hts (zgood hl9 hc) rfl rfl rfl ⟨rfl, hds⟩ (zroom hfr hlo hm)) ⟨zblind, by rw [← hqc]; exact zrecv hH hG hq, fun U hU hW => ⟨rfl, zpre hH hS hks hkh hU hW⟩⟩ rfl hz hl.1 rfl (lv_room hst) hd ⟨Nat.le_trans hk hmc, Nat.le_trans hn hms⟩) (fun v G' h => h)
set_option maxHeartbeats 1000000 in
theorem z_callI {mi' : zMI} {mc' ms' j z b : Nat} {As : List Value} (hd : decode mi.2.1 pc = .ok (.invokespecial j, 3)) (hl9 : zLI mi.1.cls j mi'.1) (hni : mi'.1.name = "<init>") (hr : mi'.2.2.2.1 = none) (hds : zDs mi'.1 z) (hc : Cond.code mi'.1 mi'.2.1 mi'.2.2.1 mi'.2.2.2.1 ∈ lw_good) (hm : mi'.2.2.1 ≤ 45) (hz : As.length = z) (hst : (st.map fun v => v.category).sum ≤ 8) (hk : k + mc' ≤ mc) (hn : n + ms' ≤ ms)
    (hM : zM Γ d mi' mc' ms' (.ref b :: As) G (fun v G' => zX Γ mi (d + 1) mc ms (pc + 3) lv (v.toList ++ st) G' (k + mc') (n + ms') Post)) : zX Γ mi (d + 1) mc ms pc lv (As.reverse ++ .ref b :: st) G k n Post := by
  intro p e R s m args below meth c H locs ls C hH hS hl
  obtain ⟨hx, hb, hml, hown, hts, hret, hlk, hname, htab, hks, hkh, hfr, hlo, hmc, hms⟩ := id C
  obtain ⟨y, bytes, maxL, ret, hh⟩ := mi'
  dsimp only at hr hni hds hc hm hl9
  subst hr
  refine z_run C hS hl (va_runI (bytes := bytes) (maxL := maxL) (As := As) ⟨hx, hb, hml, hown, hts⟩ hM (cwI z hts (fun w h => zgood (L := []) (fun _ h => absurd h List.not_mem_nil) hc w h) rfl rfl rfl (hts _ (hl9 _ (by simp))) (hts _ (hl9 _ (by simp))) (hts _ (hl9 _ (by simp))) hni hds (zroom hfr hlo hm)) ⟨zblind, fun U hU hW => ⟨rfl, zpre hH hS hks hkh hU hW⟩⟩ rfl hz hl.1 rfl (lv_room hst) hd ⟨Nat.le_trans hk hmc, Nat.le_trans hn hms⟩) (fun v G' h => h)
set_option maxHeartbeats 1000000 in
theorem z_callN {mi' : zMI} {mc' ms' j z b : Nat} {As : List Value} {host : String} (hd : decode mi.2.1 pc = .ok (.invokespecial j, 3)) (hl9 : Cond.methodLinkNest mi.1.cls j mi'.1 host ∈ zNest) (him : Cond.instanceMethod mi'.1 ∈ lw_good) (hini : Cond.initialized mi'.1.cls ∈ lw_good) (hni : mi'.1.name = "<init>") (hr : mi'.2.2.2.1 = none) (hds : zDs mi'.1 z) (hc : Cond.code mi'.1 mi'.2.1 mi'.2.2.1 mi'.2.2.2.1 ∈ lw_good) (hm : mi'.2.2.1 ≤ 45) (hz : As.length = z) (hst : (st.map fun v => v.category).sum ≤ 8) (hk : k + mc' ≤ mc) (hn : n + ms' ≤ ms)
    (hM : zM Γ d mi' mc' ms' (.ref b :: As) G (fun v G' => zX Γ mi (d + 1) mc ms (pc + 3) lv (v.toList ++ st) G' (k + mc') (n + ms') Post)) : zX Γ mi (d + 1) mc ms pc lv (As.reverse ++ .ref b :: st) G k n Post := by
  intro p e R s m args below meth c H locs ls C hH hS hl
  obtain ⟨hx, hb, hml, hown, hts, hret, hlk, hname, htab, hks, hkh, hfr, hlo, hmc, hms⟩ := id C
  obtain ⟨y, bytes, maxL, ret, hh⟩ := mi'
  dsimp only at hr hni hds hc hm hl9 him hini
  subst hr
  refine z_run C hS hl (va_runIN (bytes := bytes) (maxL := maxL) (As := As) (host := host) ⟨hx, hb, hml, hown, hts⟩ hM ⟨va_cnB z hts (fun w h => zgood (L := []) (fun _ h => absurd h List.not_mem_nil) hc w h) rfl rfl rfl (hks.2.1 _ hl9) (hts _ hini) hds (zroom hfr hlo hm), hni, hts _ him⟩ ⟨zblind, fun U hU hW => ⟨rfl, zpre hH hS hks hkh hU hW⟩⟩ rfl hz hl.1 rfl (lv_room hst) hd ⟨Nat.le_trans hk hmc, Nat.le_trans hn hms⟩) (fun v G' h => h)
theorem z_S0 {mi' : zMI} {j : Nat} (hd : decode mi.2.1 pc = .ok (.invokestatic j, 3)) (hl9 : zLS mi.1.cls j mi'.1) (hds : zDs mi'.1 0) (hc : Cond.code mi'.1 mi'.2.1 mi'.2.2.1 mi'.2.2.2.1 ∈ lw_good) (hm : mi'.2.2.1 ≤ 45) (hst : (st.map fun v => v.category).sum ≤ 8) (hk : k ≤ mc) (hn : n ≤ ms)
    (hM : zM Γ d mi' 0 0 [] G (fun v G' => zX Γ mi (d + 1) mc ms (pc + 3) lv (v.toList ++ st) G' k n Post)) : zX Γ mi (d + 1) mc ms pc lv (st) G k n Post :=
  z_callS (As := []) hd hl9 hds hc hm rfl hst hk hn hM
theorem z_V0 {mi' : zMI} {j b ci : Nat} {fs : List Value} {q : vw_C} (hd : decode mi.2.1 pc = .ok (.invokevirtual j, 3)) (hl9 : zLV mi.1.cls j mi'.1.cls mi'.1) (hds : zDs mi'.1 0) (hc : Cond.code mi'.1 mi'.2.1 mi'.2.2.1 mi'.2.2.2.1 ∈ lw_good) (hm : mi'.2.2.1 ≤ 45) (hst : (st.map fun v => v.category).sum ≤ 8) (hk : k ≤ mc) (hn : n ≤ ms) (hG : G b = some (.inr (ci, fs))) (hq : zcl[ci]? = some q) (hqc : q.1 = mi'.1.cls)
    (hM : zM Γ d mi' 0 0 (.ref b :: []) G (fun v G' => zX Γ mi (d + 1) mc ms (pc + 3) lv (v.toList ++ st) G' k n Post)) : zX Γ mi (d + 1) mc ms pc lv (.ref b :: st) G k n Post :=
  z_callV (As := []) hd hl9 hds hc hm rfl hst hk hn hG hq hqc hM
theorem z_S1 {mi' : zMI} {j : Nat} {a1 : Value} (hd : decode mi.2.1 pc = .ok (.invokestatic j, 3)) (hl9 : zLS mi.1.cls j mi'.1) (hds : zDs mi'.1 1) (hc : Cond.code mi'.1 mi'.2.1 mi'.2.2.1 mi'.2.2.2.1 ∈ lw_good) (hm : mi'.2.2.1 ≤ 45) (hst : (st.map fun v => v.category).sum ≤ 8) (hk : k ≤ mc) (hn : n ≤ ms)
    (hM : zM Γ d mi' 0 0 [a1] G (fun v G' => zX Γ mi (d + 1) mc ms (pc + 3) lv (v.toList ++ st) G' k n Post)) : zX Γ mi (d + 1) mc ms pc lv (a1 :: st) G k n Post :=
  z_callS (As := [a1]) hd hl9 hds hc hm rfl hst hk hn hM
theorem z_V1 {mi' : zMI} {j b ci : Nat} {fs : List Value} {q : vw_C} {a1 : Value} (hd : decode mi.2.1 pc = .ok (.invokevirtual j, 3)) (hl9 : zLV mi.1.cls j mi'.1.cls mi'.1) (hds : zDs mi'.1 1) (hc : Cond.code mi'.1 mi'.2.1 mi'.2.2.1 mi'.2.2.2.1 ∈ lw_good) (hm : mi'.2.2.1 ≤ 45) (hst : (st.map fun v => v.category).sum ≤ 8) (hk : k ≤ mc) (hn : n ≤ ms) (hG : G b = some (.inr (ci, fs))) (hq : zcl[ci]? = some q) (hqc : q.1 = mi'.1.cls)
    (hM : zM Γ d mi' 0 0 (.ref b :: [a1]) G (fun v G' => zX Γ mi (d + 1) mc ms (pc + 3) lv (v.toList ++ st) G' k n Post)) : zX Γ mi (d + 1) mc ms pc lv (a1 :: .ref b :: st) G k n Post :=
  z_callV (As := [a1]) hd hl9 hds hc hm rfl hst hk hn hG hq hqc hM
theorem z_S2 {mi' : zMI} {j : Nat} {a1 a2 : Value} (hd : decode mi.2.1 pc = .ok (.invokestatic j, 3)) (hl9 : zLS mi.1.cls j mi'.1) (hds : zDs mi'.1 2) (hc : Cond.code mi'.1 mi'.2.1 mi'.2.2.1 mi'.2.2.2.1 ∈ lw_good) (hm : mi'.2.2.1 ≤ 45) (hst : (st.map fun v => v.category).sum ≤ 8) (hk : k ≤ mc) (hn : n ≤ ms)
    (hM : zM Γ d mi' 0 0 [a1, a2] G (fun v G' => zX Γ mi (d + 1) mc ms (pc + 3) lv (v.toList ++ st) G' k n Post)) : zX Γ mi (d + 1) mc ms pc lv (a2 :: a1 :: st) G k n Post :=
  z_callS (As := [a1, a2]) hd hl9 hds hc hm rfl hst hk hn hM
theorem z_V2 {mi' : zMI} {j b ci : Nat} {fs : List Value} {q : vw_C} {a1 a2 : Value} (hd : decode mi.2.1 pc = .ok (.invokevirtual j, 3)) (hl9 : zLV mi.1.cls j mi'.1.cls mi'.1) (hds : zDs mi'.1 2) (hc : Cond.code mi'.1 mi'.2.1 mi'.2.2.1 mi'.2.2.2.1 ∈ lw_good) (hm : mi'.2.2.1 ≤ 45) (hst : (st.map fun v => v.category).sum ≤ 8) (hk : k ≤ mc) (hn : n ≤ ms) (hG : G b = some (.inr (ci, fs))) (hq : zcl[ci]? = some q) (hqc : q.1 = mi'.1.cls)
    (hM : zM Γ d mi' 0 0 (.ref b :: [a1, a2]) G (fun v G' => zX Γ mi (d + 1) mc ms (pc + 3) lv (v.toList ++ st) G' k n Post)) : zX Γ mi (d + 1) mc ms pc lv (a2 :: a1 :: .ref b :: st) G k n Post :=
  z_callV (As := [a1, a2]) hd hl9 hds hc hm rfl hst hk hn hG hq hqc hM
theorem z_S3 {mi' : zMI} {j : Nat} {a1 a2 a3 : Value} (hd : decode mi.2.1 pc = .ok (.invokestatic j, 3)) (hl9 : zLS mi.1.cls j mi'.1) (hds : zDs mi'.1 3) (hc : Cond.code mi'.1 mi'.2.1 mi'.2.2.1 mi'.2.2.2.1 ∈ lw_good) (hm : mi'.2.2.1 ≤ 45) (hst : (st.map fun v => v.category).sum ≤ 8) (hk : k ≤ mc) (hn : n ≤ ms)
    (hM : zM Γ d mi' 0 0 [a1, a2, a3] G (fun v G' => zX Γ mi (d + 1) mc ms (pc + 3) lv (v.toList ++ st) G' k n Post)) : zX Γ mi (d + 1) mc ms pc lv (a3 :: a2 :: a1 :: st) G k n Post :=
  z_callS (As := [a1, a2, a3]) hd hl9 hds hc hm rfl hst hk hn hM
theorem z_V3 {mi' : zMI} {j b ci : Nat} {fs : List Value} {q : vw_C} {a1 a2 a3 : Value} (hd : decode mi.2.1 pc = .ok (.invokevirtual j, 3)) (hl9 : zLV mi.1.cls j mi'.1.cls mi'.1) (hds : zDs mi'.1 3) (hc : Cond.code mi'.1 mi'.2.1 mi'.2.2.1 mi'.2.2.2.1 ∈ lw_good) (hm : mi'.2.2.1 ≤ 45) (hst : (st.map fun v => v.category).sum ≤ 8) (hk : k ≤ mc) (hn : n ≤ ms) (hG : G b = some (.inr (ci, fs))) (hq : zcl[ci]? = some q) (hqc : q.1 = mi'.1.cls)
    (hM : zM Γ d mi' 0 0 (.ref b :: [a1, a2, a3]) G (fun v G' => zX Γ mi (d + 1) mc ms (pc + 3) lv (v.toList ++ st) G' k n Post)) : zX Γ mi (d + 1) mc ms pc lv (a3 :: a2 :: a1 :: .ref b :: st) G k n Post :=
  z_callV (As := [a1, a2, a3]) hd hl9 hds hc hm rfl hst hk hn hG hq hqc hM
theorem z_S4 {mi' : zMI} {j : Nat} {a1 a2 a3 a4 : Value} (hd : decode mi.2.1 pc = .ok (.invokestatic j, 3)) (hl9 : zLS mi.1.cls j mi'.1) (hds : zDs mi'.1 4) (hc : Cond.code mi'.1 mi'.2.1 mi'.2.2.1 mi'.2.2.2.1 ∈ lw_good) (hm : mi'.2.2.1 ≤ 45) (hst : (st.map fun v => v.category).sum ≤ 8) (hk : k ≤ mc) (hn : n ≤ ms)
    (hM : zM Γ d mi' 0 0 [a1, a2, a3, a4] G (fun v G' => zX Γ mi (d + 1) mc ms (pc + 3) lv (v.toList ++ st) G' k n Post)) : zX Γ mi (d + 1) mc ms pc lv (a4 :: a3 :: a2 :: a1 :: st) G k n Post :=
  z_callS (As := [a1, a2, a3, a4]) hd hl9 hds hc hm rfl hst hk hn hM
theorem z_V4 {mi' : zMI} {j b ci : Nat} {fs : List Value} {q : vw_C} {a1 a2 a3 a4 : Value} (hd : decode mi.2.1 pc = .ok (.invokevirtual j, 3)) (hl9 : zLV mi.1.cls j mi'.1.cls mi'.1) (hds : zDs mi'.1 4) (hc : Cond.code mi'.1 mi'.2.1 mi'.2.2.1 mi'.2.2.2.1 ∈ lw_good) (hm : mi'.2.2.1 ≤ 45) (hst : (st.map fun v => v.category).sum ≤ 8) (hk : k ≤ mc) (hn : n ≤ ms) (hG : G b = some (.inr (ci, fs))) (hq : zcl[ci]? = some q) (hqc : q.1 = mi'.1.cls)
    (hM : zM Γ d mi' 0 0 (.ref b :: [a1, a2, a3, a4]) G (fun v G' => zX Γ mi (d + 1) mc ms (pc + 3) lv (v.toList ++ st) G' k n Post)) : zX Γ mi (d + 1) mc ms pc lv (a4 :: a3 :: a2 :: a1 :: .ref b :: st) G k n Post :=
  z_callV (As := [a1, a2, a3, a4]) hd hl9 hds hc hm rfl hst hk hn hG hq hqc hM
theorem z_S5 {mi' : zMI} {j : Nat} {a1 a2 a3 a4 a5 : Value} (hd : decode mi.2.1 pc = .ok (.invokestatic j, 3)) (hl9 : zLS mi.1.cls j mi'.1) (hds : zDs mi'.1 5) (hc : Cond.code mi'.1 mi'.2.1 mi'.2.2.1 mi'.2.2.2.1 ∈ lw_good) (hm : mi'.2.2.1 ≤ 45) (hst : (st.map fun v => v.category).sum ≤ 8) (hk : k ≤ mc) (hn : n ≤ ms)
    (hM : zM Γ d mi' 0 0 [a1, a2, a3, a4, a5] G (fun v G' => zX Γ mi (d + 1) mc ms (pc + 3) lv (v.toList ++ st) G' k n Post)) : zX Γ mi (d + 1) mc ms pc lv (a5 :: a4 :: a3 :: a2 :: a1 :: st) G k n Post :=
  z_callS (As := [a1, a2, a3, a4, a5]) hd hl9 hds hc hm rfl hst hk hn hM
theorem z_V5 {mi' : zMI} {j b ci : Nat} {fs : List Value} {q : vw_C} {a1 a2 a3 a4 a5 : Value} (hd : decode mi.2.1 pc = .ok (.invokevirtual j, 3)) (hl9 : zLV mi.1.cls j mi'.1.cls mi'.1) (hds : zDs mi'.1 5) (hc : Cond.code mi'.1 mi'.2.1 mi'.2.2.1 mi'.2.2.2.1 ∈ lw_good) (hm : mi'.2.2.1 ≤ 45) (hst : (st.map fun v => v.category).sum ≤ 8) (hk : k ≤ mc) (hn : n ≤ ms) (hG : G b = some (.inr (ci, fs))) (hq : zcl[ci]? = some q) (hqc : q.1 = mi'.1.cls)
    (hM : zM Γ d mi' 0 0 (.ref b :: [a1, a2, a3, a4, a5]) G (fun v G' => zX Γ mi (d + 1) mc ms (pc + 3) lv (v.toList ++ st) G' k n Post)) : zX Γ mi (d + 1) mc ms pc lv (a5 :: a4 :: a3 :: a2 :: a1 :: .ref b :: st) G k n Post :=
  z_callV (As := [a1, a2, a3, a4, a5]) hd hl9 hds hc hm rfl hst hk hn hG hq hqc hM
end ZC
