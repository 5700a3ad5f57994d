section ZLW
variable {Γ : zG} {mi : zMI} {d mc ms pc k n : Nat} {lv : List (Option Value)} {st : List Value} {G : zH} {Post : zP}
theorem kgL_stone : Cond.codeWith yL_stone method_3_code 6 (Option.some Jvm.ClassFile.FieldType.int) [((0 : Nat), (12 : Nat), (15 : Nat), (13 : Nat))] ∈ lw_good := zin 430 (by decide +kernel) (by decide +kernel)
/-- the contract of a method that has handlers -/
def zMW (Γ : zG) (d : Nat) (mi : zMI) (mc ms : Nat) (args : List Value) (G : zH) (Post : zV) : Prop :=
  vx_Met Γ.1 mi.1 (Cond.codeWith mi.1 mi.2.1 mi.2.2.1 mi.2.2.2.1 mi.2.2.2.2 :: lw_good) (zRm d mc ms) (va_Pc args (zPre Γ G)) (zQ Γ (zlift Post)) (zXC Γ (zlift Post)) mc ms (zA Γ)
theorem zgoodW {L : List Cond} {y : MethodName} {bytes : ByteArray} {maxL : Nat} {ret : Option FieldType} {hh : List (Nat × Nat × Nat × Nat)} (h : ∀ w ∈ L, w ∈ lw_good) (hc : Cond.codeWith y bytes maxL ret hh ∈ lw_good) : GoodIn lw_good (L ++ (Cond.codeWith y bytes maxL ret hh :: lw_good)) := by
  intro w hw
  refine lw_good_self w ?_
  rcases List.mem_append.mp hw with h1 | h1
  · exact h w h1
  · rcases List.mem_cons.mp h1 with rfl | h2
    · exact hc
    · exact h2
theorem z_runX {p : Program} {e : Env} {R : Room} {s : State} {m : MethodId} {args : Array Value} {below : List Frame} {meth : Method} {c : Code} {H : Heap} {locs : List Loc} {ls : Array Slot} {mc' ms' : Nat} {st0 rest : List Value} {P : zP} {a9 : Array Value}
    (C : zCtx Γ mi d mc ms p R s m args meth c) (hS : va_S (zA Γ) s.heap H locs) (hl : zlv mi.2.2.1 ls lv)
    (hr : vx_Run p Γ.1 e R s m args below meth c H locs k n mc' ms' (F0 m pc ls st0) rest (zQ Γ P a9) (zXC Γ P) (zA Γ))
    (kk : ∀ v G', P (.inl v) G' → zX Γ mi d mc ms (pc + 3) lv (v.toList ++ rest) G' (k + mc') (n + ms') Post)
    (kx : ∀ E G', P (.inr E) G' → zT Γ mi d mc ms pc lv E G' (k + mc') (n + ms') Post) :
    W p Γ.1 e R s m args below meth c H locs k n (vx_MQ below (zQ Γ Post) (zXC Γ Post) args s mc ms (zA Γ)) (F0 m pc ls st0) := by
  intro T hT X
  rcases hr T hT X with ⟨v, st₀, t, T', L, h0, X', hL, e1, e2, ⟨⟨v', G', hv, hp, hb⟩, hF⟩, st⟩ | ⟨q, st₀, t, T', L, E, ce, h0, X', hL, e1, e2, ⟨⟨G', hp, hb⟩, hF⟩, hce, hcv, hcl, st⟩
  · cases hv
    obtain ⟨k1, k2, k3⟩ := vx_keep h0 e1 hS (fun q _ h => h) (fun q h => h) hL hF
    obtain ⟨t2, a1, b1⟩ := kk v G' hp p e R s m args below meth c T'.heap (locs ++ L) ls C (by rw [e1]; exact hb.moved (by rw [← e2]; exact X'.warmed.alike.symm)) k3 hl T' rfl X'
    exact ⟨t2, st t2 a1, b1⟩
  · obtain ⟨k1, k2, k3⟩ := vx_keep h0 e1 hS (fun q _ h => h) (fun q h => h) hL hF
    obtain ⟨t2, a1, b1⟩ := kx E G' hp p e R s m args below meth c T'.heap (locs ++ L) ls rest q ce C (by rw [e1]; exact hb.moved (by rw [← e2]; exact X'.warmed.alike.symm)) k3 hl (by rw [e1]; exact hce) hcv hcl T' rfl X'
    exact ⟨t2, st.trans a1, b1⟩
set_option maxHeartbeats 1000000 in
/-- a virtual call of a method that returns or throws -/
theorem z_callVX {mi' : zMI} {mc' ms' j z b ci : Nat} {As fs : List Value} {q : vw_C} (hd : decode mi.2.1 pc = .ok (.invokevirtual j, 3)) (hl9 : zLV mi.1.cls j mi'.1.cls mi'.1) (hds : zDs mi'.1 z) (hc : Cond.code mi'.1 mi'.2.1 mi'.2.2.1 mi'.2.2.2.1 ∈ lw_good) (hm : mi'.2.2.1 ≤ 45) (hz : As.length = z) (hst : (st.map fun v => v.category).sum ≤ 8) (hk : k + mc' ≤ mc) (hn : n + ms' ≤ ms) (hG : G b = some (.inr (ci, fs))) (hq : zcl[ci]? = some q) (hqc : q.1 = mi'.1.cls)
    (hM : zMX Γ d mi' mc' ms' (.ref b :: As) G (fun o G' => match o with
      | .inl v => zX Γ mi (d + 1) mc ms (pc + 3) lv (v.toList ++ st) G' (k + mc') (n + ms') Post
      | .inr E => zT Γ mi (d + 1) mc ms pc lv E G' (k + mc') (n + ms') Post)) : zX Γ mi (d + 1) mc ms pc lv (As.reverse ++ .ref b :: st) G k n Post := by
  intro p e R s m args below meth c H locs ls C hH hS hl
  obtain ⟨hx, hb, hml, hown, hts, hret, hlk, hname, htab, hks, hkh, hfr, hlo, hmc, hms⟩ := id C
  refine z_runX C hS hl (vx_runV ⟨hx, hb, hml, hown, hts⟩ hM (cwV z hts (zgood hl9 hc) rfl rfl rfl ⟨rfl, hds⟩ (zroom hfr hlo hm)) ⟨zblind, by rw [← hqc]; exact zrecv hH hG hq, fun U hU hW => ⟨rfl, zpre hH hS hks hkh hU hW⟩⟩ rfl hz hl.1 rfl (lv_room hst) hd ⟨Nat.le_trans hk hmc, Nat.le_trans hn hms⟩) (fun v G' h => h) (fun E G' h => h)
set_option maxHeartbeats 1000000 in
/-- a static call of a method that has handlers -/
theorem z_callSW {mi' : zMI} {mc' ms' j z : Nat} {As : List Value} (hd : decode mi.2.1 pc = .ok (.invokestatic j, 3)) (hl9 : zLS mi.1.cls j mi'.1) (hds : zDs mi'.1 z) (hc : Cond.codeWith mi'.1 mi'.2.1 mi'.2.2.1 mi'.2.2.2.1 mi'.2.2.2.2 ∈ lw_good) (hm : mi'.2.2.1 ≤ 45) (hz : As.length = z) (hst : (st.map fun v => v.category).sum ≤ 8) (hk : k + mc' ≤ mc) (hn : n + ms' ≤ ms)
    (hM : zMW Γ d mi' mc' ms' As G (fun v G' => zX Γ mi (d + 1) mc ms (pc + 3) lv (v.toList ++ st) G' (k + mc') (n + ms') Post)) : zX Γ mi (d + 1) mc ms pc lv (As.reverse ++ st) G k n Post := by
  intro p e R s m args below meth c H locs ls C hH hS hl
  obtain ⟨hx, hb, hml, hown, hts, hret, hlk, hname, htab, hks, hkh, hfr, hlo, hmc, hms⟩ := id C
  refine z_runX C hS hl (vx_runSX ⟨hx, hb, hml, hown, hts⟩ hM (vx_cwSW z hts (zgoodW hl9 hc) rfl rfl rfl hds (zroom hfr hlo hm)) ⟨zblind, fun U hU hW => ⟨rfl, zpre hH hS hks hkh hU hW⟩⟩ rfl hz hl.1 rfl (lv_room hst) hd ⟨Nat.le_trans hk hmc, Nat.le_trans hn hms⟩) (fun v G' h => h) (fun E G' h => h.elim)
/-- caught by the row x, past the rows pre -/
theorem z_catch {E name : String} (pre : List ExceptionTableEntry) (x : ExceptionTableEntry) (suf : List ExceptionTableEntry) (hsplit : tableOf mi.2.2.2.2 = pre ++ x :: suf) (hpass : ∀ z ∈ pre, covers z pc = false ∨ (z.catchType ≠ 0 ∧ ∃ nm : String, Cond.classLink mi.1.cls z.catchType nm ∈ lw_good ∧ (E, nm) ∈ zNoCast)) (hx : covers x pc = true) (h0 : x.catchType ≠ 0) (hlink : Cond.classLink mi.1.cls x.catchType name ∈ lw_good) (hcast : (E, name) ∈ zCast)
    (kk : ∀ q : Nat, zX Γ mi d mc ms x.handlerPc lv [.ref q] G k n Post) : zT Γ mi d mc ms pc lv E G k n Post := by
  intro p e R s m args below meth c H locs ls rest q ce C hH hS hl hcell hv hcl
  obtain ⟨hx9, hb, hml, hown, hts, hret, hlk, hname, htab, hks, hkh, hfr, hlo, hmc, hms⟩ := id C
  exact vx_catch hown pre x suf (by rw [htab]; exact hsplit) (fun z hz => (hpass z hz).imp id (fun h => ⟨h.1, h.2.choose, hts _ h.2.choose_spec.1, hks.2.2.2.1.1 _ h.2.choose_spec.2⟩)) hx h0 (hts _ hlink) (va_Nw.use rfl (hks.2.2.1 _ hcast)) hcell hv hcl (kk q p e R s m args below meth c H locs ls C hH hS hl)
set_option maxHeartbeats 1000000 in
theorem zMW_of {args : List Value} {Post : zV} (hy : plainName mi.1.cls = true) (h1 : args.all (fun v => v.category == 1) = true) (hn : args.length ≤ mi.2.2.1)
    (k : zX Γ mi d mc ms 0 (zlv0 mi.2.2.1 args) [] G 0 0 (zlift Post)) : zMW Γ d mi mc ms args G Post := by
  refine vx_ofWH (cc := mi.2.1) (maxL := mi.2.2.1) (ret := mi.2.2.2.1) (hh := mi.2.2.2.2) hy rfl ?_
  intro p e s m args' below meth c s₁ B hml hv
  obtain ⟨rfl, hH, hs, hh1⟩ := hv
  have hts := atoms_spec (ws := Cond.codeWith mi.1 mi.2.1 mi.2.2.1 mi.2.2.2.1 mi.2.2.2.2 :: lw_good) B.pre
  have htab := vx_table (x := mi.1) B (hts _ List.mem_cons_self)
  rw [lg_entry_eq]
  exact k p e _ s m _ below meth c s.heap [] _ ⟨B.exec, B.bytes, hml, findClass_of_methodNamed B.named, fun w hw => hts w (List.mem_cons_of_mem _ hw), B.returns, B.notSynchronized, (name_of_methodNamed B.named B.method).1, htab, hs, hh1, Nat.le_refl _, Nat.le_refl _, Nat.le_refl _, Nat.le_refl _⟩ hH va_S.rf (zlv_entry h1 hn)
end ZLW
