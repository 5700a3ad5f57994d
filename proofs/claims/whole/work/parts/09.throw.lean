/-! ===== throwing, statics, the script ===== -/
section ZT
variable {Γ : zG} {mi : zMI} {d mc ms pc k n : Nat} {lv : List (Option Value)} {st : List Value} {G : zH} {Post : zP}
/-- the exceptions of the landed class: name, the entry of its constructor -/
def zEx : List (String × Nat) := [("java/lang/UnsupportedOperationException", 74), ("java/lang/IndexOutOfBoundsException", 196), ("java/lang/IllegalArgumentException", 225), ("java/lang/IllegalStateException", 338), ("java/lang/ArithmeticException", 407)]
def zNames : List String := ["java/lang/RuntimeException", "java/lang/Exception"]
def zOdd : List Cond := (zCast.map fun q => Cond.castable q.1 q.2) ++ zDecl.map Cond.declares
theorem zEx_w : ∀ q ∈ zEx, (vx_atS RX10 q.2 q.1 zNames).all (fun w => (decide (w ∈ lw_tbl) && goodWord w) || decide (w ∈ zOdd)) = true := by decide +kernel
theorem zOdd_h {s : State} {args : Array Value} (h : zKs Γ s) : ∀ w ∈ zOdd, w.before args s = true := by
  intro w hw
  rcases List.mem_append.mp hw with h1 | h1
  · obtain ⟨q, hq, rfl⟩ := List.mem_map.mp h1
    exact va_Nw.use rfl (h.2.2.1 q hq)
  · obtain ⟨y, hy, rfl⟩ := List.mem_map.mp h1
    exact va_Nw.use rfl (h.2.2.2.2.2.2 y hy)
theorem zEx_b {s : State} {args : Array Value} (h : zKs Γ s) (hts : ∀ w ∈ lw_good, w.before args s = true) {cls : String} {ic : Nat} (hE : (cls, ic) ∈ zEx) : ∀ w ∈ vx_atS RX10 ic cls zNames, w.before args s = true := by
  intro w hw
  have h1 := List.all_eq_true.mp (zEx_w _ hE) w hw
  simp only [Bool.or_eq_true, Bool.and_eq_true, decide_eq_true_eq] at h1
  rcases h1 with h1 | h1
  · exact hts w (List.mem_filter.mpr h1)
  · exact zOdd_h h w h1
theorem zEx_o : ∀ q ∈ zEx, (vx_atS RX10 q.2 q.1 zNames).all vx_ot = true := by decide +kernel
theorem zEx_f : ∀ q ∈ zEx, Bundle.fit q.1 = true := by decide +kernel
theorem zNames_f : ∀ x ∈ zNames, Bundle.fit x = true := by decide +kernel
theorem zEx_i : zEx.all (fun q => decide (Cond.initialized q.1 ∈ lw_tbl) && goodWord (Cond.initialized q.1)) = true := by decide +kernel
theorem zSen (Γ : zG) {s : State} {H : Heap} {locs : List Loc} {G : zH} {Post : zP} {cls : String} (hH : zHR Γ G s H) (hS : va_S (zA Γ) s.heap H locs) (hp : Post (.inr cls) G) : ∀ t : State, s.vm.Alike t.vm → H.size ≤ t.heap.size → (∀ q : Nat, q < H.size → t.heap[q]? = H[q]?) → zXC Γ Post cls s t := by
  intro t hvm hsz hq
  refine ⟨⟨G, hp, (hH.moved hvm).kept hq⟩, Nat.le_trans hS.1 hsz, fun q h1 h2 => ?_⟩
  rw [hq q (Nat.lt_of_lt_of_le h1 hS.1)]
  exact hS.2.1 q h1 h2
set_option maxHeartbeats 1000000 in
theorem z_throw {cls tx : String} {ik is ic i : Nat} (hown : mi.1.cls = RX10) (hE : (cls, ic) ∈ zEx) (hlk : Cond.classLink RX10 ik cls ∈ lw_good) (hi : zStrs[i]? = some (RX10, is, tx)) (hh : mi.2.2.2.2 = [])
    (d0 : decode mi.2.1 pc = .ok (.new ik, 3)) (d3 : decode mi.2.1 (pc + 3) = .ok (.dup, 1)) (d4 : decode mi.2.1 (pc + 4) = .ok (.ldc is, 2)) (d6 : decode mi.2.1 (pc + 6) = .ok (.invokespecial ic, 3)) (d9 : decode mi.2.1 (pc + 9) = .ok (.athrow, 1))
    (hst : (st.map fun v => v.category).sum ≤ 8) (hk : k + 1 ≤ mc) (hn : n + 6 ≤ ms) (hp : Post (.inr cls) G) : zX Γ mi d mc ms pc lv st G k n Post := by
  intro p e R s m args below meth c H locs ls C hH hS hl
  obtain ⟨hx, hb, hml, ho, hts, hret, hlk2, hname, htab, hks, hkh, hfr, hlo, hmc, hms⟩ := id C
  rw [hown] at ho
  have hini : Cond.initialized cls ∈ lw_good := by
    have h := List.all_eq_true.mp zEx_i _ hE
    simp only [Bool.and_eq_true, decide_eq_true_eq] at h
    exact List.mem_filter.mpr h
  refine vx_throwS (names := zNames) hx hb hks.1 ho (zEx_f _ hE) zNames_f (hts _ hlk) (hts _ hini) (hks.2.2.2.2.1 i _ hi) (zEx_b hks hts hE) ?_ hkh.2.2.2.2.2.2.2.1 hkh.2.2.2.2.2.2.2.2.1 hS (by rw [hml]; exact hl.1) d0 d3 d4 d6 d9 ?_ ?_ ?_ (Nat.le_trans hk hmc) (Nat.le_trans hn hms) hlk2 (zSen Γ hH hS hp) hS.2.2 hk hn
  · intro w hw
    rcases List.mem_cons.mp hw with rfl | hw
    · rfl
    · rcases List.mem_cons.mp hw with rfl | hw
      · rfl
      · exact List.all_eq_true.mp (zEx_o _ hE) w hw
  · rw [htab, hh]
    intro x hx9
    cases hx9
  · show 2 + 3 < R.frames
    unfold zFr at hfr
    omega
  · show _ + (13 * (2 + 1) + 43) ≤ R.locals
    unfold zLo at hlo
    omega
set_option maxHeartbeats 1000000 in
theorem z_throwW {cls tx : String} {ik is ic i : Nat} (hown : mi.1.cls = RX10) (hE : (cls, ic) ∈ zEx) (hlk : Cond.classLink RX10 ik cls ∈ lw_good) (hi : zStrs[i]? = some (RX10, is, tx)) (hh : mi.2.2.2.2 = [])
    (d0 : decode mi.2.1 pc = .ok (.new ik, 3)) (d3 : decode mi.2.1 (pc + 3) = .ok (.dup, 1)) (d4 : decode mi.2.1 (pc + 4) = .ok (.ldc_w is, 3)) (d6 : decode mi.2.1 (pc + 7) = .ok (.invokespecial ic, 3)) (d9 : decode mi.2.1 (pc + 10) = .ok (.athrow, 1))
    (hst : (st.map fun v => v.category).sum ≤ 8) (hk : k + 1 ≤ mc) (hn : n + 6 ≤ ms) (hp : Post (.inr cls) G) : zX Γ mi d mc ms pc lv st G k n Post := by
  intro p e R s m args below meth c H locs ls C hH hS hl
  obtain ⟨hx, hb, hml, ho, hts, hret, hlk2, hname, htab, hks, hkh, hfr, hlo, hmc, hms⟩ := id C
  rw [hown] at ho
  have hini : Cond.initialized cls ∈ lw_good := by
    have h := List.all_eq_true.mp zEx_i _ hE
    simp only [Bool.and_eq_true, decide_eq_true_eq] at h
    exact List.mem_filter.mpr h
  refine vx_throwSW (names := zNames) hx hb hks.1 ho (zEx_f _ hE) zNames_f (hts _ hlk) (hts _ hini) (hks.2.2.2.2.1 i _ hi) (zEx_b hks hts hE) ?_ hkh.2.2.2.2.2.2.2.1 hkh.2.2.2.2.2.2.2.2.1 hS (by rw [hml]; exact hl.1) d0 d3 d4 d6 d9 ?_ ?_ ?_ (Nat.le_trans hk hmc) (Nat.le_trans hn hms) hlk2 (zSen Γ hH hS hp) hS.2.2 hk hn
  · intro w hw
    rcases List.mem_cons.mp hw with rfl | hw
    · rfl
    · rcases List.mem_cons.mp hw with rfl | hw
      · rfl
      · exact List.all_eq_true.mp (zEx_o _ hE) w hw
  · rw [htab, hh]
    intro x hx9
    cases hx9
  · show 2 + 3 < R.frames
    unfold zFr at hfr
    omega
  · show _ + (13 * (2 + 1) + 43) ≤ R.locals
    unfold zLo at hlo
    omega
theorem zNs_0 : decode prog_41_method_4_code 0 = .ok (.aload_n 0, 1) := by decide +kernel
theorem zNs_1 : decode prog_41_method_4_code 1 = .ok (.aload_n 1, 1) := by decide +kernel
theorem zNs_2 : decode prog_41_method_4_code 2 = .ok (.invokespecial 13, 3) := by decide +kernel
theorem zNs_5 : decode prog_41_method_4_code 5 = .ok (.return_, 1) := by decide +kernel
abbrev zNs_L : List Cond := vy_at RX10 254 "java/util/NoSuchElementException" "java/lang/RuntimeException" 13 prog_41_method_4_code ["java/lang/Exception"]
theorem zNs_w : zNs_L.all (fun w => (decide (w ∈ lw_tbl) && goodWord w) || decide (w ∈ zOdd)) = true := by decide +kernel
theorem zNs_o : zNs_L.all vx_ot = true := by decide +kernel
theorem zNs_b {s : State} {args : Array Value} (h : zKs Γ s) (hts : ∀ w ∈ lw_good, w.before args s = true) : ∀ w ∈ zNs_L, w.before args s = true := by
  intro w hw
  have h1 := List.all_eq_true.mp zNs_w w hw
  simp only [Bool.or_eq_true, Bool.and_eq_true, decide_eq_true_eq] at h1
  rcases h1 with h1 | h1
  · exact hts w (List.mem_filter.mpr h1)
  · exact zOdd_h h w h1
theorem zNs_f : Bundle.fit "java/util/NoSuchElementException" = true := by decide +kernel
theorem zNs_y : Bundle.fit "java/lang/RuntimeException" = true := by decide +kernel
theorem zNs_n : ∀ x ∈ ["java/lang/Exception"], Bundle.fit x = true := by decide +kernel
theorem zNs_k : Cond.classLink RX10 250 "java/util/NoSuchElementException" ∈ lw_good := List.mem_filter.mpr ⟨by decide +kernel, by decide +kernel⟩
theorem zNs_i : Cond.initialized "java/util/NoSuchElementException" ∈ lw_good := List.mem_filter.mpr ⟨by decide +kernel, by decide +kernel⟩
theorem zNs_g : ∀ w ∈ Cond.classLink RX10 250 "java/util/NoSuchElementException" :: Cond.initialized "java/util/NoSuchElementException" :: zNs_L, vx_ot w = true := by
  intro w hw
  rcases List.mem_cons.mp hw with rfl | hw
  · rfl
  · rcases List.mem_cons.mp hw with rfl | hw
    · rfl
    · exact List.all_eq_true.mp zNs_o w hw
/-- NoSuchElementException, whose constructor hands its text on by another entry -/
theorem z_throwN {tx : String} {is i : Nat} (hown : mi.1.cls = RX10) (hi : zStrs[i]? = some (RX10, is, tx)) (hh : mi.2.2.2.2 = [])
    (d0 : decode mi.2.1 pc = .ok (.new 250, 3)) (d3 : decode mi.2.1 (pc + 3) = .ok (.dup, 1)) (d4 : decode mi.2.1 (pc + 4) = .ok (.ldc is, 2) ∧ decode mi.2.1 (pc + 6) = .ok (.invokespecial 254, 3) ∧ decode mi.2.1 (pc + 9) = .ok (.athrow, 1) ∨ decode mi.2.1 (pc + 4) = .ok (.ldc_w is, 3) ∧ decode mi.2.1 (pc + 7) = .ok (.invokespecial 254, 3) ∧ decode mi.2.1 (pc + 10) = .ok (.athrow, 1))
    (hst : (st.map fun v => v.category).sum ≤ 8) (hk : k + 1 ≤ mc) (hn : n + 6 ≤ ms) (hp : Post (.inr "java/util/NoSuchElementException") G) : zX Γ mi d mc ms pc lv st G k n Post := by
  intro p e R s m args below meth c H locs ls C hH hS hl
  obtain ⟨hx, hb, hml, ho, hts, hret, hlk2, hname, htab, hks, hkh, hfr, hlo, hmc, hms⟩ := id C
  rw [hown] at ho
  have hout : ∀ q, ∀ x ∈ c.exceptionTable.toList, covers x q = false := fun q => by
    rw [htab, hh]
    intro x hx9
    cases hx9
  have hf9 : 1 + 4 < R.frames := by
    unfold zFr at hfr
    omega
  have hl9 : (st.map fun v => v.category).sum + (13 * (1 + 2) + 43) ≤ R.locals := by
    unfold zLo at hlo
    omega
  rcases d4 with ⟨d4, d6, d9⟩ | ⟨d4, d6, d9⟩
  · exact vy_throw (names := ["java/lang/Exception"]) hx hb hks.1 zNs_0 zNs_1 zNs_2 zNs_5 ho zNs_f zNs_y zNs_n (hts _ zNs_k) (hts _ zNs_i) (hks.2.2.2.2.1 i _ hi) (zNs_b hks hts) zNs_g hkh.2.2.2.2.2.2.2.1 hkh.2.2.2.2.2.2.2.2.1 hS (by rw [hml]; exact hl.1) d0 d3 (Or.inl ⟨d4, rfl⟩) d6 d9 (hout _) hf9 hl9 (Nat.le_trans hk hmc) (Nat.le_trans hn hms) hlk2 (zSen Γ hH hS hp) hS.2.2 hk hn
  · exact vy_throw (names := ["java/lang/Exception"]) hx hb hks.1 zNs_0 zNs_1 zNs_2 zNs_5 ho zNs_f zNs_y zNs_n (hts _ zNs_k) (hts _ zNs_i) (hks.2.2.2.2.1 i _ hi) (zNs_b hks hts) zNs_g hkh.2.2.2.2.2.2.2.1 hkh.2.2.2.2.2.2.2.2.1 hS (by rw [hml]; exact hl.1) d0 d3 (Or.inr ⟨d4, rfl⟩) d6 d9 (hout _) hf9 hl9 (Nat.le_trans hk hmc) (Nat.le_trans hn hms) hlk2 (zSen Γ hH hS hp) hS.2.2 hk hn
/-- the script -/
theorem z_sld {i : Int32} (hd : decode mi.2.1 pc = .ok (.iaload, 1)) (hi : vp_in i (Γ.2.2.2.2 103)) (kk : zX Γ mi d mc ms (pc + 1) lv (.int (nI (Γ.2.2.2.2 (104 + i.toNatClampNeg))) :: st) G k n Post) : zX Γ mi d mc ms pc lv (.int i :: .ref (Γ.2.2.2.2 102) :: st) G k n Post := by
  intro p e R s m args below meth c H locs ls C hH hS hl
  have hkh := C.2.2.2.2.2.2.2.2.2.2.1
  exact va_sld C.1 C.2.1 hkh.2.2.2.2.2.2.2.2.2.2 (zX_lt hkh.2.2.2.2.2.2.2.2.2.2) hkh.2.2.2.2.2.2.2.2.2.1 hS hi hd (kk p e R s m args below meth c H locs ls C hH hS hl)
end ZT
