theorem zNest_t : zNest.all (fun w => w.onTables && decide (w ∈ lw_tbl)) = true := by decide +kernel
theorem zCast_t : zCast.all (fun q => decide (Cond.castable q.1 q.2 ∈ lw_tbl)) = true := by decide +kernel
theorem zDecl_t : zDecl.all (fun y => decide (Cond.declares y ∈ lw_tbl)) = true := by decide +kernel
theorem zAO_t : Cond.arrayOver (.object RX6) ∈ lw_tbl := by decide +kernel
theorem zStrs_t : zStrs.all (fun q => decide (Cond.stringRef q.1 q.2.1 q.2.2 ∈ lw_tbl)) = true := by decide +kernel
theorem zNoCast_t {s : State} {b : Nat} (hgv : (Jvm.Cond.and given_1 narrow_1).before #[Value.ref b] s = true) : ∀ q ∈ zNoCast, va_Nc q.1 q.2 s := by
  intro q hq
  simp only [zNoCast, List.mem_cons, List.not_mem_nil, or_false] at hq
  rcases hq with rfl | rfl | rfl | rfl | rfl
  · exact va_Nc.of (flat_of_before _ hgv _ (by decide +kernel))
  · exact va_Nc.of (flat_of_before _ hgv _ (by decide +kernel))
  · exact va_Nc.of (flat_of_before _ hgv _ (by decide +kernel))
  · exact va_Nc.of (flat_of_before _ hgv _ (by decide +kernel))
  · exact va_Nc.of (flat_of_before _ hgv _ (by decide +kernel))
theorem zNest_s {s : State} {b : Nat} (hts : ∀ w ∈ lw_tbl, w.before #[Value.ref b] s = true) : ∀ w ∈ zNest, va_Nw w s := fun w hw => by
  have h := List.all_eq_true.mp zNest_t w hw
  rw [Bool.and_eq_true, decide_eq_true_eq] at h
  exact va_Nw.of h.1 (hts w h.2)
theorem zCast_s {s : State} {b : Nat} (hts : ∀ w ∈ lw_tbl, w.before #[Value.ref b] s = true) : ∀ q ∈ zCast, va_Nw (.castable q.1 q.2) s := fun q hq => va_Nw.of rfl (hts _ (of_decide_eq_true (List.all_eq_true.mp zCast_t q hq)))
theorem zDecl_s {s : State} {b : Nat} (hts : ∀ w ∈ lw_tbl, w.before #[Value.ref b] s = true) : ∀ y ∈ zDecl, va_Nw (.declares y) s := fun y hy => va_Nw.of rfl (hts _ (of_decide_eq_true (List.all_eq_true.mp zDecl_t y hy)))
theorem zAO_s {s : State} {b : Nat} (hts : ∀ w ∈ lw_tbl, w.before #[Value.ref b] s = true) : va_AO RX6 s := va_AO.of (hts _ zAO_t)
theorem zStrs_s {s : State} {b : Nat} (hts : ∀ w ∈ lw_tbl, w.before #[Value.ref b] s = true) {f : Nat → Nat} (hstr : ∀ i q, zStrs[i]? = some q → (Term.string q.1 q.2.1).eval #[Value.ref b] s none [] s = some (.ref (f i))) : ∀ i q, zStrs[i]? = some q → vk_R q.1 q.2.1 q.2.2 (f i) s := fun i q hq => vk_R.of (hts _ (of_decide_eq_true (List.all_eq_true.mp zStrs_t q (List.mem_of_getElem? hq)))) (hstr i q hq)
theorem zflags {l : Launch} (h : l.flags = flags0) : l.stackTraces = false := by
  first
  | (unfold Launch.stackTraces; rw [h]; decide +kernel)
  | (simp [Launch.stackTraces, h, flags0])
