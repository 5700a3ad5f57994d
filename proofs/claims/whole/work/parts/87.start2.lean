theorem zSelB_t1 : Cond.instantiable RJ4 4 ∈ lw_tbl := by decide +kernel
theorem zSelB_t2 : Cond.privateMethod yJ5_ensureCapacityInternal_d00df ∈ lw_tbl ∧ Cond.instanceMethod yJ5_ensureCapacityInternal_d00df ∈ lw_tbl := ⟨by decide +kernel, by decide +kernel⟩
theorem zSelB_t3 : Cond.privateMethod yJ5_newCapacity_0f7a4 ∈ lw_tbl ∧ Cond.instanceMethod yJ5_newCapacity_0f7a4 ∈ lw_tbl := ⟨by decide +kernel, by decide +kernel⟩
theorem zSelB_t4 : Cond.selects RJ4 yJ5_isLatin1_aae02 yJ5_isLatin1_aae02 ∈ lw_tbl := by decide +kernel
theorem zSelB_st {s : State} {b : Nat} (hts : ∀ w ∈ lw_tbl, w.before #[Value.ref b] s = true) : ∀ w ∈ zSelB, va_Nw w s := by
  intro w hw
  simp only [zSelB, List.mem_cons, List.not_mem_nil, or_false] at hw
  rcases hw with rfl | rfl
  · exact va_Nw.of rfl (zselP ⟨by decide, by decide⟩ (hts _ zSelB_t1) (hts _ zSelB_t2.1) (hts _ zSelB_t2.2) (hts _ zSelB_t4) rfl)
  · exact va_Nw.of rfl (zselP ⟨by decide, by decide⟩ (hts _ zSelB_t1) (hts _ zSelB_t3.1) (hts _ zSelB_t3.2) (hts _ zSelB_t4) rfl)
theorem zKs_start {Γ : zG} {s : State} {b : Nat} (hfl : Γ.1.flags = flags0) (hgv : (Jvm.Cond.and given_1 narrow_1).before #[Value.ref b] s = true) (hts : ∀ w ∈ lw_tbl, w.before #[Value.ref b] s = true) (hstr : ∀ i q, zStrs[i]? = some q → (Term.string q.1 q.2.1).eval #[Value.ref b] s none [] s = some (.ref (Γ.2.2.2.1 i))) : zKs Γ s := ⟨zflags hfl, zNest_s hts, zCast_s hts, ⟨zNoCast_t hgv, zSelB_st hts⟩, zStrs_s hts hstr, zAO_s hts, zDecl_s hts⟩
