theorem zarr_i : Cond.arrayClass .int ∈ lw_good := zin 80 (by decide +kernel) (by decide +kernel)
theorem zarr_c : Cond.arrayClass .char ∈ lw_good := zin 262 (by decide +kernel) (by decide +kernel)
theorem zarr_b : Cond.arrayClass .byte ∈ lw_good := zin 295 (by decide +kernel) (by decide +kernel)
theorem zarr_l : Cond.arrayClass .long ∈ lw_good := zin 1894 (by decide +kernel) (by decide +kernel)
theorem zarr_d : Cond.arrayClass .double ∈ lw_good := zin 1895 (by decide +kernel) (by decide +kernel)
theorem zobj1 : Cond.instanceMethod objectInit ∈ lw_good := zin 42 (by decide +kernel) (by decide +kernel)
theorem zobj2 : Cond.code objectInit ⟨#[0xb1]⟩ 1 none ∈ lw_good := zin 43 (by decide +kernel) (by decide +kernel)
theorem zmmax1 : Cond.static Lib.Math.max.name ∈ lw_good := zin 748 (by decide +kernel) (by decide +kernel)
theorem zmmax2 : Cond.initialized "java/lang/Math" ∈ lw_good := zin 21 (by decide +kernel) (by decide +kernel)
theorem zmmax3 : Cond.code Lib.Math.max.name Lib.Math.max.code 2 (some .int) ∈ lw_good := zin 749 (by decide +kernel) (by decide +kernel)
theorem zmmin1 : Cond.static Lib.Math.min.name ∈ lw_good := zin 403 (by decide +kernel) (by decide +kernel)
theorem zmmin2 : Cond.initialized "java/lang/Math" ∈ lw_good := zin 21 (by decide +kernel) (by decide +kernel)
theorem zmmin3 : Cond.code Lib.Math.min.name Lib.Math.min.code 2 (some .int) ∈ lw_good := zin 404 (by decide +kernel) (by decide +kernel)
/-! ===== a rule an instruction ===== -/
section ZR
variable {Γ : zG} {mi : zMI} {d mc ms pc k n : Nat} {lv : List (Option Value)} {st : List Value} {G : zH} {Post : zP}
theorem zlv.has {nL : Nat} {ls : Array Slot} {lv : List (Option Value)} (h : zlv nL ls lv) : lv_has ls nL (lv.zipIdx.filterMap (fun q => q.1.map fun v => (q.2, v))) := by
  refine ⟨h.1, h.2.1, fun q hq => ?_⟩
  obtain ⟨⟨w, i⟩, h1, h2⟩ := List.mem_filterMap.mp hq
  cases w with
  | none => cases h2
  | some v =>
    cases h2
    obtain ⟨hi, h3⟩ := List.mem_zipIdx' h1
    exact h.2.2 i v (by rw [List.getElem?_eq_getElem hi, ← h3])
theorem zkn_mem {lv : List (Option Value)} {i : Nat} {v : Value} (h : lv[i]? = some (some v)) : (i, v) ∈ lv.zipIdx.filterMap (fun q => q.1.map fun v => (q.2, v)) := by
  refine List.mem_filterMap.mpr ⟨(some v, i), ?_, rfl⟩
  exact List.mem_zipIdx_iff_getElem?.mpr h
def zok (lv : List (Option Value)) : Nat → Bool
  | 0 => true
  | i + 1 => match lv[i]? with
    | some (some w) => w.category != 2
    | _ => true
theorem zlv.st1 {nL i : Nat} {ls' : Array Slot} {lv : List (Option Value)} {v : Value} (hok : zok lv i = true) (h : lv_has ls' nL ((i, v) :: (lv.zipIdx.filterMap (fun q => q.1.map fun v => (q.2, v))).filter (fun q => !(q.1 == i) && !(q.1 + 1 == i && q.2.category == 2)))) : zlv nL ls' (lv.set i (some v)) := by
  refine ⟨h.1, h.2.1, fun j w hw => h.2.2 (j, w) ?_⟩
  by_cases hj : j = i
  · subst hj
    rw [List.getElem?_set_self'] at hw
    cases hl : lv[j]? with
    | none => rw [hl] at hw; cases hw
    | some y => rw [hl] at hw; cases hw; exact List.mem_cons_self
  · rw [List.getElem?_set_ne (Ne.symm hj)] at hw
    refine List.mem_cons_of_mem _ (List.mem_filter.mpr ⟨zkn_mem hw, ?_⟩)
    have h1 : (j == i) = false := beq_false_of_ne hj
    by_cases h2 : j + 1 = i
    · subst h2
      have h3 : (w.category != 2) = true := by simpa [zok, hw] using hok
      have h4 : (w.category == 2) = false := by simpa using h3
      simp [h1, h4]
    · have h5 : (j + 1 == i) = false := beq_false_of_ne h2
      simp [h1, h5]
theorem zlv.st2 {nL i : Nat} {ls' : Array Slot} {lv : List (Option Value)} {v : Value} (hok : zok lv i = true) (h : lv_has ls' nL ((i, v) :: (lv.zipIdx.filterMap (fun q => q.1.map fun v => (q.2, v))).filter (fun q => !(q.1 == i) && (!(q.1 == i + 1) && !(q.1 + 1 == i && q.2.category == 2))))) : zlv nL ls' ((lv.set (i + 1) none).set i (some v)) := by
  refine ⟨h.1, h.2.1, fun j w hw => h.2.2 (j, w) ?_⟩
  by_cases hj : j = i
  · subst hj
    rw [List.getElem?_set_self'] at hw
    cases hl : (lv.set (j + 1) none)[j]? with
    | none => rw [hl] at hw; cases hw
    | some y => rw [hl] at hw; cases hw; exact List.mem_cons_self
  · rw [List.getElem?_set_ne (Ne.symm hj)] at hw
    by_cases hj2 : j = i + 1
    · subst hj2
      rw [List.getElem?_set_self'] at hw
      cases hl : lv[i + 1]? with
      | none => rw [hl] at hw; cases hw
      | some y => rw [hl] at hw; cases hw
    · rw [List.getElem?_set_ne (Ne.symm hj2)] at hw
      refine List.mem_cons_of_mem _ (List.mem_filter.mpr ⟨zkn_mem hw, ?_⟩)
      have h1 : (j == i) = false := beq_false_of_ne hj
      have h1' : (j == i + 1) = false := beq_false_of_ne hj2
      by_cases h2 : j + 1 = i
      · subst h2
        have h3 : (w.category != 2) = true := by simpa [zok, hw] using hok
        have h4 : (w.category == 2) = false := by simpa using h3
        simp [h1, h1', h4]
      · have h5 : (j + 1 == i) = false := beq_false_of_ne h2
        simp [h1, h1', h5]
theorem zlv.sub {nL : Nat} {ls : Array Slot} {lv lv' : List (Option Value)} (h : zlv nL ls lv) (hs : ∀ (i : Nat) (v : Value), lv'[i]? = some (some v) → lv[i]? = some (some v)) : zlv nL ls lv' := ⟨h.1, h.2.1, fun i v hv => h.2.2 i v (hs i v hv)⟩
/-- fewer locals known -/
def zsubL : List (Option Value) → List (Option Value) → Prop
  | [], _ => True
  | none :: a, _ :: b => zsubL a b
  | none :: a, [] => zsubL a []
  | some v :: a, w :: b => w = some v ∧ zsubL a b
  | some _ :: _, [] => False
theorem zsubL.get : ∀ {a b : List (Option Value)}, zsubL a b → ∀ (i : Nat) (v : Value), a[i]? = some (some v) → b[i]? = some (some v)
  | [], _, _, i, v, hv => by simp at hv
  | none :: a, w :: b, h, 0, v, hv => by simp at hv
  | none :: a, w :: b, h, i + 1, v, hv => by simpa using zsubL.get (a := a) (b := b) h i v (by simpa using hv)
  | none :: a, [], h, 0, v, hv => by simp at hv
  | none :: a, [], h, i + 1, v, hv => by
    have := zsubL.get (a := a) (b := []) h i v (by simpa using hv)
    simp at this
  | some x :: a, w :: b, h, 0, v, hv => by
    obtain ⟨rfl, -⟩ := h
    simpa using hv
  | some x :: a, w :: b, h, i + 1, v, hv => by simpa using zsubL.get (a := a) (b := b) h.2 i v (by simpa using hv)
theorem z_sub {lv' : List (Option Value)} (hs : zsubL lv' lv) (kk : zX Γ mi d mc ms pc lv' st G k n Post) : zX Γ mi d mc ms pc lv st G k n Post := fun p e R s m args below meth c H locs ls C hH hS hl => kk p e R s m args below meth c H locs ls C hH hS (hl.sub hs.get)
theorem z_mono {Post' : zP} (hp : ∀ o G', Post' o G' → Post o G') (kk : zX Γ mi d mc ms pc lv st G k n Post') : zX Γ mi d mc ms pc lv st G k n Post := by
  intro p e R s m args below meth c H locs ls C hH hS hl T hT X
  obtain ⟨t, a, o, b1, b2, b3⟩ := kk p e R s m args below meth c H locs ls C hH hS hl T hT X
  refine ⟨t, a, o, b1, b2, ?_⟩
  rcases b3 with ⟨⟨⟨v, G', g1, g2, g3⟩, g4⟩, g5⟩ | ⟨q, g0, E, ce, L, ⟨⟨G', g1, g2⟩, g3⟩, g4⟩
  · exact Or.inl ⟨⟨⟨v, G', g1, hp _ _ g2, g3⟩, g4⟩, g5⟩
  · exact Or.inr ⟨q, g0, E, ce, L, ⟨⟨G', hp _ _ g1, g2⟩, g3⟩, g4⟩
theorem z_heap {G' : zH} (hg : ∀ a e, G' a = some e → G a = some e) (kk : zX Γ mi d mc ms pc lv st G' k n Post) : zX Γ mi d mc ms pc lv st G k n Post := by
  intro p e R s m args below meth c H locs ls C hH hS hl
  obtain ⟨ws, tys, h1, h2, h3, h4⟩ := hH
  exact kk p e R s m args below meth c H locs ls C ⟨ws, tys, h1, h2, h3, fun a x hx => h4 a x (hg a x hx)⟩ hS hl
theorem zM_mono {mi' : zMI} {args : List Value} {P Q : zV} (hp : ∀ v G', P v G' → Q v G') (h : zM Γ d mi' mc ms args G P) : zM Γ d mi' mc ms args G Q := by
  intro p e h1 h2 h3 s m a below h4 h5 h6 h7
  obtain ⟨n, o, g1, g2, g3, ⟨⟨v, G', z1, z2, z3⟩, g5⟩, g6⟩ := h p e h1 h2 h3 s m a below h4 h5 h6 h7
  exact ⟨n, o, g1, g2, g3, ⟨⟨v, G', z1, hp _ _ z2, z3⟩, g5⟩, g6⟩
theorem z_iconst {j : Int} {v : Int32} (hd : decode mi.2.1 pc = .ok (.iconst j, 1)) (hv : Int32.ofInt j = v) (kk : zX Γ mi d mc ms (pc + 1) (lv) (.int v :: st) G (k) (n) Post) : zX Γ mi d mc ms (pc) (lv) (st) G (k) (n) Post := fun p e R s m args below meth c H locs ls C hH hS hl => lv_iconst C.1 C.2.1 hd hv (kk p e R s m args below meth c H locs ls C hH hS hl)
theorem z_bipush {j : Int} {v : Int32} (hd : decode mi.2.1 pc = .ok (.bipush j, 2)) (hv : (Int8.ofInt j).toInt32 = v) (kk : zX Γ mi d mc ms (pc + 2) (lv) (.int v :: st) G (k) (n) Post) : zX Γ mi d mc ms (pc) (lv) (st) G (k) (n) Post := fun p e R s m args below meth c H locs ls C hH hS hl => lv_bipush C.1 C.2.1 hd hv (kk p e R s m args below meth c H locs ls C hH hS hl)
theorem z_sipush {j : Int} {v : Int32} (hd : decode mi.2.1 pc = .ok (.sipush j, 3)) (hv : (Int16.ofInt j).toInt32 = v) (kk : zX Γ mi d mc ms (pc + 3) (lv) (.int v :: st) G (k) (n) Post) : zX Γ mi d mc ms (pc) (lv) (st) G (k) (n) Post := fun p e R s m args below meth c H locs ls C hH hS hl => lv_sipush C.1 C.2.1 hd hv (kk p e R s m args below meth c H locs ls C hH hS hl)
theorem z_lconst {j : Fin 2} {v : Int64} (hd : decode mi.2.1 pc = .ok (.lconst j, 1)) (hv : Int64.ofNat (j : Nat) = v) (kk : zX Γ mi d mc ms (pc + 1) (lv) (.long v :: st) G (k) (n) Post) : zX Γ mi d mc ms (pc) (lv) (st) G (k) (n) Post := fun p e R s m args below meth c H locs ls C hH hS hl => lv_lconst C.1 C.2.1 hd hv (kk p e R s m args below meth c H locs ls C hH hS hl)
theorem z_null  (hd : decode mi.2.1 pc = .ok (.aconst_null, 1))  (kk : zX Γ mi d mc ms (pc + 1) (lv) (.null :: st) G (k) (n) Post) : zX Γ mi d mc ms (pc) (lv) (st) G (k) (n) Post := fun p e R s m args below meth c H locs ls C hH hS hl => lv_null C.1 C.2.1 hd (kk p e R s m args below meth c H locs ls C hH hS hl)
theorem z_dconst0  (hd : decode mi.2.1 pc = .ok (.dconst 0, 1))  (kk : zX Γ mi d mc ms (pc + 1) (lv) (.double 0 :: st) G (k) (n) Post) : zX Γ mi d mc ms (pc) (lv) (st) G (k) (n) Post := fun p e R s m args below meth c H locs ls C hH hS hl => lv_dconst0 C.1 C.2.1 hd (kk p e R s m args below meth c H locs ls C hH hS hl)
theorem z_fconst0  (hd : decode mi.2.1 pc = .ok (.fconst 0, 1))  (kk : zX Γ mi d mc ms (pc + 1) (lv) (.float 0 :: st) G (k) (n) Post) : zX Γ mi d mc ms (pc) (lv) (st) G (k) (n) Post := fun p e R s m args below meth c H locs ls C hH hS hl => lv_fconst0 C.1 C.2.1 hd (kk p e R s m args below meth c H locs ls C hH hS hl)
theorem z_iload_n {j : Fin 4} {x : Int32} (hd : decode mi.2.1 pc = .ok (.iload_n j, 1)) (hv : lv[(j : Nat)]? = some (some (.int x))) (kk : zX Γ mi d mc ms (pc + 1) (lv) (.int x :: st) G (k) (n) Post) : zX Γ mi d mc ms (pc) (lv) (st) G (k) (n) Post := fun p e R s m args below meth c H locs ls C hH hS hl => lv_iload_n C.1 C.2.1 hd rfl (hl.2.2 _ _ hv) (kk p e R s m args below meth c H locs ls C hH hS hl)
theorem z_iload {j : Nat} {x : Int32} (hd : decode mi.2.1 pc = .ok (.iload j, 2)) (hv : lv[j]? = some (some (.int x))) (kk : zX Γ mi d mc ms (pc + 2) (lv) (.int x :: st) G (k) (n) Post) : zX Γ mi d mc ms (pc) (lv) (st) G (k) (n) Post := fun p e R s m args below meth c H locs ls C hH hS hl => lv_iload C.1 C.2.1 hd (hl.2.2 _ _ hv) (kk p e R s m args below meth c H locs ls C hH hS hl)
theorem z_aload_n {j : Fin 4} {x : Nat} (hd : decode mi.2.1 pc = .ok (.aload_n j, 1)) (hv : lv[(j : Nat)]? = some (some (.ref x))) (kk : zX Γ mi d mc ms (pc + 1) (lv) (.ref x :: st) G (k) (n) Post) : zX Γ mi d mc ms (pc) (lv) (st) G (k) (n) Post := fun p e R s m args below meth c H locs ls C hH hS hl => lv_aload_n C.1 C.2.1 hd rfl (hl.2.2 _ _ hv) (kk p e R s m args below meth c H locs ls C hH hS hl)
theorem z_aload {j : Nat} {x : Nat} (hd : decode mi.2.1 pc = .ok (.aload j, 2)) (hv : lv[j]? = some (some (.ref x))) (kk : zX Γ mi d mc ms (pc + 2) (lv) (.ref x :: st) G (k) (n) Post) : zX Γ mi d mc ms (pc) (lv) (st) G (k) (n) Post := fun p e R s m args below meth c H locs ls C hH hS hl => lv_aload C.1 C.2.1 hd (hl.2.2 _ _ hv) (kk p e R s m args below meth c H locs ls C hH hS hl)
theorem z_fload_n {j : Fin 4} {x : UInt32} (hd : decode mi.2.1 pc = .ok (.fload_n j, 1)) (hv : lv[(j : Nat)]? = some (some (.float x))) (kk : zX Γ mi d mc ms (pc + 1) (lv) (.float x :: st) G (k) (n) Post) : zX Γ mi d mc ms (pc) (lv) (st) G (k) (n) Post := fun p e R s m args below meth c H locs ls C hH hS hl => lv_fload_n C.1 C.2.1 hd rfl (hl.2.2 _ _ hv) (kk p e R s m args below meth c H locs ls C hH hS hl)
theorem z_fload {j : Nat} {x : UInt32} (hd : decode mi.2.1 pc = .ok (.fload j, 2)) (hv : lv[j]? = some (some (.float x))) (kk : zX Γ mi d mc ms (pc + 2) (lv) (.float x :: st) G (k) (n) Post) : zX Γ mi d mc ms (pc) (lv) (st) G (k) (n) Post := fun p e R s m args below meth c H locs ls C hH hS hl => lv_fload C.1 C.2.1 hd (hl.2.2 _ _ hv) (kk p e R s m args below meth c H locs ls C hH hS hl)
theorem z_dload_n {j : Fin 4} {x : UInt64} (hd : decode mi.2.1 pc = .ok (.dload_n j, 1)) (hv : lv[(j : Nat)]? = some (some (.double x))) (kk : zX Γ mi d mc ms (pc + 1) (lv) (.double x :: st) G (k) (n) Post) : zX Γ mi d mc ms (pc) (lv) (st) G (k) (n) Post := fun p e R s m args below meth c H locs ls C hH hS hl => lv_dload_n C.1 C.2.1 hd rfl (hl.2.2 _ _ hv) (kk p e R s m args below meth c H locs ls C hH hS hl)
theorem z_dload {j : Nat} {x : UInt64} (hd : decode mi.2.1 pc = .ok (.dload j, 2)) (hv : lv[j]? = some (some (.double x))) (kk : zX Γ mi d mc ms (pc + 2) (lv) (.double x :: st) G (k) (n) Post) : zX Γ mi d mc ms (pc) (lv) (st) G (k) (n) Post := fun p e R s m args below meth c H locs ls C hH hS hl => lv_dload C.1 C.2.1 hd (hl.2.2 _ _ hv) (kk p e R s m args below meth c H locs ls C hH hS hl)
theorem z_lload_n {j : Fin 4} {x : Int64} (hd : decode mi.2.1 pc = .ok (.lload_n j, 1)) (hv : lv[(j : Nat)]? = some (some (.long x))) (kk : zX Γ mi d mc ms (pc + 1) (lv) (.long x :: st) G (k) (n) Post) : zX Γ mi d mc ms (pc) (lv) (st) G (k) (n) Post := fun p e R s m args below meth c H locs ls C hH hS hl => lv_lload_n C.1 C.2.1 hd rfl (hl.2.2 _ _ hv) (kk p e R s m args below meth c H locs ls C hH hS hl)
theorem z_lload {j : Nat} {x : Int64} (hd : decode mi.2.1 pc = .ok (.lload j, 2)) (hv : lv[j]? = some (some (.long x))) (kk : zX Γ mi d mc ms (pc + 2) (lv) (.long x :: st) G (k) (n) Post) : zX Γ mi d mc ms (pc) (lv) (st) G (k) (n) Post := fun p e R s m args below meth c H locs ls C hH hS hl => lv_lload C.1 C.2.1 hd (hl.2.2 _ _ hv) (kk p e R s m args below meth c H locs ls C hH hS hl)
theorem z_istore_n {j : Fin 4} {x : Int32} (hd : decode mi.2.1 pc = .ok (.istore_n j, 1)) (hn : (j : Nat) < mi.2.2.1) (hok : zok lv j = true) (kk : zX Γ mi d mc ms (pc + 1) (lv.set j (some (.int x))) (st) G (k) (n) Post) : zX Γ mi d mc ms (pc) (lv) (.int x :: st) G (k) (n) Post := fun p e R s m args below meth c H locs ls C hH hS hl => lv_istore_n C.1 C.2.1 hd rfl hl.has hn rfl (fun ls1 h1 => kk p e R s m args below meth c H locs ls1 C hH hS (zlv.st1 hok h1))
theorem z_istore {j : Nat} {x : Int32} (hd : decode mi.2.1 pc = .ok (.istore j, 2)) (hn : j < mi.2.2.1) (hok : zok lv j = true) (kk : zX Γ mi d mc ms (pc + 2) (lv.set j (some (.int x))) (st) G (k) (n) Post) : zX Γ mi d mc ms (pc) (lv) (.int x :: st) G (k) (n) Post := fun p e R s m args below meth c H locs ls C hH hS hl => lv_istore C.1 C.2.1 hd hl.has hn rfl (fun ls1 h1 => kk p e R s m args below meth c H locs ls1 C hH hS (zlv.st1 hok h1))
theorem z_astore_n {j : Fin 4} {x : Nat} (hd : decode mi.2.1 pc = .ok (.astore_n j, 1)) (hn : (j : Nat) < mi.2.2.1) (hok : zok lv j = true) (kk : zX Γ mi d mc ms (pc + 1) (lv.set j (some (.ref x))) (st) G (k) (n) Post) : zX Γ mi d mc ms (pc) (lv) (.ref x :: st) G (k) (n) Post := fun p e R s m args below meth c H locs ls C hH hS hl => lv_astore_n C.1 C.2.1 hd rfl hl.has hn rfl (fun ls1 h1 => kk p e R s m args below meth c H locs ls1 C hH hS (zlv.st1 hok h1))
theorem z_astore {j : Nat} {x : Nat} (hd : decode mi.2.1 pc = .ok (.astore j, 2)) (hn : j < mi.2.2.1) (hok : zok lv j = true) (kk : zX Γ mi d mc ms (pc + 2) (lv.set j (some (.ref x))) (st) G (k) (n) Post) : zX Γ mi d mc ms (pc) (lv) (.ref x :: st) G (k) (n) Post := fun p e R s m args below meth c H locs ls C hH hS hl => lv_astore C.1 C.2.1 hd hl.has hn rfl (fun ls1 h1 => kk p e R s m args below meth c H locs ls1 C hH hS (zlv.st1 hok h1))
theorem z_fstore_n {j : Fin 4} {x : UInt32} (hd : decode mi.2.1 pc = .ok (.fstore_n j, 1)) (hn : (j : Nat) < mi.2.2.1) (hok : zok lv j = true) (kk : zX Γ mi d mc ms (pc + 1) (lv.set j (some (.float x))) (st) G (k) (n) Post) : zX Γ mi d mc ms (pc) (lv) (.float x :: st) G (k) (n) Post := fun p e R s m args below meth c H locs ls C hH hS hl => lv_fstore_n C.1 C.2.1 hd rfl hl.has hn rfl (fun ls1 h1 => kk p e R s m args below meth c H locs ls1 C hH hS (zlv.st1 hok h1))
theorem z_fstore {j : Nat} {x : UInt32} (hd : decode mi.2.1 pc = .ok (.fstore j, 2)) (hn : j < mi.2.2.1) (hok : zok lv j = true) (kk : zX Γ mi d mc ms (pc + 2) (lv.set j (some (.float x))) (st) G (k) (n) Post) : zX Γ mi d mc ms (pc) (lv) (.float x :: st) G (k) (n) Post := fun p e R s m args below meth c H locs ls C hH hS hl => lv_fstore C.1 C.2.1 hd hl.has hn rfl (fun ls1 h1 => kk p e R s m args below meth c H locs ls1 C hH hS (zlv.st1 hok h1))
theorem z_dstore {j : Nat} {x : UInt64} (hd : decode mi.2.1 pc = .ok (.dstore j, 2)) (hn : j + 1 < mi.2.2.1) (hok : zok lv j = true) (kk : zX Γ mi d mc ms (pc + 2) ((lv.set (j + 1) none).set j (some (.double x))) (st) G (k) (n) Post) : zX Γ mi d mc ms (pc) (lv) (.double x :: st) G (k) (n) Post := fun p e R s m args below meth c H locs ls C hH hS hl => lv_dstore C.1 C.2.1 hd hl.has hn rfl (fun ls1 h1 => kk p e R s m args below meth c H locs ls1 C hH hS (zlv.st2 hok h1))
theorem z_iinc {j : Nat} {b : Int} {x v : Int32} (hd : decode mi.2.1 pc = .ok (.iinc j b, 3)) (hx : lv[j]? = some (some (.int x))) (hv : x + Int32.ofInt b = v) (hn : j < mi.2.2.1) (hok : zok lv j = true) (kk : zX Γ mi d mc ms (pc + 3) (lv.set j (some (.int v))) (st) G (k) (n) Post) : zX Γ mi d mc ms (pc) (lv) (st) G (k) (n) Post := by
  intro p e R s m args below meth c H locs ls C hH hS hl
  obtain ⟨z, hz⟩ := List.getElem?_of_mem (zkn_mem hx)
  exact lv_iinc C.1 C.2.1 hd hl.has hz hv hn rfl (fun ls1 h1 => kk p e R s m args below meth c H locs ls1 C hH hS (zlv.st1 hok h1))
theorem z_iadd {x y : Int32} (hd : decode mi.2.1 pc = .ok (.iadd, 1))  (kk : zX Γ mi d mc ms (pc + 1) (lv) (.int (x + y) :: st) G (k) (n) Post) : zX Γ mi d mc ms (pc) (lv) (.int y :: .int x :: st) G (k) (n) Post := fun p e R s m args below meth c H locs ls C hH hS hl => lv_iadd C.1 C.2.1 hd (kk p e R s m args below meth c H locs ls C hH hS hl)
theorem z_isub {x y : Int32} (hd : decode mi.2.1 pc = .ok (.isub, 1))  (kk : zX Γ mi d mc ms (pc + 1) (lv) (.int (x - y) :: st) G (k) (n) Post) : zX Γ mi d mc ms (pc) (lv) (.int y :: .int x :: st) G (k) (n) Post := fun p e R s m args below meth c H locs ls C hH hS hl => lv_isub C.1 C.2.1 hd (kk p e R s m args below meth c H locs ls C hH hS hl)
theorem z_imul {x y : Int32} (hd : decode mi.2.1 pc = .ok (.imul, 1))  (kk : zX Γ mi d mc ms (pc + 1) (lv) (.int (x * y) :: st) G (k) (n) Post) : zX Γ mi d mc ms (pc) (lv) (.int y :: .int x :: st) G (k) (n) Post := fun p e R s m args below meth c H locs ls C hH hS hl => lv_imul C.1 C.2.1 hd (kk p e R s m args below meth c H locs ls C hH hS hl)
theorem z_iand {x y : Int32} (hd : decode mi.2.1 pc = .ok (.iand, 1))  (kk : zX Γ mi d mc ms (pc + 1) (lv) (.int (x &&& y) :: st) G (k) (n) Post) : zX Γ mi d mc ms (pc) (lv) (.int y :: .int x :: st) G (k) (n) Post := fun p e R s m args below meth c H locs ls C hH hS hl => lv_iand C.1 C.2.1 hd (kk p e R s m args below meth c H locs ls C hH hS hl)
theorem z_ior {x y : Int32} (hd : decode mi.2.1 pc = .ok (.ior, 1))  (kk : zX Γ mi d mc ms (pc + 1) (lv) (.int (x ||| y) :: st) G (k) (n) Post) : zX Γ mi d mc ms (pc) (lv) (.int y :: .int x :: st) G (k) (n) Post := fun p e R s m args below meth c H locs ls C hH hS hl => lv_ior C.1 C.2.1 hd (kk p e R s m args below meth c H locs ls C hH hS hl)
theorem z_ixor {x y : Int32} (hd : decode mi.2.1 pc = .ok (.ixor, 1))  (kk : zX Γ mi d mc ms (pc + 1) (lv) (.int (x ^^^ y) :: st) G (k) (n) Post) : zX Γ mi d mc ms (pc) (lv) (.int y :: .int x :: st) G (k) (n) Post := fun p e R s m args below meth c H locs ls C hH hS hl => lv_ixor C.1 C.2.1 hd (kk p e R s m args below meth c H locs ls C hH hS hl)
theorem z_idiv {x y : Int32} (hd : decode mi.2.1 pc = .ok (.idiv, 1)) (hne : ¬ y = 0) (kk : zX Γ mi d mc ms (pc + 1) (lv) (.int (x / y) :: st) G (k) (n) Post) : zX Γ mi d mc ms (pc) (lv) (.int y :: .int x :: st) G (k) (n) Post := fun p e R s m args below meth c H locs ls C hH hS hl => lv_idiv C.1 C.2.1 hd hne (kk p e R s m args below meth c H locs ls C hH hS hl)
theorem z_irem {x y : Int32} (hd : decode mi.2.1 pc = .ok (.irem, 1)) (hne : ¬ y = 0) (kk : zX Γ mi d mc ms (pc + 1) (lv) (.int (x - x / y * y) :: st) G (k) (n) Post) : zX Γ mi d mc ms (pc) (lv) (.int y :: .int x :: st) G (k) (n) Post := fun p e R s m args below meth c H locs ls C hH hS hl => lv_irem C.1 C.2.1 hd hne (kk p e R s m args below meth c H locs ls C hH hS hl)
theorem z_ineg {x : Int32} (hd : decode mi.2.1 pc = .ok (.ineg, 1))  (kk : zX Γ mi d mc ms (pc + 1) (lv) (.int (-x) :: st) G (k) (n) Post) : zX Γ mi d mc ms (pc) (lv) (.int x :: st) G (k) (n) Post := fun p e R s m args below meth c H locs ls C hH hS hl => lv_ineg C.1 C.2.1 hd (kk p e R s m args below meth c H locs ls C hH hS hl)
theorem z_ishl {x y : Int32} (hd : decode mi.2.1 pc = .ok (.ishl, 1))  (kk : zX Γ mi d mc ms (pc + 1) (lv) (.int (x <<< (y &&& 31)) :: st) G (k) (n) Post) : zX Γ mi d mc ms (pc) (lv) (.int y :: .int x :: st) G (k) (n) Post := fun p e R s m args below meth c H locs ls C hH hS hl => lv_ishl C.1 C.2.1 hd (kk p e R s m args below meth c H locs ls C hH hS hl)
theorem z_ishr {x y : Int32} (hd : decode mi.2.1 pc = .ok (.ishr, 1))  (kk : zX Γ mi d mc ms (pc + 1) (lv) (.int (x >>> (y &&& 31)) :: st) G (k) (n) Post) : zX Γ mi d mc ms (pc) (lv) (.int y :: .int x :: st) G (k) (n) Post := fun p e R s m args below meth c H locs ls C hH hS hl => lv_ishr C.1 C.2.1 hd (kk p e R s m args below meth c H locs ls C hH hS hl)
theorem z_i2l {x : Int32} (hd : decode mi.2.1 pc = .ok (.i2l, 1))  (kk : zX Γ mi d mc ms (pc + 1) (lv) (.long x.toInt64 :: st) G (k) (n) Post) : zX Γ mi d mc ms (pc) (lv) (.int x :: st) G (k) (n) Post := fun p e R s m args below meth c H locs ls C hH hS hl => lv_i2l C.1 C.2.1 hd rfl (kk p e R s m args below meth c H locs ls C hH hS hl)
theorem z_i2b {x : Int32} (hd : decode mi.2.1 pc = .ok (.i2b, 1))  (kk : zX Γ mi d mc ms (pc + 1) (lv) (.int x.toInt8.toInt32 :: st) G (k) (n) Post) : zX Γ mi d mc ms (pc) (lv) (.int x :: st) G (k) (n) Post := fun p e R s m args below meth c H locs ls C hH hS hl => lv_i2b C.1 C.2.1 hd rfl (kk p e R s m args below meth c H locs ls C hH hS hl)
theorem z_i2c {x : Int32} (hd : decode mi.2.1 pc = .ok (.i2c, 1))  (kk : zX Γ mi d mc ms (pc + 1) (lv) (.int (x.toUInt32 % 65536).toInt32 :: st) G (k) (n) Post) : zX Γ mi d mc ms (pc) (lv) (.int x :: st) G (k) (n) Post := fun p e R s m args below meth c H locs ls C hH hS hl => lv_i2c C.1 C.2.1 hd rfl (kk p e R s m args below meth c H locs ls C hH hS hl)
theorem z_dup {v : Value} (hd : decode mi.2.1 pc = .ok (.dup, 1)) (hv : v.category = 1) (kk : zX Γ mi d mc ms (pc + 1) (lv) (v :: v :: st) G (k) (n) Post) : zX Γ mi d mc ms (pc) (lv) (v :: st) G (k) (n) Post := fun p e R s m args below meth c H locs ls C hH hS hl => lv_dup C.1 C.2.1 hd hv (kk p e R s m args below meth c H locs ls C hH hS hl)
theorem z_pop {v : Value} (hd : decode mi.2.1 pc = .ok (.pop, 1)) (hv : v.category = 1) (kk : zX Γ mi d mc ms (pc + 1) (lv) (st) G (k) (n) Post) : zX Γ mi d mc ms (pc) (lv) (v :: st) G (k) (n) Post := fun p e R s m args below meth c H locs ls C hH hS hl => lv_pop C.1 C.2.1 hd hv (kk p e R s m args below meth c H locs ls C hH hS hl)
theorem z_dup_x1 {v w : Value} (hd : decode mi.2.1 pc = .ok (.dup_x1, 1)) (hv : v.category = 1) (hw : w.category = 1) (kk : zX Γ mi d mc ms (pc + 1) (lv) (v :: w :: v :: st) G (k) (n) Post) : zX Γ mi d mc ms (pc) (lv) (v :: w :: st) G (k) (n) Post := fun p e R s m args below meth c H locs ls C hH hS hl => lv_dup_x1 C.1 C.2.1 hd hv hw (kk p e R s m args below meth c H locs ls C hH hS hl)
theorem z_dup2_11 {v w : Value} (hd : decode mi.2.1 pc = .ok (.dup2, 1)) (hv : v.category = 1) (hw : w.category = 1) (kk : zX Γ mi d mc ms (pc + 1) (lv) (v :: w :: v :: w :: st) G (k) (n) Post) : zX Γ mi d mc ms (pc) (lv) (v :: w :: st) G (k) (n) Post := fun p e R s m args below meth c H locs ls C hH hS hl => lv_dup2_11 C.1 C.2.1 hd hv hw (kk p e R s m args below meth c H locs ls C hH hS hl)
theorem z_lcmp {x y : Int64} (hd : decode mi.2.1 pc = .ok (.lcmp, 1))  (kk : zX Γ mi d mc ms (pc + 1) (lv) (.int (lg_cmp x y) :: st) G (k) (n) Post) : zX Γ mi d mc ms (pc) (lv) (.long y :: .long x :: st) G (k) (n) Post := fun p e R s m args below meth c H locs ls C hH hS hl => W.lcmp C.1 C.2.1 hd (kk p e R s m args below meth c H locs ls C hH hS hl)
theorem z_fcmp {x y : UInt32} {op : CmpOp} (hd : decode mi.2.1 pc = .ok (.fcmp op, 1))  (kk : zX Γ mi d mc ms (pc + 1) (lv) (.int (Op.cmpValue (FP.fcmp x y) op) :: st) G (k) (n) Post) : zX Γ mi d mc ms (pc) (lv) (.float y :: .float x :: st) G (k) (n) Post := fun p e R s m args below meth c H locs ls C hH hS hl => lv_fcmp C.1 C.2.1 hd (kk p e R s m args below meth c H locs ls C hH hS hl)
theorem z_dcmp {x y : UInt64} {op : CmpOp} (hd : decode mi.2.1 pc = .ok (.dcmp op, 1))  (kk : zX Γ mi d mc ms (pc + 1) (lv) (.int (Op.cmpValue (FP.dcmp x y) op) :: st) G (k) (n) Post) : zX Γ mi d mc ms (pc) (lv) (.double y :: .double x :: st) G (k) (n) Post := fun p e R s m args below meth c H locs ls C hH hS hl => lv_dcmp C.1 C.2.1 hd (kk p e R s m args below meth c H locs ls C hH hS hl)
theorem z_i2f {x : Int32} (hd : decode mi.2.1 pc = .ok (.i2f, 1))  (kk : zX Γ mi d mc ms (pc + 1) (lv) (.float (FP.i2f x) :: st) G (k) (n) Post) : zX Γ mi d mc ms (pc) (lv) (.int x :: st) G (k) (n) Post := fun p e R s m args below meth c H locs ls C hH hS hl => lv_i2f C.1 C.2.1 hd (kk p e R s m args below meth c H locs ls C hH hS hl)
theorem z_i2d {x : Int32} (hd : decode mi.2.1 pc = .ok (.i2d, 1))  (kk : zX Γ mi d mc ms (pc + 1) (lv) (.double (FP.i2d x) :: st) G (k) (n) Post) : zX Γ mi d mc ms (pc) (lv) (.int x :: st) G (k) (n) Post := fun p e R s m args below meth c H locs ls C hH hS hl => lv_i2d C.1 C.2.1 hd (kk p e R s m args below meth c H locs ls C hH hS hl)
theorem z_f2d {x : UInt32} (hd : decode mi.2.1 pc = .ok (.f2d, 1)) (hne : vf_n64 (FP.f2d x)) (kk : zX Γ mi d mc ms (pc + 1) (lv) (.double (FP.f2d x) :: st) G (k) (n) Post) : zX Γ mi d mc ms (pc) (lv) (.float x :: st) G (k) (n) Post := fun p e R s m args below meth c H locs ls C hH hS hl => lv_f2d C.1 C.2.1 hd hne (kk p e R s m args below meth c H locs ls C hH hS hl)
theorem z_fdiv {x y : UInt32} (hd : decode mi.2.1 pc = .ok (.fdiv, 1)) (hne : vf_n32 (FP.fdiv x y)) (kk : zX Γ mi d mc ms (pc + 1) (lv) (.float (FP.fdiv x y) :: st) G (k) (n) Post) : zX Γ mi d mc ms (pc) (lv) (.float y :: .float x :: st) G (k) (n) Post := fun p e R s m args below meth c H locs ls C hH hS hl => lv_fdiv C.1 C.2.1 hd hne (kk p e R s m args below meth c H locs ls C hH hS hl)
theorem z_ddiv {x y : UInt64} (hd : decode mi.2.1 pc = .ok (.ddiv, 1)) (hne : vf_n64 (FP.ddiv x y)) (kk : zX Γ mi d mc ms (pc + 1) (lv) (.double (FP.ddiv x y) :: st) G (k) (n) Post) : zX Γ mi d mc ms (pc) (lv) (.double y :: .double x :: st) G (k) (n) Post := fun p e R s m args below meth c H locs ls C hH hS hl => lv_ddiv C.1 C.2.1 hd hne (kk p e R s m args below meth c H locs ls C hH hS hl)
theorem z_if_eq {x : Int32} {off : Int} {tgt : Nat} (hd : decode mi.2.1 pc = .ok (.ifCond .eq off, 3)) (ht : (pc : Int) + off = (tgt : Int)) (kt : x = 0 → zX Γ mi d mc ms (tgt) (lv) (st) G (k) (n) Post) (kf : ¬ (x = 0) → zX Γ mi d mc ms (pc + 3) (lv) (st) G (k) (n) Post) : zX Γ mi d mc ms (pc) (lv) (.int x :: st) G (k) (n) Post := fun p e R s m args below meth c H locs ls C hH hS hl => lv_if_eq C.1 C.2.1 hd ht (fun h => kt h p e R s m args below meth c H locs ls C hH hS hl) (fun h => kf h p e R s m args below meth c H locs ls C hH hS hl)
theorem z_icmp_eq {x y : Int32} {off : Int} {tgt : Nat} (hd : decode mi.2.1 pc = .ok (.if_icmp .eq off, 3)) (ht : (pc : Int) + off = (tgt : Int)) (kt : x = y → zX Γ mi d mc ms (tgt) (lv) (st) G (k) (n) Post) (kf : ¬ (x = y) → zX Γ mi d mc ms (pc + 3) (lv) (st) G (k) (n) Post) : zX Γ mi d mc ms (pc) (lv) (.int y :: .int x :: st) G (k) (n) Post := fun p e R s m args below meth c H locs ls C hH hS hl => lv_icmp_eq C.1 C.2.1 hd ht (fun h => kt h p e R s m args below meth c H locs ls C hH hS hl) (fun h => kf h p e R s m args below meth c H locs ls C hH hS hl)
theorem z_if_ne {x : Int32} {off : Int} {tgt : Nat} (hd : decode mi.2.1 pc = .ok (.ifCond .ne off, 3)) (ht : (pc : Int) + off = (tgt : Int)) (kt : ¬ x = 0 → zX Γ mi d mc ms (tgt) (lv) (st) G (k) (n) Post) (kf : x = 0 → zX Γ mi d mc ms (pc + 3) (lv) (st) G (k) (n) Post) : zX Γ mi d mc ms (pc) (lv) (.int x :: st) G (k) (n) Post := fun p e R s m args below meth c H locs ls C hH hS hl => lv_if_ne C.1 C.2.1 hd ht (fun h => kt h p e R s m args below meth c H locs ls C hH hS hl) (fun h => kf h p e R s m args below meth c H locs ls C hH hS hl)
theorem z_icmp_ne {x y : Int32} {off : Int} {tgt : Nat} (hd : decode mi.2.1 pc = .ok (.if_icmp .ne off, 3)) (ht : (pc : Int) + off = (tgt : Int)) (kt : ¬ x = y → zX Γ mi d mc ms (tgt) (lv) (st) G (k) (n) Post) (kf : x = y → zX Γ mi d mc ms (pc + 3) (lv) (st) G (k) (n) Post) : zX Γ mi d mc ms (pc) (lv) (.int y :: .int x :: st) G (k) (n) Post := fun p e R s m args below meth c H locs ls C hH hS hl => lv_icmp_ne C.1 C.2.1 hd ht (fun h => kt h p e R s m args below meth c H locs ls C hH hS hl) (fun h => kf h p e R s m args below meth c H locs ls C hH hS hl)
theorem z_if_lt {x : Int32} {off : Int} {tgt : Nat} (hd : decode mi.2.1 pc = .ok (.ifCond .lt off, 3)) (ht : (pc : Int) + off = (tgt : Int)) (kt : x < 0 → zX Γ mi d mc ms (tgt) (lv) (st) G (k) (n) Post) (kf : ¬ (x < 0) → zX Γ mi d mc ms (pc + 3) (lv) (st) G (k) (n) Post) : zX Γ mi d mc ms (pc) (lv) (.int x :: st) G (k) (n) Post := fun p e R s m args below meth c H locs ls C hH hS hl => lv_if_lt C.1 C.2.1 hd ht (fun h => kt h p e R s m args below meth c H locs ls C hH hS hl) (fun h => kf h p e R s m args below meth c H locs ls C hH hS hl)
theorem z_icmp_lt {x y : Int32} {off : Int} {tgt : Nat} (hd : decode mi.2.1 pc = .ok (.if_icmp .lt off, 3)) (ht : (pc : Int) + off = (tgt : Int)) (kt : x < y → zX Γ mi d mc ms (tgt) (lv) (st) G (k) (n) Post) (kf : ¬ (x < y) → zX Γ mi d mc ms (pc + 3) (lv) (st) G (k) (n) Post) : zX Γ mi d mc ms (pc) (lv) (.int y :: .int x :: st) G (k) (n) Post := fun p e R s m args below meth c H locs ls C hH hS hl => lv_icmp_lt C.1 C.2.1 hd ht (fun h => kt h p e R s m args below meth c H locs ls C hH hS hl) (fun h => kf h p e R s m args below meth c H locs ls C hH hS hl)
theorem z_if_ge {x : Int32} {off : Int} {tgt : Nat} (hd : decode mi.2.1 pc = .ok (.ifCond .ge off, 3)) (ht : (pc : Int) + off = (tgt : Int)) (kt : 0 ≤ x → zX Γ mi d mc ms (tgt) (lv) (st) G (k) (n) Post) (kf : ¬ (0 ≤ x) → zX Γ mi d mc ms (pc + 3) (lv) (st) G (k) (n) Post) : zX Γ mi d mc ms (pc) (lv) (.int x :: st) G (k) (n) Post := fun p e R s m args below meth c H locs ls C hH hS hl => lv_if_ge C.1 C.2.1 hd ht (fun h => kt h p e R s m args below meth c H locs ls C hH hS hl) (fun h => kf h p e R s m args below meth c H locs ls C hH hS hl)
theorem z_icmp_ge {x y : Int32} {off : Int} {tgt : Nat} (hd : decode mi.2.1 pc = .ok (.if_icmp .ge off, 3)) (ht : (pc : Int) + off = (tgt : Int)) (kt : y ≤ x → zX Γ mi d mc ms (tgt) (lv) (st) G (k) (n) Post) (kf : ¬ (y ≤ x) → zX Γ mi d mc ms (pc + 3) (lv) (st) G (k) (n) Post) : zX Γ mi d mc ms (pc) (lv) (.int y :: .int x :: st) G (k) (n) Post := fun p e R s m args below meth c H locs ls C hH hS hl => lv_icmp_ge C.1 C.2.1 hd ht (fun h => kt h p e R s m args below meth c H locs ls C hH hS hl) (fun h => kf h p e R s m args below meth c H locs ls C hH hS hl)
theorem z_if_gt {x : Int32} {off : Int} {tgt : Nat} (hd : decode mi.2.1 pc = .ok (.ifCond .gt off, 3)) (ht : (pc : Int) + off = (tgt : Int)) (kt : 0 < x → zX Γ mi d mc ms (tgt) (lv) (st) G (k) (n) Post) (kf : ¬ (0 < x) → zX Γ mi d mc ms (pc + 3) (lv) (st) G (k) (n) Post) : zX Γ mi d mc ms (pc) (lv) (.int x :: st) G (k) (n) Post := fun p e R s m args below meth c H locs ls C hH hS hl => lv_if_gt C.1 C.2.1 hd ht (fun h => kt h p e R s m args below meth c H locs ls C hH hS hl) (fun h => kf h p e R s m args below meth c H locs ls C hH hS hl)
theorem z_icmp_gt {x y : Int32} {off : Int} {tgt : Nat} (hd : decode mi.2.1 pc = .ok (.if_icmp .gt off, 3)) (ht : (pc : Int) + off = (tgt : Int)) (kt : y < x → zX Γ mi d mc ms (tgt) (lv) (st) G (k) (n) Post) (kf : ¬ (y < x) → zX Γ mi d mc ms (pc + 3) (lv) (st) G (k) (n) Post) : zX Γ mi d mc ms (pc) (lv) (.int y :: .int x :: st) G (k) (n) Post := fun p e R s m args below meth c H locs ls C hH hS hl => lv_icmp_gt C.1 C.2.1 hd ht (fun h => kt h p e R s m args below meth c H locs ls C hH hS hl) (fun h => kf h p e R s m args below meth c H locs ls C hH hS hl)
theorem z_if_le {x : Int32} {off : Int} {tgt : Nat} (hd : decode mi.2.1 pc = .ok (.ifCond .le off, 3)) (ht : (pc : Int) + off = (tgt : Int)) (kt : x ≤ 0 → zX Γ mi d mc ms (tgt) (lv) (st) G (k) (n) Post) (kf : ¬ (x ≤ 0) → zX Γ mi d mc ms (pc + 3) (lv) (st) G (k) (n) Post) : zX Γ mi d mc ms (pc) (lv) (.int x :: st) G (k) (n) Post := fun p e R s m args below meth c H locs ls C hH hS hl => lv_if_le C.1 C.2.1 hd ht (fun h => kt h p e R s m args below meth c H locs ls C hH hS hl) (fun h => kf h p e R s m args below meth c H locs ls C hH hS hl)
theorem z_icmp_le {x y : Int32} {off : Int} {tgt : Nat} (hd : decode mi.2.1 pc = .ok (.if_icmp .le off, 3)) (ht : (pc : Int) + off = (tgt : Int)) (kt : x ≤ y → zX Γ mi d mc ms (tgt) (lv) (st) G (k) (n) Post) (kf : ¬ (x ≤ y) → zX Γ mi d mc ms (pc + 3) (lv) (st) G (k) (n) Post) : zX Γ mi d mc ms (pc) (lv) (.int y :: .int x :: st) G (k) (n) Post := fun p e R s m args below meth c H locs ls C hH hS hl => lv_icmp_le C.1 C.2.1 hd ht (fun h => kt h p e R s m args below meth c H locs ls C hH hS hl) (fun h => kf h p e R s m args below meth c H locs ls C hH hS hl)
theorem z_goto {off : Int} {tgt : Nat} (hd : decode mi.2.1 pc = .ok (.goto off, 3)) (ht : (pc : Int) + off = (tgt : Int)) (kk : zX Γ mi d mc ms (tgt) (lv) (st) G (k) (n) Post) : zX Γ mi d mc ms (pc) (lv) (st) G (k) (n) Post := fun p e R s m args below meth c H locs ls C hH hS hl => lv_goto C.1 C.2.1 hd ht (kk p e R s m args below meth c H locs ls C hH hS hl)
theorem z_ifnull_r {x : Nat} {off : Int} (hd : decode mi.2.1 pc = .ok (.ifnull off, 3)) (kk : zX Γ mi d mc ms (pc + 3) (lv) (st) G (k) (n) Post) : zX Γ mi d mc ms (pc) (lv) (.ref x :: st) G (k) (n) Post := fun p e R s m args below meth c H locs ls C hH hS hl => lv_ifnull C.1 C.2.1 hd (kk p e R s m args below meth c H locs ls C hH hS hl)
theorem z_ifnonnull_r {x : Nat} {off : Int} {tgt : Nat} (hd : decode mi.2.1 pc = .ok (.ifnonnull off, 3)) (ht : (pc : Int) + off = (tgt : Int)) (kk : zX Γ mi d mc ms (tgt) (lv) (st) G (k) (n) Post) : zX Γ mi d mc ms (pc) (lv) (.ref x :: st) G (k) (n) Post := fun p e R s m args below meth c H locs ls C hH hS hl => lv_ifnonnull C.1 C.2.1 hd ht (kk p e R s m args below meth c H locs ls C hH hS hl)
theorem z_tableIn {dflt lo hi : Int} {offs : Array Int} {len : Nat} {x : Int32} {off : Int} {tgt : Nat} (hd : decode mi.2.1 pc = .ok (.tableswitch dflt lo hi offs, len)) (h1 : ¬ x.toInt < lo) (h2 : ¬ hi < x.toInt) (ho : offs[(x.toInt - lo).toNat]? = some off) (ht : (pc : Int) + off = (tgt : Int)) (kk : zX Γ mi d mc ms (tgt) (lv) (st) G (k) (n) Post) : zX Γ mi d mc ms (pc) (lv) (.int x :: st) G (k) (n) Post := fun p e R s m args below meth c H locs ls C hH hS hl => lv_tableIn C.1 C.2.1 hd h1 h2 ho ht (kk p e R s m args below meth c H locs ls C hH hS hl)
theorem z_tableOut {dflt lo hi : Int} {offs : Array Int} {len : Nat} {x : Int32} {tgt : Nat} (hd : decode mi.2.1 pc = .ok (.tableswitch dflt lo hi offs, len)) (h : x.toInt < lo ∨ hi < x.toInt) (ht : (pc : Int) + dflt = (tgt : Int)) (kk : zX Γ mi d mc ms (tgt) (lv) (st) G (k) (n) Post) : zX Γ mi d mc ms (pc) (lv) (.int x :: st) G (k) (n) Post := fun p e R s m args below meth c H locs ls C hH hS hl => lv_tableOut C.1 C.2.1 hd h ht (kk p e R s m args below meth c H locs ls C hH hS hl)
theorem z_lookup {dflt : Int} {ps : Array (Int × Int)} {len : Nat} {x : Int32} {off : Int} {tgt : Nat} (hd : decode mi.2.1 pc = .ok (.lookupswitch dflt ps, len)) (hp : (ps.toList.zip (ps.toList.drop 1)).all (fun (a, next) => a.1 < next.1) = true) (ho : Op.lookupswitch.offset ps.toList dflt x.toInt = off) (ht : (pc : Int) + off = (tgt : Int)) (kk : zX Γ mi d mc ms (tgt) (lv) (st) G (k) (n) Post) : zX Γ mi d mc ms (pc) (lv) (.int x :: st) G (k) (n) Post := fun p e R s m args below meth c H locs ls C hH hS hl => lv_lookup C.1 C.2.1 hd hp ho ht (kk p e R s m args below meth c H locs ls C hH hS hl)
theorem z_ldc {j : Nat} {v : Int32} (hd : decode mi.2.1 pc = .ok (.ldc j, 2)) (hc : Cond.constant mi.1.cls j v ∈ lw_good) (kk : zX Γ mi d mc ms (pc + 2) (lv) (.int v :: st) G (k) (n) Post) : zX Γ mi d mc ms (pc) (lv) (st) G (k) (n) Post := fun p e R s m args below meth c H locs ls C hH hS hl => lv_ldc C.1 C.2.1 C.2.2.2.1 (C.2.2.2.2.1 _ hc) hd (kk p e R s m args below meth c H locs ls C hH hS hl)
theorem z_ldcS {j i : Nat} {tx : String} (hd : decode mi.2.1 pc = .ok (.ldc j, 2)) (hi : zStrs[i]? = some (mi.1.cls, j, tx)) (kk : zX Γ mi d mc ms (pc + 2) (lv) (.ref (Γ.2.2.2.1 i) :: st) G (k) (n) Post) : zX Γ mi d mc ms (pc) (lv) (st) G (k) (n) Post := fun p e R s m args below meth c H locs ls C hH hS hl => va_ldcS C.1 C.2.1 C.2.2.2.1 (C.2.2.2.2.2.2.2.2.2.1.2.2.2.2.1 i _ hi) hd (kk p e R s m args below meth c H locs ls C hH hS hl)
theorem z_get {j ci kf a : Nat} {fs : List Value} {v : Value} (hd : decode mi.2.1 pc = .ok (.getfield j, 3)) (hf : zFLr mi.1.cls j ci kf) (hG : G a = some (.inr (ci, fs))) (hv : fs[kf]? = some v) (kk : zX Γ mi d mc ms (pc + 3) (lv) (v :: st) G (k) (n) Post) : zX Γ mi d mc ms (pc) (lv) (.ref a :: st) G (k) (n) Post := by
  intro p e R s m args below meth c H locs ls C hH hS hl
  obtain ⟨Cn, T, N, ty, hc, hk, hlk⟩ := hf
  obtain ⟨ws, tys, h1, h2, h3, h4⟩ := id hH
  obtain ⟨q0, hq⟩ := h4.obj hG
  exact va_get C.1 C.2.1 C.2.2.2.2.1 hc.2.1 C.2.2.2.1 h3 h1 q0 hq hc.1 kf hk (C.2.2.2.2.1 _ hlk) (fun _ h => h) hv hd (kk p e R s m args below meth c H locs ls C hH hS hl)
theorem z_put {j ci kf a : Nat} {fs : List Value} {v : Value} {fty : FieldType} (hd : decode mi.2.1 pc = .ok (.putfield j, 3)) (hf : zFL mi.1.cls j ci kf false fty) (hG : G a = some (.inr (ci, fs))) (hn : narrow fty v = v) (hfit : fits fty v = true) (hl9 : kf < fs.length) (kk : zX Γ mi d mc ms (pc + 3) (lv) (st) (zset G a (.inr (ci, fs.set kf v))) (k) (n) Post) : zX Γ mi d mc ms (pc) (lv) (v :: .ref a :: st) G (k) (n) Post := by
  intro p e R s m args below meth c H locs ls C hH hS hl
  obtain ⟨Cn, T, N, ty, hc, hk, hlk, hfin, hty, hown⟩ := hf
  obtain ⟨ws, tys, h1, h2, h3, h4⟩ := id hH
  obtain ⟨q0, hq⟩ := h4.obj hG
  refine va_put C.1 C.2.1 C.2.2.2.2.1 hc.2.1 ty hc.2.2.1 hc.2.2.2.1 C.2.2.2.1 h3 h1 h2 hS q0 hq hc.1 kf hk (C.2.2.2.2.1 _ hlk) (fun _ h => h) hfin (ty := fty) (by rw [← hty]; exact hc.2.2.1 kf hk) hn hfit hl9 hd (fun H1 locs1 g1 g2 g3 => ?_)
  exact kk p e R s m args below meth c H1 locs1 ls C ⟨_, tys, g1, g2, h3, h4.setO hq _⟩ g3 hl
theorem z_putF {j ci kf a : Nat} {fs : List Value} {v : Value} {fty : FieldType} (hd : decode mi.2.1 pc = .ok (.putfield j, 3)) (hf : zFL mi.1.cls j ci kf true fty) (hini : mi.1.name = "<init>") (hG : G a = some (.inr (ci, fs))) (hn : narrow fty v = v) (hfit : fits fty v = true) (hl9 : kf < fs.length) (kk : zX Γ mi d mc ms (pc + 3) (lv) (st) (zset G a (.inr (ci, fs.set kf v))) (k) (n) Post) : zX Γ mi d mc ms (pc) (lv) (v :: .ref a :: st) G (k) (n) Post := by
  intro p e R s m args below meth c H locs ls C hH hS hl
  obtain ⟨Cn, T, N, ty, hc, hk, hlk, hfin, hty, hown⟩ := hf
  obtain ⟨ws, tys, h1, h2, h3, h4⟩ := id hH
  obtain ⟨q0, hq⟩ := h4.obj hG
  refine va_putF C.1 C.2.1 C.2.2.2.2.1 hc.2.1 ty hc.2.2.1 hc.2.2.2.1 C.2.2.2.1 h3 h1 h2 hS q0 hq hc.1 kf hk (C.2.2.2.2.1 _ hlk) (fun _ h => h) hfin (C.2.2.2.2.2.2.2.1.trans hini) (by rw [if_pos rfl] at hown; exact hown) (ty := fty) (by rw [← hty]; exact hc.2.2.1 kf hk) hn hfit hl9 hd (fun H1 locs1 g1 g2 g3 => ?_)
  exact kk p e R s m args below meth c H1 locs1 ls C ⟨_, tys, g1, g2, h3, h4.setO hq _⟩ g3 hl
theorem z_iald {a nA : Nat} {f : Nat → Int32} {i : Int32} (hd : decode mi.2.1 pc = .ok (.iaload, 1)) (hG : G a = some (.inl (.int, nA, .inl f))) (hi : vp_in i nA) (kk : zX Γ mi d mc ms (pc + 1) (lv) (.int (f i.toNatClampNeg) :: st) G (k) (n) Post) : zX Γ mi d mc ms (pc) (lv) (.int i :: .ref a :: st) G (k) (n) Post := by
  intro p e R s m args below meth c H locs ls C hH hS hl
  obtain ⟨ws, tys, h1, h2, h3, h4⟩ := id hH
  obtain ⟨cA, q0, t0, hq, ht⟩ := h4.arr hG
  exact va_iald C.1 C.2.1 h3 h1 q0 t0 hq ht hi hd (kk p e R s m args below meth c H locs ls C hH hS hl)
theorem z_cald {a nA : Nat} {f : Nat → Int32} {i : Int32} (hd : decode mi.2.1 pc = .ok (.caload, 1)) (hG : G a = some (.inl (.char, nA, .inl f))) (hi : vp_in i nA) (kk : zX Γ mi d mc ms (pc + 1) (lv) (.int (f i.toNatClampNeg) :: st) G (k) (n) Post) : zX Γ mi d mc ms (pc) (lv) (.int i :: .ref a :: st) G (k) (n) Post := by
  intro p e R s m args below meth c H locs ls C hH hS hl
  obtain ⟨ws, tys, h1, h2, h3, h4⟩ := id hH
  obtain ⟨cA, q0, t0, hq, ht⟩ := h4.arr hG
  exact va_cald C.1 C.2.1 h3 h1 q0 t0 hq ht hi hd (kk p e R s m args below meth c H locs ls C hH hS hl)
theorem z_bald {a nA : Nat} {f : Nat → Int32} {i : Int32} (hd : decode mi.2.1 pc = .ok (.baload, 1)) (hG : G a = some (.inl (.byte, nA, .inl f))) (hi : vp_in i nA) (kk : zX Γ mi d mc ms (pc + 1) (lv) (.int (f i.toNatClampNeg) :: st) G (k) (n) Post) : zX Γ mi d mc ms (pc) (lv) (.int i :: .ref a :: st) G (k) (n) Post := by
  intro p e R s m args below meth c H locs ls C hH hS hl
  obtain ⟨ws, tys, h1, h2, h3, h4⟩ := id hH
  obtain ⟨cA, q0, t0, hq, ht⟩ := h4.arr hG
  exact va_bald C.1 C.2.1 h3 h1 q0 t0 hq ht hi hd (kk p e R s m args below meth c H locs ls C hH hS hl)
theorem z_lald {a nA : Nat} {f : Nat → Int64} {i : Int32} (hd : decode mi.2.1 pc = .ok (.laload, 1)) (hG : G a = some (.inl (.long, nA, .inr (.inl f)))) (hi : vp_in i nA) (kk : zX Γ mi d mc ms (pc + 1) (lv) (.long (f i.toNatClampNeg) :: st) G (k) (n) Post) : zX Γ mi d mc ms (pc) (lv) (.int i :: .ref a :: st) G (k) (n) Post := by
  intro p e R s m args below meth c H locs ls C hH hS hl
  obtain ⟨ws, tys, h1, h2, h3, h4⟩ := id hH
  obtain ⟨cA, q0, t0, hq, ht⟩ := h4.arr hG
  exact va_lald C.1 C.2.1 h3 h1 q0 t0 hq ht hi hd (kk p e R s m args below meth c H locs ls C hH hS hl)
theorem z_dald {a nA : Nat} {f : Nat → UInt64} {i : Int32} (hd : decode mi.2.1 pc = .ok (.daload, 1)) (hG : G a = some (.inl (.double, nA, .inr (.inr (.inr (.inl f)))))) (hi : vp_in i nA) (kk : zX Γ mi d mc ms (pc + 1) (lv) (.double (f i.toNatClampNeg) :: st) G (k) (n) Post) : zX Γ mi d mc ms (pc) (lv) (.int i :: .ref a :: st) G (k) (n) Post := by
  intro p e R s m args below meth c H locs ls C hH hS hl
  obtain ⟨ws, tys, h1, h2, h3, h4⟩ := id hH
  obtain ⟨cA, q0, t0, hq, ht⟩ := h4.arr hG
  exact va_dald C.1 C.2.1 h3 h1 q0 t0 hq ht hi hd (kk p e R s m args below meth c H locs ls C hH hS hl)
theorem z_iast {a nA : Nat} {f : Nat → Int32} {i : Int32} {x : Int32} (hd : decode mi.2.1 pc = .ok (.iastore, 1)) (hG : G a = some (.inl (.int, nA, .inl f))) (hi : vp_in i nA) (kk : zX Γ mi d mc ms (pc + 1) (lv) (st) (zset G a (.inl (.int, nA, .inl (upd f i.toNatClampNeg x)))) (k) (n) Post) : zX Γ mi d mc ms (pc) (lv) (.int x :: .int i :: .ref a :: st) G (k) (n) Post := by
  intro p e R s m args below meth c H locs ls C hH hS hl
  obtain ⟨ws, tys, h1, h2, h3, h4⟩ := id hH
  obtain ⟨cA, q0, t0, hq, ht⟩ := h4.arr hG
  refine va_iast C.1 C.2.1 h3 h1 h2 hS q0 t0 hq ht hi hd (fun H1 locs1 g1 g2 g3 => ?_)
  exact kk p e R s m args below meth c H1 locs1 ls C ⟨_, tys, g1, g2, h3, h4.setA hq ht _⟩ g3 hl
theorem z_cast {a nA : Nat} {f : Nat → Int32} {i : Int32} {x : Int32} (hd : decode mi.2.1 pc = .ok (.castore, 1)) (hG : G a = some (.inl (.char, nA, .inl f))) (hi : vp_in i nA) (kk : zX Γ mi d mc ms (pc + 1) (lv) (st) (zset G a (.inl (.char, nA, .inl (upd f i.toNatClampNeg (vp_nar .char x))))) (k) (n) Post) : zX Γ mi d mc ms (pc) (lv) (.int x :: .int i :: .ref a :: st) G (k) (n) Post := by
  intro p e R s m args below meth c H locs ls C hH hS hl
  obtain ⟨ws, tys, h1, h2, h3, h4⟩ := id hH
  obtain ⟨cA, q0, t0, hq, ht⟩ := h4.arr hG
  refine va_cast C.1 C.2.1 h3 h1 h2 hS q0 t0 hq ht hi hd (fun H1 locs1 g1 g2 g3 => ?_)
  exact kk p e R s m args below meth c H1 locs1 ls C ⟨_, tys, g1, g2, h3, h4.setA hq ht _⟩ g3 hl
theorem z_bast {a nA : Nat} {f : Nat → Int32} {i : Int32} {x : Int32} (hd : decode mi.2.1 pc = .ok (.bastore, 1)) (hG : G a = some (.inl (.byte, nA, .inl f))) (hi : vp_in i nA) (kk : zX Γ mi d mc ms (pc + 1) (lv) (st) (zset G a (.inl (.byte, nA, .inl (upd f i.toNatClampNeg (vp_nar .byte x))))) (k) (n) Post) : zX Γ mi d mc ms (pc) (lv) (.int x :: .int i :: .ref a :: st) G (k) (n) Post := by
  intro p e R s m args below meth c H locs ls C hH hS hl
  obtain ⟨ws, tys, h1, h2, h3, h4⟩ := id hH
  obtain ⟨cA, q0, t0, hq, ht⟩ := h4.arr hG
  refine va_bast C.1 C.2.1 h3 h1 h2 hS q0 t0 hq ht hi hd (fun H1 locs1 g1 g2 g3 => ?_)
  exact kk p e R s m args below meth c H1 locs1 ls C ⟨_, tys, g1, g2, h3, h4.setA hq ht _⟩ g3 hl
theorem z_last {a nA : Nat} {f : Nat → Int64} {i : Int32} {x : Int64} (hd : decode mi.2.1 pc = .ok (.lastore, 1)) (hG : G a = some (.inl (.long, nA, .inr (.inl f)))) (hi : vp_in i nA) (kk : zX Γ mi d mc ms (pc + 1) (lv) (st) (zset G a (.inl (.long, nA, .inr (.inl (vp_updL f i.toNatClampNeg x))))) (k) (n) Post) : zX Γ mi d mc ms (pc) (lv) (.long x :: .int i :: .ref a :: st) G (k) (n) Post := by
  intro p e R s m args below meth c H locs ls C hH hS hl
  obtain ⟨ws, tys, h1, h2, h3, h4⟩ := id hH
  obtain ⟨cA, q0, t0, hq, ht⟩ := h4.arr hG
  refine va_last C.1 C.2.1 h3 h1 h2 hS q0 t0 hq ht hi hd (fun H1 locs1 g1 g2 g3 => ?_)
  exact kk p e R s m args below meth c H1 locs1 ls C ⟨_, tys, g1, g2, h3, h4.setA hq ht _⟩ g3 hl
theorem z_dast {a nA : Nat} {f : Nat → UInt64} {i : Int32} {x : UInt64} (hd : decode mi.2.1 pc = .ok (.dastore, 1)) (hG : G a = some (.inl (.double, nA, .inr (.inr (.inr (.inl f)))))) (hi : vp_in i nA) (kk : zX Γ mi d mc ms (pc + 1) (lv) (st) (zset G a (.inl (.double, nA, .inr (.inr (.inr (.inl (vf_upd f i.toNatClampNeg x))))))) (k) (n) Post) : zX Γ mi d mc ms (pc) (lv) (.double x :: .int i :: .ref a :: st) G (k) (n) Post := by
  intro p e R s m args below meth c H locs ls C hH hS hl
  obtain ⟨ws, tys, h1, h2, h3, h4⟩ := id hH
  obtain ⟨cA, q0, t0, hq, ht⟩ := h4.arr hG
  refine va_dast C.1 C.2.1 h3 h1 h2 hS q0 t0 hq ht hi hd (fun H1 locs1 g1 g2 g3 => ?_)
  exact kk p e R s m args below meth c H1 locs1 ls C ⟨_, tys, g1, g2, h3, h4.setA hq ht _⟩ g3 hl
theorem z_qald {a nA : Nat} {Cn : String} {f : Nat → Option Nat} {i : Int32} (hd : decode mi.2.1 pc = .ok (.aaload, 1)) (hG : G a = some (.inl (.object Cn, nA, .inr (.inr (.inr (.inr f)))))) (hi : vp_in i nA) (kk : zX Γ mi d mc ms (pc + 1) (lv) (va_rf (f i.toNatClampNeg) :: st) G (k) (n) Post) : zX Γ mi d mc ms (pc) (lv) (.int i :: .ref a :: st) G (k) (n) Post := by
  intro p e R s m args below meth c H locs ls C hH hS hl
  obtain ⟨ws, tys, h1, h2, h3, h4⟩ := id hH
  obtain ⟨cA, q0, t0, hq, ht⟩ := h4.arr hG
  exact va_aldq C.1 C.2.1 h3 h1 q0 t0 hq ht hi hd (kk p e R s m args below meth c H locs ls C hH hS hl)
theorem z_qast {a nA v ci : Nat} {r : vw_C} {vs : List Value} {f : Nat → Option Nat} {i : Int32} (hd : decode mi.2.1 pc = .ok (.aastore, 1)) (hc : zcl[ci]? = some r) (hG : G a = some (.inl (.object r.1, nA, .inr (.inr (.inr (.inr f)))))) (hv : G v = some (.inr (ci, vs))) (hi : vp_in i nA) (kk : zX Γ mi d mc ms (pc + 1) (lv) (st) (zset G a (.inl (.object r.1, nA, .inr (.inr (.inr (.inr (va_up f i.toNatClampNeg (some v)))))))) (k) (n) Post) : zX Γ mi d mc ms (pc) (lv) (.ref v :: .int i :: .ref a :: st) G (k) (n) Post := by
  intro p e R s m args below meth c H locs ls C hH hS hl
  obtain ⟨ws, tys, h1, h2, h3, h4⟩ := id hH
  obtain ⟨cA, q0, t0, hq, ht⟩ := h4.arr hG
  obtain ⟨qk, hqk⟩ := h4.obj hv
  refine va_astq C.1 C.2.1 h3 h1 h2 hS q0 t0 qk ci hq ht hqk hc hi hd (fun H1 locs1 g1 g2 g3 => ?_)
  exact kk p e R s m args below meth c H1 locs1 ls C ⟨_, tys, g1, g2, h3, h4.setA hq ht _⟩ g3 hl
theorem z_alen {a : Nat} {ty : FieldType} {x : vp_A} {v : Int32} (hd : decode mi.2.1 pc = .ok (.arraylength, 1)) (hG : G a = some (.inl (ty, x))) (hv : Int32.ofNat x.1 = v) (kk : zX Γ mi d mc ms (pc + 1) (lv) (.int v :: st) G (k) (n) Post) : zX Γ mi d mc ms (pc) (lv) (.ref a :: st) G (k) (n) Post := by
  intro p e R s m args below meth c H locs ls C hH hS hl
  obtain ⟨ws, tys, h1, h2, h3, h4⟩ := id hH
  obtain ⟨cA, q0, t0, hq, ht⟩ := h4.arr hG
  exact va_alen C.1 C.2.1 h3 h1 q0 t0 hq ht hv hd (kk p e R s m args below meth c H locs ls C hH hS hl)
theorem z_new {j ci N : Nat} {Cn : String} {T : u_T} {ty : Nat → FieldType} {fs : List Value} (hd : decode mi.2.1 pc = .ok (.new j, 3)) (hc : zCl ci Cn T N ty) (hlk : Cond.classLink mi.1.cls j Cn ∈ lw_good) (hfs : ∀ i, i < N → defaultValue (ty i) = vp_V fs i) (hk : k + 1 ≤ mc) (hn : n + N ≤ ms) (kk : ∀ q : Nat, G q = none → zX Γ mi d mc ms (pc + 3) (lv) (.ref q :: st) (zset G q (.inr (ci, fs))) (k + 1) (n + N) Post) : zX Γ mi d mc ms (pc) (lv) (st) G (k) (n) Post := by
  intro p e R s m args below meth c H locs ls C hH hS hl
  obtain ⟨ws, tys, h1, h2, h3, h4⟩ := id hH
  have hb := C.2.2.2.2.2.2.2.2.2.2.1.1
  refine va_new C.1 C.2.1 C.2.2.2.2.1 hc.2.1 ty hc.2.2.1 C.2.2.2.1 (C.2.2.2.2.1 _ hlk) (C.2.2.2.2.1 _ hc.2.2.2.2.1) (C.2.2.2.2.1 _ hc.2.2.2.2.2) h3 h1 h2 hS (fun q hq => Nat.le_trans hb hq) hc.1 hfs (Nat.le_trans hk C.2.2.2.2.2.2.2.2.2.2.2.2.2.1) (Nat.le_trans hn C.2.2.2.2.2.2.2.2.2.2.2.2.2.2) hd (fun q H1 g1 g2 g3 => ?_)
  exact kk q (h4.none g2) p e R s m args below meth c H1 locs ls C ⟨_, tys, g1, g2, h3, h4.pushO q _⟩ g3 hl
theorem z_newa_i {v : Int32} {N : Nat} (hd : decode mi.2.1 pc = .ok (.newarray .int, 2)) (hn0 : ¬ v < 0) (hN : v.toNatClampNeg = N) (hB : N ≤ 67108864) (hk : k + 1 ≤ mc) (hn : n + N ≤ ms) (kk : ∀ q : Nat, G q = none → zX Γ mi d mc ms (pc + 2) (lv) (.ref q :: st) (zset G q (.inl (.int, N, .inl (fun _ => 0)))) (k + 1) (n + N) Post) : zX Γ mi d mc ms (pc) (lv) (.int v :: st) G (k) (n) Post := by
  intro p e R s m args below meth c H locs ls C hH hS hl
  obtain ⟨ws, tys, h1, h2, h3, h4⟩ := id hH
  have hb := C.2.2.2.2.2.2.2.2.2.2.1.1
  refine va_newa (atype := .int) (ty := .int) (a0 := (N, .inl (fun _ => 0))) C.1 C.2.1 (C.2.2.2.2.1 _ zarr_i) rfl h3 h1 h2 hS (fun q hq => Nat.le_trans hb hq) (fun _ => rfl) hn0 hN (by show N * _ ≤ _; simp only [componentBytes]; omega) (Nat.le_trans hk C.2.2.2.2.2.2.2.2.2.2.2.2.2.1) (Nat.le_trans hn C.2.2.2.2.2.2.2.2.2.2.2.2.2.2) hd (fun q cA H1 g0 g1 g2 g3 => ?_)
  exact kk q (h4.none g2) p e R s m args below meth c H1 locs ls C ⟨_, _, g1, g2, g0, h4.pushA q cA _ _⟩ g3 hl
theorem z_newa_c {v : Int32} {N : Nat} (hd : decode mi.2.1 pc = .ok (.newarray .char, 2)) (hn0 : ¬ v < 0) (hN : v.toNatClampNeg = N) (hB : N ≤ 67108864) (hk : k + 1 ≤ mc) (hn : n + N ≤ ms) (kk : ∀ q : Nat, G q = none → zX Γ mi d mc ms (pc + 2) (lv) (.ref q :: st) (zset G q (.inl (.char, N, .inl (fun _ => 0)))) (k + 1) (n + N) Post) : zX Γ mi d mc ms (pc) (lv) (.int v :: st) G (k) (n) Post := by
  intro p e R s m args below meth c H locs ls C hH hS hl
  obtain ⟨ws, tys, h1, h2, h3, h4⟩ := id hH
  have hb := C.2.2.2.2.2.2.2.2.2.2.1.1
  refine va_newa (atype := .char) (ty := .char) (a0 := (N, .inl (fun _ => 0))) C.1 C.2.1 (C.2.2.2.2.1 _ zarr_c) rfl h3 h1 h2 hS (fun q hq => Nat.le_trans hb hq) (fun _ => rfl) hn0 hN (by show N * _ ≤ _; simp only [componentBytes]; omega) (Nat.le_trans hk C.2.2.2.2.2.2.2.2.2.2.2.2.2.1) (Nat.le_trans hn C.2.2.2.2.2.2.2.2.2.2.2.2.2.2) hd (fun q cA H1 g0 g1 g2 g3 => ?_)
  exact kk q (h4.none g2) p e R s m args below meth c H1 locs ls C ⟨_, _, g1, g2, g0, h4.pushA q cA _ _⟩ g3 hl
theorem z_newa_b {v : Int32} {N : Nat} (hd : decode mi.2.1 pc = .ok (.newarray .byte, 2)) (hn0 : ¬ v < 0) (hN : v.toNatClampNeg = N) (hB : N ≤ 67108864) (hk : k + 1 ≤ mc) (hn : n + N ≤ ms) (kk : ∀ q : Nat, G q = none → zX Γ mi d mc ms (pc + 2) (lv) (.ref q :: st) (zset G q (.inl (.byte, N, .inl (fun _ => 0)))) (k + 1) (n + N) Post) : zX Γ mi d mc ms (pc) (lv) (.int v :: st) G (k) (n) Post := by
  intro p e R s m args below meth c H locs ls C hH hS hl
  obtain ⟨ws, tys, h1, h2, h3, h4⟩ := id hH
  have hb := C.2.2.2.2.2.2.2.2.2.2.1.1
  refine va_newa (atype := .byte) (ty := .byte) (a0 := (N, .inl (fun _ => 0))) C.1 C.2.1 (C.2.2.2.2.1 _ zarr_b) rfl h3 h1 h2 hS (fun q hq => Nat.le_trans hb hq) (fun _ => rfl) hn0 hN (by show N * _ ≤ _; simp only [componentBytes]; omega) (Nat.le_trans hk C.2.2.2.2.2.2.2.2.2.2.2.2.2.1) (Nat.le_trans hn C.2.2.2.2.2.2.2.2.2.2.2.2.2.2) hd (fun q cA H1 g0 g1 g2 g3 => ?_)
  exact kk q (h4.none g2) p e R s m args below meth c H1 locs ls C ⟨_, _, g1, g2, g0, h4.pushA q cA _ _⟩ g3 hl
theorem z_newa_l {v : Int32} {N : Nat} (hd : decode mi.2.1 pc = .ok (.newarray .long, 2)) (hn0 : ¬ v < 0) (hN : v.toNatClampNeg = N) (hB : N ≤ 67108864) (hk : k + 1 ≤ mc) (hn : n + N ≤ ms) (kk : ∀ q : Nat, G q = none → zX Γ mi d mc ms (pc + 2) (lv) (.ref q :: st) (zset G q (.inl (.long, N, .inr (.inl (fun _ => 0))))) (k + 1) (n + N) Post) : zX Γ mi d mc ms (pc) (lv) (.int v :: st) G (k) (n) Post := by
  intro p e R s m args below meth c H locs ls C hH hS hl
  obtain ⟨ws, tys, h1, h2, h3, h4⟩ := id hH
  have hb := C.2.2.2.2.2.2.2.2.2.2.1.1
  refine va_newa (atype := .long) (ty := .long) (a0 := (N, .inr (.inl (fun _ => 0)))) C.1 C.2.1 (C.2.2.2.2.1 _ zarr_l) rfl h3 h1 h2 hS (fun q hq => Nat.le_trans hb hq) (fun _ => rfl) hn0 hN (by show N * _ ≤ _; simp only [componentBytes]; omega) (Nat.le_trans hk C.2.2.2.2.2.2.2.2.2.2.2.2.2.1) (Nat.le_trans hn C.2.2.2.2.2.2.2.2.2.2.2.2.2.2) hd (fun q cA H1 g0 g1 g2 g3 => ?_)
  exact kk q (h4.none g2) p e R s m args below meth c H1 locs ls C ⟨_, _, g1, g2, g0, h4.pushA q cA _ _⟩ g3 hl
theorem z_newa_d {v : Int32} {N : Nat} (hd : decode mi.2.1 pc = .ok (.newarray .double, 2)) (hn0 : ¬ v < 0) (hN : v.toNatClampNeg = N) (hB : N ≤ 67108864) (hk : k + 1 ≤ mc) (hn : n + N ≤ ms) (kk : ∀ q : Nat, G q = none → zX Γ mi d mc ms (pc + 2) (lv) (.ref q :: st) (zset G q (.inl (.double, N, .inr (.inr (.inr (.inl (fun _ => 0))))))) (k + 1) (n + N) Post) : zX Γ mi d mc ms (pc) (lv) (.int v :: st) G (k) (n) Post := by
  intro p e R s m args below meth c H locs ls C hH hS hl
  obtain ⟨ws, tys, h1, h2, h3, h4⟩ := id hH
  have hb := C.2.2.2.2.2.2.2.2.2.2.1.1
  refine va_newa (atype := .double) (ty := .double) (a0 := (N, .inr (.inr (.inr (.inl (fun _ => 0)))))) C.1 C.2.1 (C.2.2.2.2.1 _ zarr_d) rfl h3 h1 h2 hS (fun q hq => Nat.le_trans hb hq) (fun _ => rfl) hn0 hN (by show N * _ ≤ _; simp only [componentBytes]; omega) (Nat.le_trans hk C.2.2.2.2.2.2.2.2.2.2.2.2.2.1) (Nat.le_trans hn C.2.2.2.2.2.2.2.2.2.2.2.2.2.2) hd (fun q cA H1 g0 g1 g2 g3 => ?_)
  exact kk q (h4.none g2) p e R s m args below meth c H1 locs ls C ⟨_, _, g1, g2, g0, h4.pushA q cA _ _⟩ g3 hl
theorem z_newq {v : Int32} {j N : Nat} (hd : decode mi.2.1 pc = .ok (.anewarray j, 3)) (hlk : Cond.classLink mi.1.cls j RX6 ∈ lw_good) (hn0 : ¬ v < 0) (hN : v.toNatClampNeg = N) (hB : N ≤ 67108864) (hk : k + 1 ≤ mc) (hn : n + N ≤ ms) (kk : ∀ q : Nat, G q = none → zX Γ mi d mc ms (pc + 3) (lv) (.ref q :: st) (zset G q (.inl (.object RX6, N, .inr (.inr (.inr (.inr (fun _ => none))))))) (k + 1) (n + N) Post) : zX Γ mi d mc ms (pc) (lv) (.int v :: st) G (k) (n) Post := by
  intro p e R s m args below meth c H locs ls C hH hS hl
  obtain ⟨ws, tys, h1, h2, h3, h4⟩ := id hH
  have hb := C.2.2.2.2.2.2.2.2.2.2.1.1
  refine va_newq C.1 C.2.1 C.2.2.2.1 (C.2.2.2.2.1 _ hlk) C.2.2.2.2.2.2.2.2.2.1.2.2.2.2.2.1 h3 h1 h2 hS (fun q hq => Nat.le_trans hb hq) hn0 hN (by omega) (Nat.le_trans hk C.2.2.2.2.2.2.2.2.2.2.2.2.2.1) (Nat.le_trans hn C.2.2.2.2.2.2.2.2.2.2.2.2.2.2) hd (fun q cA H1 g0 g1 g2 g3 => ?_)
  exact kk q (h4.none g2) p e R s m args below meth c H1 locs ls C ⟨_, _, g1, g2, g0, h4.pushA q cA _ _⟩ g3 hl
theorem z_ireturn (hd : decode mi.2.1 pc = .ok (.ireturn, 1)) {v : Int32} {ty : FieldType} (hr : mi.2.2.2.1 = some ty) (hw : narrow ty (.int v) = .int v) (hk : k ≤ mc) (hn : n ≤ ms) (hp : Post (.inl (some (.int v))) G) : zX Γ mi d mc ms (pc) (lv) ([.int v]) G (k) (n) Post := fun p e R s m args below meth c H locs ls C hH hS hl => vx_ret (W.widen hk hn (W.zret C.1 C.2.1 (C.2.2.2.2.2.1.trans hr) hw (hlocks := C.2.2.2.2.2.2.1) (fun t ht hW => ⟨⟨_, G, rfl, hp, by rw [ht]; exact hH.moved hW.alike⟩, hS.F ht⟩) hS.2.2 hd))
theorem z_vreturn (hd : decode mi.2.1 pc = .ok (.return_, 1)) (hr : mi.2.2.2.1 = none) (hk : k ≤ mc) (hn : n ≤ ms) (hp : Post (.inl none) G) : zX Γ mi d mc ms (pc) (lv) ([]) G (k) (n) Post := fun p e R s m args below meth c H locs ls C hH hS hl => vx_ret (W.widen hk hn (W.vret C.1 C.2.1 (C.2.2.2.2.2.1.trans hr) (hlocks := C.2.2.2.2.2.2.1) (fun t ht hW => ⟨⟨_, G, rfl, hp, by rw [ht]; exact hH.moved hW.alike⟩, hS.F ht⟩) hS.2.2 hd))
theorem z_areturn (hd : decode mi.2.1 pc = .ok (.areturn, 1)) {v : Value} {ty : FieldType} (hr : mi.2.2.2.1 = some ty) (hrt : (∃ z, ty = .object z) ∨ ∃ z, ty = .array z) (hv : v = .null ∨ ∃ a, v = .ref a) (hk : k ≤ mc) (hn : n ≤ ms) (hp : Post (.inl (some v)) G) : zX Γ mi d mc ms (pc) (lv) ([v]) G (k) (n) Post := fun p e R s m args below meth c H locs ls C hH hS hl => vx_ret (W.widen hk hn (W.aret C.1 C.2.1 (C.2.2.2.2.2.1.trans hr) hrt hv (hlocks := C.2.2.2.2.2.2.1) (fun t ht hW => ⟨⟨_, G, rfl, hp, by rw [ht]; exact hH.moved hW.alike⟩, hS.F ht⟩) hS.2.2 hd))
theorem z_freturn (hd : decode mi.2.1 pc = .ok (.freturn, 1)) {v : UInt32} (hr : mi.2.2.2.1 = some .float) (hk : k ≤ mc) (hn : n ≤ ms) (hp : Post (.inl (some (.float v))) G) : zX Γ mi d mc ms (pc) (lv) ([.float v]) G (k) (n) Post := fun p e R s m args below meth c H locs ls C hH hS hl => vx_ret (W.widen hk hn (W.fret C.1 C.2.1 (C.2.2.2.2.2.1.trans hr) (hlocks := C.2.2.2.2.2.2.1) (fun t ht hW => ⟨⟨_, G, rfl, hp, by rw [ht]; exact hH.moved hW.alike⟩, hS.F ht⟩) hS.2.2 hd))
theorem z_dreturn (hd : decode mi.2.1 pc = .ok (.dreturn, 1)) {v : UInt64} (hr : mi.2.2.2.1 = some .double) (hk : k ≤ mc) (hn : n ≤ ms) (hp : Post (.inl (some (.double v))) G) : zX Γ mi d mc ms (pc) (lv) ([.double v]) G (k) (n) Post := fun p e R s m args below meth c H locs ls C hH hS hl => vx_ret (W.widen hk hn (W.dret C.1 C.2.1 (C.2.2.2.2.2.1.trans hr) (hlocks := C.2.2.2.2.2.2.1) (fun t ht hW => ⟨⟨_, G, rfl, hp, by rw [ht]; exact hH.moved hW.alike⟩, hS.F ht⟩) hS.2.2 hd))
theorem z_objInit {j a : Nat} (hd : decode mi.2.1 pc = .ok (.invokespecial j, 3)) (hlk : Cond.methodLink mi.1.cls j objectInit ∈ lw_good) (hcat : (st.map fun v => v.category).sum ≤ 8) (kk : zX Γ mi d mc ms (pc + 3) (lv) (st) G (k) (n) Post) : zX Γ mi d mc ms (pc) (lv) (.ref a :: st) G (k) (n) Post := by
  intro p e R s m args below meth c H locs ls C hH hS hl
  refine W.objInit C.1 C.2.1 C.2.2.2.1 (C.2.2.2.2.1 _ hlk) (C.2.2.2.2.1 _ zobj1) (C.2.2.2.2.1 _ zobj2) rfl (by rw [C.2.2.1]; exact hl.1) rfl hd (Nat.le_trans (by unfold zFr; omega) C.2.2.2.2.2.2.2.2.2.2.2.1) (Nat.le_trans (by show 2 * 0 + _ + 12 ≤ zLo d; unfold zLo; omega) C.2.2.2.2.2.2.2.2.2.2.2.2.1) ?_
  exact kk p e R s m args below meth c H locs ls C hH hS hl
theorem z_mmax {j : Nat} {x y : Int32} (hd : decode mi.2.1 pc = .ok (.invokestatic j, 3)) (hlk : Cond.methodLink mi.1.cls j Lib.Math.max.name ∈ lw_good) (hcat : (st.map fun v => v.category).sum ≤ 8) (hk : k ≤ mc) (hn : n ≤ ms) (kk : zX Γ mi d mc ms (pc + 3) (lv) (.int (if x < y then y else x) :: st) G (k) (n) Post) : zX Γ mi d mc ms (pc) (lv) (.int y :: .int x :: st) G (k) (n) Post := by
  intro p e R s m args below meth c H locs ls C hH hS hl
  refine va_mmax C.1 C.2.1 (by rw [C.2.2.1]; exact hl.1.symm) C.2.2.2.1 (C.2.2.2.2.1 _ hlk) (C.2.2.2.2.1 _ zmmax1) (C.2.2.2.2.1 _ zmmax2) (C.2.2.2.2.1 _ zmmax3) (Nat.le_trans (by unfold zFr; omega) C.2.2.2.2.2.2.2.2.2.2.2.1) (Nat.le_trans (by unfold zLo; omega) C.2.2.2.2.2.2.2.2.2.2.2.2.1) (Nat.le_trans hk C.2.2.2.2.2.2.2.2.2.2.2.2.2.1) (Nat.le_trans hn C.2.2.2.2.2.2.2.2.2.2.2.2.2.2) hd ?_
  exact kk p e R s m args below meth c H locs ls C hH hS hl
theorem z_mmin {j : Nat} {x y : Int32} (hd : decode mi.2.1 pc = .ok (.invokestatic j, 3)) (hlk : Cond.methodLink mi.1.cls j Lib.Math.min.name ∈ lw_good) (hcat : (st.map fun v => v.category).sum ≤ 8) (hk : k ≤ mc) (hn : n ≤ ms) (kk : zX Γ mi d mc ms (pc + 3) (lv) (.int (if y < x then y else x) :: st) G (k) (n) Post) : zX Γ mi d mc ms (pc) (lv) (.int y :: .int x :: st) G (k) (n) Post := by
  intro p e R s m args below meth c H locs ls C hH hS hl
  refine va_mmin C.1 C.2.1 (by rw [C.2.2.1]; exact hl.1.symm) C.2.2.2.1 (C.2.2.2.2.1 _ hlk) (C.2.2.2.2.1 _ zmmin1) (C.2.2.2.2.1 _ zmmin2) (C.2.2.2.2.1 _ zmmin3) (Nat.le_trans (by unfold zFr; omega) C.2.2.2.2.2.2.2.2.2.2.2.1) (Nat.le_trans (by unfold zLo; omega) C.2.2.2.2.2.2.2.2.2.2.2.2.1) (Nat.le_trans hk C.2.2.2.2.2.2.2.2.2.2.2.2.2.1) (Nat.le_trans hn C.2.2.2.2.2.2.2.2.2.2.2.2.2.2) hd ?_
  exact kk p e R s m args below meth c H locs ls C hH hS hl
end ZR
