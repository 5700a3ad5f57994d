/-! ===== THE SMALL MACHINE: judgements zX (a body at a point), zM (a method's contract), over a heap as a partial function ===== -/
abbrev zE : Type := (FieldType × vp_A) ⊕ (Nat × List Value)
abbrev zH : Type := Nat → Option zE
abbrev zO : Type := Option Value ⊕ String
abbrev zP : Type := zO → zH → Prop
abbrev zV : Type := Option Value → zH → Prop
/-- the run's own: the launch, the classes' numbers and slots, the first new address, the String constants' addresses, other constants' addresses -/
abbrev zG : Type := Launch × va_G × Nat × (Nat → Nat) × (Nat → Nat)
def zA (Γ : zG) : Nat → Prop := fun q => Γ.2.2.1 ≤ q
def zMt (G : zH) (ws : va_W) (tys : List (ClassId × FieldType)) : Prop := ∀ a e, G a = some e → match e with
  | .inr o => (a, Sum.inr o) ∈ ws
  | .inl (ty, x) => ∃ cA : ClassId, (a, Sum.inl (cA, x)) ∈ ws ∧ (cA, ty) ∈ tys
def zHR (Γ : zG) (G : zH) (U : State) (H : Heap) : Prop := ∃ (ws : va_W) (tys : List (ClassId × FieldType)), va_P Γ.2.1 zcl ws H ∧ va_D (zA Γ) ws ∧ va_K Γ.2.1 zcl tys U ∧ zMt G ws tys
theorem zHR.moved {Γ : zG} {G : zH} {u U : State} {H : Heap} (hvm : u.vm.Alike U.vm) (h : zHR Γ G u H) : zHR Γ G U H := by
  obtain ⟨ws, tys, h1, h2, h3, h4⟩ := h
  exact ⟨ws, tys, h1, h2, h3.moved hvm, h4⟩
theorem zHR.kept {Γ : zG} {G : zH} {U : State} {H H1 : Heap} (h : zHR Γ G U H) (hq : ∀ q : Nat, q < H.size → H1[q]? = H[q]?) : zHR Γ G U H1 := by
  obtain ⟨ws, tys, h1, h2, h3, h4⟩ := h
  exact ⟨ws, tys, h1.kept (fun k x hx => hq x.1 ((h1 k x hx).lt)), h2, h3, h4⟩
/-- nest links and castings that hold in every state -/
def zNest : List Cond := [.methodLinkNest RX10 9 yX6_init RX10, .methodLinkNest RX6 15 yX8_init RX10, .methodLinkNest RX6 22 yX2_init RX10, .methodLinkNest RX6 29 yX1_init RX10, .methodLinkNest RX6 36 yX0_init RX10, .methodLinkNest RX6 43 yX4_init RX10, .methodLinkNest RX3 22 yX6_init RX10, .methodLinkNest RX10 37 yX5_init RX10, .methodLinkNest RX10 44 yX9_init RX10]
def zDecl : List MethodName := [⟨"java/lang/RuntimeException", "<init>", "()V"⟩, ⟨"java/lang/RuntimeException", "<init>", "(Ljava/lang/String;)V"⟩, ⟨"java/lang/Exception", "<init>", "()V"⟩, ⟨"java/lang/Exception", "<init>", "(Ljava/lang/String;)V"⟩, ⟨"java/lang/Throwable", "<init>", "()V"⟩, ⟨"java/lang/Throwable", "<init>", "(Ljava/lang/String;)V"⟩, ⟨"java/lang/IndexOutOfBoundsException", "<init>", "()V"⟩, ⟨"java/lang/IndexOutOfBoundsException", "<init>", "(Ljava/lang/String;)V"⟩]
def zCast : List (String × String) := ["java/lang/UnsupportedOperationException", "java/lang/IndexOutOfBoundsException", "java/lang/IllegalArgumentException", "java/util/NoSuchElementException", "java/lang/IllegalStateException", "java/lang/ArithmeticException"].map fun c => (c, c)
def zNoCast : List (String × String) := [("java/lang/IllegalArgumentException", "java/lang/IndexOutOfBoundsException"), ("java/util/NoSuchElementException", "java/lang/IndexOutOfBoundsException"), ("java/util/NoSuchElementException", "java/lang/IllegalArgumentException"), ("java/lang/UnsupportedOperationException", "java/lang/IllegalArgumentException"), ("java/lang/ArithmeticException", "java/lang/IndexOutOfBoundsException")]
/-- the String constants of the code: class, entry, text; the first six with their contents -/
def zStrs : List (String × Nat × String) := [(RX9, 44, "1:2/1"), (RX9, 46, "1:2"), (RX9, 48, "1"), (RX9, 50, "2+1"), (RX9, 52, "2"), (RX9, 54, ""),
  (RX10, 72, "the stone is refused"), (RX10, 94, "the flood is refused"), (RX10, 105, "the epoch is refused"), (RX10, 121, "the chisel is refused"), (RX10, 135, "the mark is refused"), (RX10, 143, "the effacing is refused"), (RX10, 158, "the sharpening is refused"), (RX10, 167, "the check is refused"), (RX10, 175, "the witnesses are refused"), (RX10, 183, "the years are refused"), (RX10, 194, "no such stone"), (RX10, 223, "what is not from 0 to 5"), (RX10, 227, "no such flood"), (RX10, 252, "no flood is told for the year"), (RX10, 258, "no flood is told for a lesser year"), (RX10, 261, "no such chisel"), (RX10, 266, "no such stone or flood"), (RX10, 268, "what is not from 0 to 4"), (RX10, 273, "no such mark"), (RX10, 293, "no such place"), (RX10, 301, "the year is not from 0 to 999"), (RX10, 306, "the years are not from 0 to 60"), (RX10, 322, "no such rank"), (RX10, 336, "the text buffer is full"), (RX10, 349, "the text has a fault"), (RX10, 363, "a command is refused"), (RX10, 374, "what is not from 0 to 2"), (RX10, 379, "nothing was refused"), (RX10, 397, "no such index"), (RX10, 405, "there are no marks for the flood"), (RX10, 412, "there are no chisels"), (RX10, 439, "what is not from 0 to 11"), (RX10, 441, "nothing can be undone"), (RX10, 446, "there is no snapshot")]
def zLen : List Nat := [5, 3, 1, 3, 1, 0]
def zByt : List (List Int32) := [[49, 58, 50, 47, 49], [49, 58, 50], [49], [50, 43, 49], [50], []]
def zStr (i : Nat) (Γ : zG) (U : State) (H : Heap) : Prop := va_O "java/lang/String" (Γ.2.2.2.1 i) (zA Γ) U H ∧ va_OF "java/lang/String" "coder" "B" (.int 0) (Γ.2.2.2.1 i) (zA Γ) U H ∧ va_OF "java/lang/String" "value" "[B" (.ref (Γ.2.2.2.2 i)) (Γ.2.2.2.1 i) (zA Γ) U H ∧ va_T .byte (Γ.2.2.2.2 i) (zLen.getD i 0) (fun j => .int ((zByt.getD i []).getD j 0)) (zA Γ) U H
def zOnes (j : Nat) : Int32 := nI (48 + j % 10)
def zTens (j : Nat) : Int32 := nI (48 + j / 10)
/-- private methods of the builder's superclass, on the builder -/
def zSelB : List Cond := [.selects RJ4 yJ5_ensureCapacityInternal_d00df yJ5_ensureCapacityInternal_d00df, .selects RJ4 yJ5_newCapacity_0f7a4 yJ5_newCapacity_0f7a4]
theorem zSelB_k : ∀ w ∈ zSelB, (w.onTables && w.keeps) = true := by
  intro w hw
  simp only [zSelB, List.mem_cons, List.not_mem_nil, or_false] at hw
  rcases hw with rfl | rfl <;> rfl
theorem zSelB_w {w : Cond} (hw : w ∈ zSelB) {s U : State} (hW : s.WarmedH U.vm) (h : va_Nw w s) : va_Nw w U := word_at hW (Or.inl (zSelB_k w hw)) h
theorem zSelB_s {w : Cond} (hw : w ∈ zSelB) {s U : State} (hv : s.vm = U.vm) (h : va_Nw w s) : va_Nw w U := va_Nw.same ((Bool.and_eq_true_iff.mp (zSelB_k w hw)).1) hv h
/-- what holds throughout a run beside the heap's own things: links, constants, statics -/
def zKs (Γ : zG) (U : State) : Prop := Γ.1.stackTraces = false ∧ (∀ w ∈ zNest, va_Nw w U) ∧ (∀ q ∈ zCast, va_Nw (.castable q.1 q.2) U) ∧ ((∀ q ∈ zNoCast, va_Nc q.1 q.2 U) ∧ ∀ w ∈ zSelB, va_Nw w U) ∧ (∀ i q, zStrs[i]? = some q → vk_R q.1 q.2.1 q.2.2 (Γ.2.2.2.1 i) U) ∧ va_AO RX6 U ∧ (∀ y ∈ zDecl, va_Nw (.declares y) U)
/-- the bounds' message maker: null or some object (nobody calls it) -/
def zFv (Γ : zG) : Value := if Γ.2.2.2.2 98 = 0 then .null else .ref (Γ.2.2.2.2 99)
def zKh (Γ : zG) (U : State) (H : Heap) : Prop := Γ.2.2.1 ≤ H.size ∧ (∀ i, i < 6 → zStr i Γ U H) ∧
  (va_Z "java/lang/String" "COMPACT_STRINGS" "Z" (.int 1) (zA Γ) U H ∧ va_Z "jdk/internal/util/Preconditions" "SIOOBE_FORMATTER" "Ljava/util/function/BiFunction;" (zFv Γ) (zA Γ) U H) ∧ va_Z "java/lang/Integer" "DigitOnes" "[B" (.ref (Γ.2.2.2.2 100)) (zA Γ) U H ∧ va_Z "java/lang/Integer" "DigitTens" "[B" (.ref (Γ.2.2.2.2 101)) (zA Γ) U H ∧
  va_T .byte (Γ.2.2.2.2 100) 100 (fun j => .int (zOnes j)) (zA Γ) U H ∧ va_T .byte (Γ.2.2.2.2 101) 100 (fun j => .int (zTens j)) (zA Γ) U H ∧
  vx_Zq Bundle.tN "UNASSIGNED_STACK" Bundle.steD (zA Γ) U H ∧ vx_Zq Bundle.tN "SUPPRESSED_SENTINEL" Bundle.listD (zA Γ) U H ∧
  ((zA Γ) (Γ.2.2.2.2 102) → False) ∧ va_X (Γ.2.2.2.2 102) (Γ.2.2.2.2 103) (fun j => nI (Γ.2.2.2.2 (104 + j))) U H
theorem zX_lt {b L : Nat} {xs : Nat → Int32} {U : State} {H : Heap} (h : va_X b L xs U H) : b < H.size := by
  obtain ⟨scr, h1, -⟩ := h
  exact (Array.getElem?_eq_some_iff.mp h1).1
theorem zKs.warm {Γ : zG} {s U : State} (hW : s.WarmedH U.vm) (h : zKs Γ s) : zKs Γ U := by
  obtain ⟨h0, h1, h2, h3, h4, h5, h6⟩ := h
  refine ⟨h0, fun w hw => ?_, fun q hq => va_Nw.warmC hW (h2 q hq), ⟨fun q hq => va_Nc.moved hW.alike (h3.1 q hq), fun w hw => zSelB_w hw hW (h3.2 w hw)⟩, fun i q hq => (h4 i q hq).warm hW, va_AO.moved hW.alike h5, fun y hy => va_Nw.warmD hW (h6 y hy)⟩
  have hz := h1 w hw
  simp only [zNest, List.mem_cons, List.not_mem_nil, or_false] at hw
  rcases hw with rfl | rfl | rfl | rfl | rfl | rfl | rfl | rfl | rfl <;> exact va_Nw.warmM hW hz
theorem zKs.same {Γ : zG} {s U : State} (hv : s.vm = U.vm) (h : zKs Γ s) : zKs Γ U := by
  obtain ⟨h0, h1, h2, h3, h4, h5, h6⟩ := h
  refine ⟨h0, fun w hw => ?_, fun q hq => va_Nw.same rfl hv (h2 q hq), ⟨fun q hq => va_Nc.moved (by rw [hv]; exact Vm.Alike.refl _) (h3.1 q hq), fun w hw => zSelB_s hw hv (h3.2 w hw)⟩, fun i q hq => (h4 i q hq).same hv.symm, va_AO.moved (by rw [hv]; exact Vm.Alike.refl _) h5, fun y hy => va_Nw.same rfl hv (h6 y hy)⟩
  have hz := h1 w hw
  simp only [zNest, List.mem_cons, List.not_mem_nil, or_false] at hw
  rcases hw with rfl | rfl | rfl | rfl | rfl | rfl | rfl | rfl | rfl <;> exact va_Nw.same rfl hv hz
theorem zKh.moved {Γ : zG} {u U : State} {H : Heap} (hvm : u.vm.Alike U.vm) (h : zKh Γ u H) : zKh Γ U H := by
  obtain ⟨h0, h1, h2, h3, h4, h5, h6, h7, h8, h9, h10⟩ := h
  exact ⟨h0, fun i hi => ⟨va_O.moved hvm (h1 i hi).1, va_OF.moved hvm (h1 i hi).2.1, va_OF.moved hvm (h1 i hi).2.2.1, va_T.moved hvm (h1 i hi).2.2.2⟩, ⟨va_Z.moved hvm h2.1, va_Z.moved hvm h2.2⟩, va_Z.moved hvm h3, va_Z.moved hvm h4, va_T.moved hvm h5, va_T.moved hvm h6, vx_Zq.moved hvm h7, vx_Zq.moved hvm h8, h9, h10.moved hvm⟩
theorem zKh.kept {Γ : zG} {U : State} {H H1 : Heap} (h : zKh Γ U H) (hs : H.size ≤ H1.size) (hq : ∀ a : Nat, a < H.size → ¬ (zA Γ) a → H1[a]? = H[a]?) : zKh Γ U H1 := by
  obtain ⟨h0, h1, h2, h3, h4, h5, h6, h7, h8, h9, h10⟩ := h
  exact ⟨Nat.le_trans h0 hs, fun i hi => ⟨(h1 i hi).1.kept hq, (h1 i hi).2.1.kept hq, (h1 i hi).2.2.1.kept hq, (h1 i hi).2.2.2.kept hq⟩, ⟨h2.1.kept hq, h2.2.kept hq⟩, h3.kept hq, h4.kept hq, h5.kept hq, h6.kept hq, h7.kept hq, h8.kept hq, h9, h10.kept (hq _ (zX_lt h10) h9)⟩
/-- the room at depth d -/
def zFr (d : Nat) : Nat := d + 8
def zLo (d : Nat) : Nat := 64 * d + 160
def zRm (d mc ms : Nat) : Room := { frames := zFr d, cells := mc, slots := ms, locals := zLo d }
def zQ (Γ : zG) (Post : zP) : Array Value → State → Outcome → State → Prop := fun _ st o t => (∃ (v : Option Value) (G : zH), o = .returned v ∧ Post (.inl v) G ∧ zHR Γ G t t.heap) ∧ va_F (zA Γ) st t
def zXC (Γ : zG) (Post : zP) : String → State → State → Prop := fun E st t => (∃ G : zH, Post (.inr E) G ∧ zHR Γ G t t.heap) ∧ va_F (zA Γ) st t
def zPre (Γ : zG) (G : zH) : State → Prop := fun U => zHR Γ G U U.heap ∧ zKs Γ U ∧ zKh Γ U U.heap
/-- a method's contract, that returns or throws -/
def zMX (Γ : zG) (d : Nat) (mi : zMI) (mc ms : Nat) (args : List Value) (G : zH) (Post : zP) : Prop :=
  vx_Met Γ.1 mi.1 (Cond.code mi.1 mi.2.1 mi.2.2.1 mi.2.2.2.1 :: lw_good) (zRm d mc ms) (va_Pc args (zPre Γ G)) (zQ Γ Post) (zXC Γ Post) mc ms (zA Γ)
/-- a method's contract, that returns -/
def zM (Γ : zG) (d : Nat) (mi : zMI) (mc ms : Nat) (args : List Value) (G : zH) (Post : zV) : Prop :=
  Met Γ.1 mi.1 (Cond.code mi.1 mi.2.1 mi.2.2.1 mi.2.2.2.1 :: lw_good) (zRm d mc ms) (va_Pc args (zPre Γ G)) (fun _ st o t => (∃ (v : Option Value) (G : zH), o = .returned v ∧ Post v G ∧ zHR Γ G t t.heap) ∧ va_F (zA Γ) st t) mc ms (zA Γ)
/-- what is known of the locals: by their places -/
def zlv (nL : Nat) (ls : Array Slot) (lv : List (Option Value)) : Prop := ls.size = nL ∧ lv_wf ls ∧ ∀ (i : Nat) (v : Value), lv[i]? = some (some v) → ls[i]? = some (.val v)
def zCtx (Γ : zG) (mi : zMI) (d mc ms : Nat) (p : Program) (R : Room) (s : State) (m : MethodId) (args : Array Value) (meth : Method) (c : Code) : Prop :=
  p.tables.exec = Jvm.exec ∧ c.code = mi.2.1 ∧ c.maxLocals = mi.2.2.1 ∧ s.vm.findClass mi.1.cls = some m.cls ∧ (∀ w ∈ lw_good, w.before args s = true) ∧ meth.sig.returnType = mi.2.2.2.1 ∧ meth.locks = false ∧ meth.name = mi.1.name ∧ c.exceptionTable.toList = tableOf mi.2.2.2.2 ∧ zKs Γ s ∧ zKh Γ s s.heap ∧ zFr d ≤ R.frames ∧ zLo d ≤ R.locals ∧ mc ≤ R.cells ∧ ms ≤ R.slots
/-- the body at pc: locals lv, operand stack st, heap G, k cells and n slots made so far: it comes to an end with Post -/
def zX (Γ : zG) (mi : zMI) (d mc ms pc : Nat) (lv : List (Option Value)) (st : List Value) (G : zH) (k n : Nat) (Post : zP) : Prop :=
  ∀ (p : Program) (e : Env) (R : Room) (s : State) (m : MethodId) (args : Array Value) (below : List Frame) (meth : Method) (c : Code) (H : Heap) (locs : List Loc) (ls : Array Slot),
    zCtx Γ mi d mc ms p R s m args meth c → zHR Γ G s H → va_S (zA Γ) s.heap H locs → zlv mi.2.2.1 ls lv →
    W p Γ.1 e R s m args below meth c H locs k n (vx_MQ below (zQ Γ Post) (zXC Γ Post) args s mc ms (zA Γ)) (F0 m pc ls st)
/-- .. and where q has been thrown there -/
def zT (Γ : zG) (mi : zMI) (d mc ms pc : Nat) (lv : List (Option Value)) (E : String) (G : zH) (k n : Nat) (Post : zP) : Prop :=
  ∀ (p : Program) (e : Env) (R : Room) (s : State) (m : MethodId) (args : Array Value) (below : List Frame) (meth : Method) (c : Code) (H : Heap) (locs : List Loc) (ls : Array Slot) (rest : List Value) (q : Addr) (ce : Cell),
    zCtx Γ mi d mc ms p R s m args meth c → zHR Γ G s H → va_S (zA Γ) s.heap H locs → zlv mi.2.2.1 ls lv → H[q]? = some ce → ce.vm = .none → s.vm.findClass E = some ce.cls →
    vx_W p Γ.1 e R s m args below meth c H locs k n (vx_MQ below (zQ Γ Post) (zXC Γ Post) args s mc ms (zA Γ)) (F0 m pc ls rest) q
def zlift (Post : zV) : zP := fun o G => match o with
  | .inl v => Post v G
  | .inr _ => False
def zlv0 (n : Nat) (args : List Value) : List (Option Value) := args.map some ++ List.replicate (n - args.length) none
theorem zsl1 : ∀ args : List Value, args.all (fun v => v.category == 1) = true → (lg_sl args).length = args.length
  | [], _ => rfl
  | v :: vs, h => by
    simp only [List.all_cons, Bool.and_eq_true, beq_iff_eq] at h
    have ih := zsl1 vs h.2
    have e : lg_sl (v :: vs) = .val v :: lg_sl vs := by simp [lg_sl, h.1]
    rw [e, List.length_cons, List.length_cons, ih]
theorem zargs1 : ∀ (args : List Value) (k : Nat), args.all (fun v => v.category == 1) = true → ∀ (i : Nat) (v : Value), args[i]? = some v → (k + i, v) ∈ lv_args k args
  | [], _, _, i, v, h2 => by simp at h2
  | w :: ws, k, h, i, v, h2 => by
    simp only [List.all_cons, Bool.and_eq_true, beq_iff_eq] at h
    have e : lv_args k (w :: ws) = (k, w) :: lv_args (k + 1) ws := by simp [lv_args, h.1]
    rw [e]
    cases i with
    | zero => simp at h2; subst h2; exact List.mem_cons_self
    | succ i =>
      refine List.mem_cons_of_mem _ ?_
      have := zargs1 ws (k + 1) h.2 i v (by simpa using h2)
      rwa [show k + (i + 1) = k + 1 + i by omega]
theorem zlv_entry {n : Nat} {args : List Value} (h1 : args.all (fun v => v.category == 1) = true) (hn : args.length ≤ n) : zlv n ((lg_sl args ++ List.replicate (n - (lg_sl args).length) Slot.unset).toArray) (zlv0 n args) := by
  obtain ⟨g1, g2, g3⟩ := lv_entry args (n := n) (by rw [zsl1 args h1]; exact hn)
  refine ⟨g1, g2, fun i v hv => g3 (i, v) ?_⟩
  have h0 : args[i]? = some v := by
    unfold zlv0 at hv
    by_cases hi : i < args.length
    · rw [List.getElem?_append_left (by simpa using hi), List.getElem?_map] at hv
      cases ha : args[i]? with
      | none => rw [ha] at hv; cases hv
      | some w => rw [ha] at hv; simpa using hv
    · rw [List.getElem?_append_right (by simpa using hi), List.getElem?_replicate] at hv
      split at hv <;> simp at hv
  have := zargs1 args 0 h1 i v h0
  rwa [Nat.zero_add] at this
set_option maxHeartbeats 1000000 in
/-- a method by its body -/
theorem zMX_of {Γ : zG} {mi : zMI} {d mc ms : Nat} {args : List Value} {G : zH} {Post : zP} (hy : plainName mi.1.cls = true) (h1 : args.all (fun v => v.category == 1) = true) (hn : args.length ≤ mi.2.2.1) (hh : mi.2.2.2.2 = [])
    (k : zX Γ mi d mc ms 0 (zlv0 mi.2.2.1 args) [] G 0 0 Post) : zMX Γ d mi mc ms args G Post := by
  refine vx_ofW (cc := mi.2.1) (maxL := mi.2.2.1) (ret := mi.2.2.2.1) hy rfl ?_
  intro p e s m args' below meth c s₁ B hml hnx hv
  obtain ⟨rfl, hH, hs, hh1⟩ := hv
  have hts := atoms_spec (ws := Cond.code mi.1 mi.2.1 mi.2.2.1 mi.2.2.2.1 :: lw_good) B.pre
  rw [lg_entry_eq]
  refine k p e _ s m _ below meth c s.heap [] _ ⟨B.exec, B.bytes, hml, findClass_of_methodNamed B.named, fun w hw => hts w (List.mem_cons_of_mem _ hw), B.returns, B.notSynchronized, (name_of_methodNamed B.named B.method).1, ?_, hs, hh1, Nat.le_refl _, Nat.le_refl _, Nat.le_refl _, Nat.le_refl _⟩ hH va_S.rf (zlv_entry h1 hn)
  rw [hh]
  cases he : c.exceptionTable.toList with
  | nil => rfl
  | cons x xs => exact absurd (by rw [he]; exact List.mem_cons_self) (fun z => hnx x z)
theorem zM_X {Γ : zG} {mi : zMI} {d mc ms : Nat} {args : List Value} {G : zH} {Post : zV} (h : zMX Γ d mi mc ms args G (zlift Post)) : zM Γ d mi mc ms args G Post := by
  intro p e h1 h2 h3 s m a below h4 h5 h6 h7
  obtain ⟨n, o, g1, g2, g3, g4⟩ := h p e h1 h2 h3 s m a below h4 h5 h6 h7
  refine ⟨n, o, g1, g2, g3, ?_⟩
  rcases g4 with g4 | ⟨q, -, E, ce, L, ⟨⟨G', hF, -⟩, -⟩, -⟩
  · exact g4
  · exact hF.elim
theorem zM_of {Γ : zG} {mi : zMI} {d mc ms : Nat} {args : List Value} {G : zH} {Post : zV} (hy : plainName mi.1.cls = true) (h1 : args.all (fun v => v.category == 1) = true) (hn : args.length ≤ mi.2.2.1) (hh : mi.2.2.2.2 = [])
    (k : zX Γ mi d mc ms 0 (zlv0 mi.2.2.1 args) [] G 0 0 (zlift Post)) : zM Γ d mi mc ms args G Post := zM_X (zMX_of hy h1 hn hh k)
/-- the heap's own facts -/
def zset (G : zH) (a : Nat) (e : zE) : zH := fun b => if b = a then some e else G b
theorem zset_s (G : zH) (a : Nat) (e : zE) : zset G a e a = some e := if_pos rfl
theorem zset_n {G : zH} {a b : Nat} {e : zE} (h : b ≠ a) : zset G a e b = G b := if_neg h
theorem zMt.obj {G : zH} {ws : va_W} {tys : List (ClassId × FieldType)} (h : zMt G ws tys) {a : Nat} {o : Nat × List Value} (ha : G a = some (.inr o)) : ∃ q0 : Nat, ws[q0]? = some (a, Sum.inr o) := List.getElem?_of_mem (h a _ ha)
theorem zMt.arr {G : zH} {ws : va_W} {tys : List (ClassId × FieldType)} (h : zMt G ws tys) {a : Nat} {ty : FieldType} {x : vp_A} (ha : G a = some (.inl (ty, x))) : ∃ (cA : ClassId) (q0 t0 : Nat), ws[q0]? = some (a, Sum.inl (cA, x)) ∧ tys[t0]? = some (cA, ty) := by
  obtain ⟨cA, h1, h2⟩ := h a _ ha
  obtain ⟨q0, h3⟩ := List.getElem?_of_mem h1
  obtain ⟨t0, h4⟩ := List.getElem?_of_mem h2
  exact ⟨cA, q0, t0, h3, h4⟩
theorem zset_mem {ws : va_W} {q0 a : Nat} {x y : va_E} (h0 : ws[q0]? = some (a, x)) {b : Nat} {z : va_E} (hb : b ≠ a) (hz : (b, z) ∈ ws) : (b, z) ∈ ws.set q0 (a, y) := by
  obtain ⟨j, hj⟩ := List.getElem?_of_mem hz
  refine List.mem_of_getElem? (i := j) ?_
  rw [List.getElem?_set_ne]
  · exact hj
  · intro e
    subst e
    rw [hj] at h0
    exact hb (congrArg Prod.fst (Option.some.inj h0))
theorem zset_mem0 {ws : va_W} {q0 a : Nat} {x y : va_E} (h0 : ws[q0]? = some (a, x)) : (a, y) ∈ ws.set q0 (a, y) := by
  refine List.mem_of_getElem? (i := q0) ?_
  rw [List.getElem?_set_self (List.getElem?_eq_some_iff.mp h0).1]
theorem zMt.setO {G : zH} {ws : va_W} {tys : List (ClassId × FieldType)} (h : zMt G ws tys) {a q0 : Nat} {x : va_E} (h0 : ws[q0]? = some (a, x)) (o : Nat × List Value) : zMt (zset G a (.inr o)) (ws.set q0 (a, Sum.inr o)) tys := by
  intro b e hb
  by_cases hba : b = a
  · subst hba
    rw [zset_s] at hb
    cases hb
    exact zset_mem0 h0
  · rw [zset_n hba] at hb
    have h1 := h b e hb
    rcases e with ⟨ty, y⟩ | o'
    · obtain ⟨cA, g1, g2⟩ := h1
      exact ⟨cA, zset_mem h0 hba g1, g2⟩
    · exact zset_mem h0 hba h1
theorem zMt.setA {G : zH} {ws : va_W} {tys : List (ClassId × FieldType)} (h : zMt G ws tys) {a q0 t0 : Nat} {x : va_E} {cA : ClassId} {ty : FieldType} (h0 : ws[q0]? = some (a, x)) (ht : tys[t0]? = some (cA, ty)) (y : vp_A) : zMt (zset G a (.inl (ty, y))) (ws.set q0 (a, Sum.inl (cA, y))) tys := by
  intro b e hb
  by_cases hba : b = a
  · subst hba
    rw [zset_s] at hb
    cases hb
    exact ⟨cA, zset_mem0 h0, List.mem_of_getElem? ht⟩
  · rw [zset_n hba] at hb
    have h1 := h b e hb
    rcases e with ⟨ty', y'⟩ | o'
    · obtain ⟨cA', g1, g2⟩ := h1
      exact ⟨cA', zset_mem h0 hba g1, g2⟩
    · exact zset_mem h0 hba h1
theorem zMt.none {G : zH} {ws : va_W} {tys : List (ClassId × FieldType)} (h : zMt G ws tys) {A : Nat → Prop} {q : Nat} {x : va_E} (hD : va_D A (ws ++ [(q, x)])) : G q = none := by
  cases hG : G q with
  | none => rfl
  | some e =>
    have h1 := h q e hG
    have h2 : ∃ y, (q, y) ∈ ws := by
      rcases e with ⟨ty, y⟩ | o
      · obtain ⟨cA, g1, -⟩ := h1
        exact ⟨_, g1⟩
      · exact ⟨_, h1⟩
    obtain ⟨y, hy⟩ := h2
    obtain ⟨j, hj⟩ := List.getElem?_of_mem hy
    have hl : j < ws.length := (List.getElem?_eq_some_iff.mp hj).1
    have e2 := hD.1 j ws.length (q, y) (q, x) (by rw [List.getElem?_append_left hl]; exact hj) (by rw [List.getElem?_append_right (Nat.le_refl _)]; simp) rfl
    omega
theorem zMt.pushO {G : zH} {ws : va_W} {tys : List (ClassId × FieldType)} (h : zMt G ws tys) (q : Nat) (o : Nat × List Value) : zMt (zset G q (.inr o)) (ws ++ [(q, Sum.inr o)]) tys := by
  intro b e hb
  by_cases hbq : b = q
  · subst hbq
    rw [zset_s] at hb
    cases hb
    exact List.mem_append_right _ List.mem_cons_self
  · rw [zset_n hbq] at hb
    have h1 := h b e hb
    rcases e with ⟨ty, y⟩ | o'
    · obtain ⟨cA, g1, g2⟩ := h1
      exact ⟨cA, List.mem_append_left _ g1, g2⟩
    · exact List.mem_append_left _ h1
theorem zMt.pushA {G : zH} {ws : va_W} {tys : List (ClassId × FieldType)} (h : zMt G ws tys) (q : Nat) (cA : ClassId) (ty : FieldType) (x : vp_A) : zMt (zset G q (.inl (ty, x))) (ws ++ [(q, Sum.inl (cA, x))]) (tys ++ [(cA, ty)]) := by
  intro b e hb
  by_cases hbq : b = q
  · subst hbq
    rw [zset_s] at hb
    cases hb
    exact ⟨cA, List.mem_append_right _ List.mem_cons_self, List.mem_append_right _ List.mem_cons_self⟩
  · rw [zset_n hbq] at hb
    have h1 := h b e hb
    rcases e with ⟨ty', y⟩ | o'
    · obtain ⟨cA', g1, g2⟩ := h1
      exact ⟨cA', List.mem_append_left _ g1, List.mem_append_left _ g2⟩
    · exact List.mem_append_left _ h1
