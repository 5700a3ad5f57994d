def zRc (γ δ : zSt) (c : Nat → Int32) (n p k q : Nat) (a : List Int32) (j : Nat) : Prop := zTa δ c n q ∧ zTs γ δ ∧ δ 2 k = c p ∧ (∀ i, i < k → δ 2 i = γ 2 i) ∧ (∀ i, i < a.length → δ 3 (3 * k + i) = a.getD i 0) ∧ (∀ i, i < 3 * k → δ 3 i = γ 3 i) ∧ δ 0 9 = γ 0 9 ∧ zprt c n (zform (c p)) (p + 1) [] = zprt c n ((zform (c p)).drop j) q a ∧ a.length ≤ j
section ZRC
variable {γ δ : zSt} {c : Nat → Int32} {n p k q q2 j d : Nat} {a : List Int32} {v : Int32}
theorem zRc.N (h : zRc γ δ c n p k q a j) (hdr : (zform (c p)).drop j = d :: (zform (c p)).drop (j + 1)) (hd : d = 49 ∨ d = 50) (hn : znum c n (decide (d = 50)) q = some (v, q2)) : zRc γ (zu (zu δ 0 8 (nI q2)) 3 (3 * k + a.length) v) c n p k q2 (a ++ [v]) (j + 1) := by
  obtain ⟨h1, h2, h3, h4, h5, h6, h7, h8, h9⟩ := h
  refine ⟨(h1.p (znum_q hn).2).k (Or.inr rfl) _ _, h2.tr ((zTs.p _).tr (zTs.k (Or.inr rfl) _ _)), ?_, fun i hi => ?_, fun i hi => ?_, fun i hi => ?_, ?_, ?_, ?_⟩
  · rw [zu_r (by decide), zu_r (by decide)]; exact h3
  · rw [zu_r (by decide), zu_r (by decide)]; exact h4 i hi
  · rw [List.length_append, List.length_singleton] at hi
    by_cases e : i < a.length
    · rw [zu_j (by omega), zu_r (by decide), zgetD_l e]
      exact h5 i e
    · obtain rfl : i = a.length := by omega
      rw [zu_s, zgetD_x]
  · rw [zu_j (by omega), zu_r (by decide)]; exact h6 i hi
  · rw [zu_r (by decide), zu_j (by decide)]; exact h7
  · rw [h8, hdr, zprt_d hd hn]
  · rw [List.length_append, List.length_singleton]; omega
theorem zRc.L (h : zRc γ δ c n p k q a j) (hdr : (zform (c p)).drop j = d :: (zform (c p)).drop (j + 1)) (hd : ¬ (d = 49 ∨ d = 50)) (hl : zlit c n q (nI d) = true) : zRc γ (zu δ 0 8 (nI (q + 1))) c n p k (q + 1) a (j + 1) := by
  obtain ⟨h1, h2, h3, h4, h5, h6, h7, h8, h9⟩ := h
  refine ⟨h1.p (by have := (zlit_t hl).1; omega), h2.tr (zTs.p _), ?_, fun i hi => ?_, fun i hi => ?_, fun i hi => ?_, ?_, ?_, by omega⟩
  · rw [zu_r (by decide)]; exact h3
  · rw [zu_r (by decide)]; exact h4 i hi
  · rw [zu_r (by decide)]; exact h5 i hi
  · rw [zu_r (by decide)]; exact h6 i hi
  · rw [zu_j (by decide)]; exact h7
  · rw [h8, hdr, zprt_l hd hl]
theorem zRc.cm (h : zRc γ δ c n p k q a j) (hp : p < n) (hf : zform (c p) ≠ []) : zcmd c n p = zprt c n ((zform (c p)).drop j) q a := by
  rw [zcmd, if_pos ⟨hp, hf⟩]
  exact h.2.2.2.2.2.2.2.1
end ZRC
theorem zformlen (x : Int32) : (zform x).length ≤ 5 := by
  have := zlen5 (zfx x) (zfx_lt x)
  rw [(zfx_f x).1]
  omega
theorem zlen_nil {x : Int32} (h : zLen.getD (zfx x) 0 = 0) : zform x = [] := List.length_eq_zero_iff.mp ((zfx_f x).1.trans h)
/-- what is told of the commands found, in the class -/
def zTolC (t u : Nat → Int32) (l : List (Int32 × List Int32)) : Prop := ∀ j, j < l.length → t j = (l.getD j (0, [])).1 ∧ ∀ i, i < (l.getD j (0, [])).2.length → u (3 * j + i) = (l.getD j (0, [])).2.getD i 0
theorem zTolC.snoc {t u t' u' : Nat → Int32} {l : List (Int32 × List Int32)} {x : Int32} {ns : List Int32} (h : zTolC t u l) (h3 : ∀ j, j < l.length → (l.getD j (0, [])).2.length ≤ 3) (e1 : ∀ i, i < l.length → t' i = t i) (e2 : ∀ i, i < 3 * l.length → u' i = u i) (h1 : t' l.length = x) (h2 : ∀ i, i < ns.length → u' (3 * l.length + i) = ns.getD i 0) : zTolC t' u' (l ++ [(x, ns)]) := fun j hj => by
  rw [List.length_append, List.length_singleton] at hj
  by_cases e : j < l.length
  · rw [zgetD_l e]
    have h9 := h3 j e
    exact ⟨(e1 j e).trans (h j e).1, fun i hi => (e2 (3 * j + i) (by omega)).trans ((h j e).2 i hi)⟩
  · obtain rfl : j = l.length := by omega
    rw [zgetD_x]
    exact ⟨h1, h2⟩
set_option maxHeartbeats 4000000 in
set_option maxRecDepth 10000 in
theorem sX9_readCommand {Γ : zG} {d : Nat} {G : zH} {ax : Nat → Nat} {bq m : Nat} {ρ : Nat → zSt} {γ : zSt} (hC : zCls G ax bq m ρ γ) {Post : zV} {c : Nat → Int32} {n p : Nat} (hA : zTa γ c n p) {k : Nat} (hk : k ≤ 20) (hFl : ∀ q ns, zcmd c n p = (false, q, ns) → ∀ G1 δ, zCls G1 ax bq m ρ δ → zFC G G1 ax bq → zTs γ δ → zTa δ c n q → Post (some (.int 0)) G1) (hTr : ∀ q ns, zcmd c n p = (true, q, ns) → ∀ G1 δ, zCls G1 ax bq m ρ δ → zFC G G1 ax bq → zTs γ δ → zTa δ c n q → δ 2 k = c p → (∀ i, i < k → δ 2 i = γ 2 i) → (∀ i, i < ns.length → δ 3 (3 * k + i) = ns.getD i 0) → (∀ i, i < 3 * k → δ 3 i = γ 3 i) → δ 0 9 = γ 0 9 → Post (some (.int 1)) G1) : zM Γ (d + 5) mX9_readCommand 0 0 [.ref (ax 4), .int (nI k)] G Post := by
  refine zM_of pnX9 rfl (Nat.le_of_ble_eq_true rfl) rfl ?_
  have hQ : zFC G G ax bq := zFC.rf
  refine z_aload_n dX9_readCommand_0 rfl ?_
  refine z_V0 (mi' := mX9_signHere) dX9_readCommand_1 lX9_40 nX9_signHere kX9_signHere (by decide) (Nat.le_of_ble_eq_true rfl) (Nat.le_refl _) (Nat.le_refl _) (hC.1 _ (by decide)) rfl rfl ?_
  refine sX9_signHere hC hA ?_
  refine z_istore_n dX9_readCommand_4 (by decide) rfl ?_
  refine z_iload_n dX9_readCommand_5 rfl ?_
  refine z_S1 (mi' := mX9_formOf) dX9_readCommand_6 lX9_56 nX9_formOf kX9_formOf (by decide) (Nat.le_of_ble_eq_true rfl) (Nat.le_refl _) (Nat.le_refl _) ?_
  refine sX9_formOf ?_
  refine z_astore_n dX9_readCommand_9 (by decide) rfl ?_
  refine z_aload_n dX9_readCommand_10 rfl ?_
  refine z_VK0 (mi' := mJ0_isEmpty_aae02) dX9_readCommand_11 lX9_60 nJ0_isEmpty_aae02 kJ0_isEmpty_aae02 (by decide) (Nat.le_of_ble_eq_true rfl) (Nat.le_refl _) (Nat.le_refl _) (zfx_lt _) rfl ?_
  refine sJ0_isEmpty_aae02 (zfx_lt _) ?_
  refine z_if_eq (tgt := 19) dX9_readCommand_14 (by decide) (fun c1 => ?_) (fun c1 => ?_)
  · have hln : ¬ zLen.getD (zfx (zsg c n p)) 0 = 0 := zb_0.mp c1
    have hp : p < n := Nat.lt_of_not_le fun q => hln (by rw [zsg, if_neg (Nat.not_lt.mpr q)]; decide)
    have hx : zsg c n p = c p := if_pos hp
    rw [hx] at hln
    rw [hx]
    have hfn : zform (c p) ≠ [] := fun q => hln (by rw [← (zfx_f (c p)).1, q]; rfl)
    have hf5 := zformlen (c p)
    refine z_aload_n dX9_readCommand_19 rfl ?_
    refine z_dup dX9_readCommand_20 rfl ?_
    refine z_get dX9_readCommand_21 fX9_27.r (hC.1 _ (by decide)) rfl ?_
    refine z_iconst (v := 1) dX9_readCommand_24 (by decide) ?_
    rw [hA.2.2.1]
    refine z_iadd dX9_readCommand_25 ?_
    rw [nI_1]
    refine z_put dX9_readCommand_26 fX9_27 (hC.1 _ (by decide)) rfl rfl (Nat.le_of_ble_eq_true rfl) ?_
    refine z_cnum hC 8 (nI (p + 1)) (by decide) rfl (fun _ hC hF => ?_)
    have hQ := hQ.tr hF
    refine z_aload_n dX9_readCommand_29 rfl ?_
    refine z_get dX9_readCommand_30 fX9_17.r (hC.1 _ (by decide)) rfl ?_
    refine z_iload_n dX9_readCommand_33 rfl ?_
    refine z_iload_n dX9_readCommand_34 rfl ?_
    refine z_S3 (mi' := mX7_set) dX9_readCommand_35 lX9_66 nX7_set kX7_set (by decide) (Nat.le_of_ble_eq_true rfl) (Nat.le_refl _) (Nat.le_refl _) ?_
    refine sX7_set (hC.1 6 (by decide)) (by decide) (show k < 60 by omega) ?_
    refine z_carr hC 2 k (c p) (by decide) (by decide) (by simp only [zclE, zu_row]) (fun G2 hC hF9 => ?_)
    have hQ := hQ.tr hF9
    refine z_iload_n dX9_readCommand_38 rfl ?_
    refine z_iconst (v := 3) dX9_readCommand_39 (by decide) ?_
    refine z_imul dX9_readCommand_40 ?_
    rw [show nI k * 3 = nI (3 * k) by rw [show (3 : Int32) = nI 3 from rfl, pk_mul, Nat.mul_comm]]
    refine z_istore dX9_readCommand_41 (by decide) rfl ?_
    refine z_iconst (v := 0) dX9_readCommand_43 (by decide) ?_
    refine z_istore dX9_readCommand_44 (by decide) rfl ?_
    have key : ∀ (r : Nat) (j : Nat) (G1 : zH) (δ : zSt) (q : Nat) (a : List Int32), j ≤ (zform (c p)).length → (zform (c p)).length < j + r → zCls G1 ax bq m ρ δ → zFC G G1 ax bq → zRc γ δ c n p k q a j → zX Γ mX9_readCommand (d + 5) 0 0 46 [some (.ref (ax 4)), some (.int (nI k)), some (.int (c p)), some (.ref (Γ.2.2.2.1 (zfx (c p)))), some (.int (nI (3 * k + a.length))), some (.int (nI j)), none] [] G1 0 0 (zlift Post) := by
      intro r
      induction r with
      | zero =>
        intro j G1 δ q a hi1 hi2 hC hQ hRc
        exact absurd hi2 (by omega)
      | succ r ih =>
        intro j G1 δ q a hi1 hi2 hC hQ hRc
        have haj := hRc.2.2.2.2.2.2.2.2
        have hA := hRc.1
        refine z_iload dX9_readCommand_46 rfl ?_
        refine z_aload_n dX9_readCommand_48 rfl ?_
        refine z_VK0 (mi' := mJ0_length_8abf5) dX9_readCommand_49 lX9_70 nJ0_length_8abf5 kJ0_length_8abf5 (by decide) (Nat.le_of_ble_eq_true rfl) (Nat.le_refl _) (Nat.le_refl _) (zfx_lt _) rfl ?_
        refine sJ0_length_8abf5 (zfx_lt _) ?_
        rw [← (zfx_f (c p)).1]
        refine z_icmp_ge (tgt := 150) dX9_readCommand_52 (by decide) (fun c1 => ?_) (fun c1 => ?_)
        · have hi9 := zgeN (N := (zform (c p)).length) rfl (by omega) (by omega) c1
          have hjL : j = (zform (c p)).length := by omega
          refine z_iconst (v := 1) dX9_readCommand_150 (by decide) ?_
          exact z_ireturn (mi := mX9_readCommand) dX9_readCommand_151 rfl rfl (Nat.le_refl _) (Nat.le_refl _) (hTr q a ((hRc.cm hp hfn).trans (by rw [hjL, List.drop_length, zprt])) _ _ hC hQ hRc.2.1 hA hRc.2.2.1 hRc.2.2.2.1 hRc.2.2.2.2.1 hRc.2.2.2.2.2.1 hRc.2.2.2.2.2.2.1)
        · have hi9 := zltN (N := (zform (c p)).length) rfl (by omega) (by omega) c1
          obtain ⟨d9, hd9⟩ : ∃ d9, d9 = (zform (c p)).getD j 0 := ⟨_, rfl⟩
          have hdr : (zform (c p)).drop j = d9 :: (zform (c p)).drop (j + 1) := by rw [hd9]; exact zdrop_s hi9
          have hd128 : d9 < 128 := by rw [hd9]; exact ((zfx_f (c p)).2 j hi9).2
          refine z_aload_n dX9_readCommand_55 rfl ?_
          refine z_iload dX9_readCommand_56 rfl ?_
          refine z_VK1 (mi' := mJ0_charAt_5068e) dX9_readCommand_58 lX9_73 nJ0_charAt_5068e kJ0_charAt_5068e (by decide) (Nat.le_of_ble_eq_true rfl) (Nat.le_refl _) (Nat.le_refl _) (zfx_lt _) rfl ?_
          refine sJ0_charAt_5068e (zfx_lt _) (by rw [← (zfx_f (c p)).1]; exact hi9) ?_
          rw [((zfx_f (c p)).2 j hi9).1, ← hd9]
          refine z_istore dX9_readCommand_61 (by decide) rfl ?_
          refine z_iload dX9_readCommand_63 rfl ?_
          refine z_bipush (v := 49) dX9_readCommand_65 (by decide) ?_
          refine z_icmp_eq (tgt := 77) dX9_readCommand_67 (by decide) (fun c2 => ?_) (fun c2 => ?_)
          · have hd1 : d9 = 49 ∨ d9 = 50 := Or.inl (znI_inj (by omega) (by decide) (show nI d9 = nI 49 from c2))
            refine z_aload_n dX9_readCommand_77 rfl ?_
            refine z_V0 (mi' := mX9_signHere) dX9_readCommand_78 lX9_40 nX9_signHere kX9_signHere (by decide) (Nat.le_of_ble_eq_true rfl) (Nat.le_refl _) (Nat.le_refl _) (hC.1 _ (by decide)) rfl rfl ?_
            refine sX9_signHere hC hA ?_
            refine z_S1 (mi' := mX9_isDigit) dX9_readCommand_81 lX9_77 nX9_isDigit kX9_isDigit (by decide) (Nat.le_of_ble_eq_true rfl) (Nat.le_refl _) (Nat.le_refl _) ?_
            refine sX9_isDigit ?_
            refine z_if_ne (tgt := 89) dX9_readCommand_84 (by decide) (fun c3 => ?_) (fun c3 => ?_)
            · have hz : zisd c n q = true := zsg_d.mp (zb_n.mp c3)
              refine z_aload_n dX9_readCommand_89 rfl ?_
              refine z_get dX9_readCommand_90 fX9_21.r (hC.1 _ (by decide)) rfl ?_
              refine z_iload dX9_readCommand_93 rfl ?_
              refine z_aload_n dX9_readCommand_95 rfl ?_
              refine z_iload dX9_readCommand_96 rfl ?_
              refine z_bipush (v := 50) dX9_readCommand_98 (by decide) ?_
              refine z_icmp_ne (tgt := 107) dX9_readCommand_100 (by decide) (fun c4 => ?_) (fun c4 => ?_)
              · have hd50 : ¬ d9 = 50 := fun q9 => c4 (by rw [q9]; rfl)
                refine z_iconst (v := 0) dX9_readCommand_107 (by decide) ?_
                refine z_V1 (mi' := mX9_readNumber) dX9_readCommand_108 lX9_81 nX9_readNumber kX9_readNumber (by decide) (Nat.le_of_ble_eq_true rfl) (Nat.le_refl _) (Nat.le_refl _) (hC.1 _ (by decide)) rfl rfl ?_
                refine sX9_readNumber_false hC hRc.1 hz (fun v q2 hn _ hC hF9 => ?_)
                have hQ := hQ.tr hF9
                have hn9 : znum c n (decide (d9 = 50)) q = some (v, q2) := by rw [decide_eq_false hd50]; exact hn
                refine z_S3 (mi' := mX7_set) dX9_readCommand_111 lX9_66 nX7_set kX7_set (by decide) (Nat.le_of_ble_eq_true rfl) (Nat.le_refl _) (Nat.le_refl _) ?_
                refine sX7_set (hC.1 7 (by decide)) (by decide) (show 3 * k + a.length < 180 by omega) ?_
                refine z_carr hC 3 (3 * k + a.length) v (by decide) (by decide) (by simp only [zclE, zu_row]) (fun G2 hC hF9 => ?_)
                have hQ := hQ.tr hF9
                refine z_iinc dX9_readCommand_114 rfl rfl (by decide) rfl ?_
                refine z_goto (tgt := 144) dX9_readCommand_117 (by decide) ?_
                refine z_iinc dX9_readCommand_144 rfl rfl (by decide) rfl ?_
                refine z_goto (tgt := 46) dX9_readCommand_147 (by decide) ?_
                exact z_sub (lv' := [some (.ref (ax 4)), some (.int (nI k)), some (.int (c p)), some (.ref (Γ.2.2.2.1 (zfx (c p)))), some (.int (nI (3 * k + (a ++ [v]).length))), some (.int (nI (j + 1))), none]) ⟨rfl, rfl, rfl, rfl, zsl ((zinc _).trans (by rw [List.length_append, List.length_singleton]; rfl)), zsl (zinc j), trivial⟩ (ih (j + 1) _ _ q2 (a ++ [v]) (by omega) (by omega) hC hQ (hRc.N hdr hd1 hn9))
              · have hd50 : d9 = 50 := znI_inj (by omega) (by decide) (show nI d9 = nI 50 from c4)
                refine z_iconst (v := 1) dX9_readCommand_103 (by decide) ?_
                refine z_goto (tgt := 108) dX9_readCommand_104 (by decide) ?_
                refine z_V1 (mi' := mX9_readNumber) dX9_readCommand_108 lX9_81 nX9_readNumber kX9_readNumber (by decide) (Nat.le_of_ble_eq_true rfl) (Nat.le_refl _) (Nat.le_refl _) (hC.1 _ (by decide)) rfl rfl ?_
                refine sX9_readNumber_true hC hRc.1 hz (fun v q2 hn _ hC hF9 => ?_)
                have hQ := hQ.tr hF9
                have hn9 : znum c n (decide (d9 = 50)) q = some (v, q2) := by rw [decide_eq_true hd50]; exact hn
                refine z_S3 (mi' := mX7_set) dX9_readCommand_111 lX9_66 nX7_set kX7_set (by decide) (Nat.le_of_ble_eq_true rfl) (Nat.le_refl _) (Nat.le_refl _) ?_
                refine sX7_set (hC.1 7 (by decide)) (by decide) (show 3 * k + a.length < 180 by omega) ?_
                refine z_carr hC 3 (3 * k + a.length) v (by decide) (by decide) (by simp only [zclE, zu_row]) (fun G2 hC hF9 => ?_)
                have hQ := hQ.tr hF9
                refine z_iinc dX9_readCommand_114 rfl rfl (by decide) rfl ?_
                refine z_goto (tgt := 144) dX9_readCommand_117 (by decide) ?_
                refine z_iinc dX9_readCommand_144 rfl rfl (by decide) rfl ?_
                refine z_goto (tgt := 46) dX9_readCommand_147 (by decide) ?_
                exact z_sub (lv' := [some (.ref (ax 4)), some (.int (nI k)), some (.int (c p)), some (.ref (Γ.2.2.2.1 (zfx (c p)))), some (.int (nI (3 * k + (a ++ [v]).length))), some (.int (nI (j + 1))), none]) ⟨rfl, rfl, rfl, rfl, zsl ((zinc _).trans (by rw [List.length_append, List.length_singleton]; rfl)), zsl (zinc j), trivial⟩ (ih (j + 1) _ _ q2 (a ++ [v]) (by omega) (by omega) hC hQ (hRc.N hdr hd1 hn9))
            · have hz : zisd c n q = false := zbf (fun q9 => zb_0.mp c3 (zsg_d.mpr q9))
              refine z_iconst (v := 0) dX9_readCommand_87 (by decide) ?_
              exact z_ireturn (mi := mX9_readCommand) dX9_readCommand_88 rfl rfl (Nat.le_refl _) (Nat.le_refl _) (hFl q a ((hRc.cm hp hfn).trans (by rw [hdr, zprt_dn hd1 hz])) _ _ hC hQ hRc.2.1 hA)
          · have hd49 : d9 ≠ 49 := fun q9 => c2 (by rw [q9]; rfl)
            refine z_iload dX9_readCommand_70 rfl ?_
            refine z_bipush (v := 50) dX9_readCommand_72 (by decide) ?_
            refine z_icmp_ne (tgt := 120) dX9_readCommand_74 (by decide) (fun c5 => ?_) (fun c5 => ?_)
            · have hd0 : nI d9 ≠ 0 := by rcases zformL (c p) j hi9 with e | e | e | e | e <;> (rw [hd9, e]; decide)
              have hd2 : ¬ (d9 = 49 ∨ d9 = 50) := fun q9 => q9.elim hd49 (fun q9 => c5 (by rw [q9]; rfl))
              refine z_aload_n dX9_readCommand_120 rfl ?_
              refine z_V0 (mi' := mX9_signHere) dX9_readCommand_121 lX9_40 nX9_signHere kX9_signHere (by decide) (Nat.le_of_ble_eq_true rfl) (Nat.le_refl _) (Nat.le_refl _) (hC.1 _ (by decide)) rfl rfl ?_
              refine sX9_signHere hC hA ?_
              refine z_iload dX9_readCommand_124 rfl ?_
              refine z_icmp_ne (tgt := 142) dX9_readCommand_126 (by decide) (fun c6 => ?_) (fun c6 => ?_)
              · have hl : zlit c n q (nI d9) = false := zbf (fun q9 => c6 ((zsg_l hd0).mpr q9))
                refine z_iconst (v := 0) dX9_readCommand_142 (by decide) ?_
                exact z_ireturn (mi := mX9_readCommand) dX9_readCommand_143 rfl rfl (Nat.le_refl _) (Nat.le_refl _) (hFl q a ((hRc.cm hp hfn).trans (by rw [hdr, zprt_ln hd2 hl])) _ _ hC hQ hRc.2.1 hA)
              · have hl : zlit c n q (nI d9) = true := (zsg_l hd0).mp c6
                have hl1 := (zlit_t hl).1
                refine z_aload_n dX9_readCommand_129 rfl ?_
                refine z_dup dX9_readCommand_130 rfl ?_
                refine z_get dX9_readCommand_131 fX9_27.r (hC.1 _ (by decide)) rfl ?_
                refine z_iconst (v := 1) dX9_readCommand_134 (by decide) ?_
                rw [hA.2.2.1]
                refine z_iadd dX9_readCommand_135 ?_
                rw [nI_1]
                refine z_put dX9_readCommand_136 fX9_27 (hC.1 _ (by decide)) rfl rfl (Nat.le_of_ble_eq_true rfl) ?_
                refine z_cnum hC 8 (nI (q + 1)) (by decide) rfl (fun _ hC hF => ?_)
                have hQ := hQ.tr hF
                refine z_goto (tgt := 144) dX9_readCommand_139 (by decide) ?_
                refine z_iinc dX9_readCommand_144 rfl rfl (by decide) rfl ?_
                refine z_goto (tgt := 46) dX9_readCommand_147 (by decide) ?_
                exact z_sub (lv' := [some (.ref (ax 4)), some (.int (nI k)), some (.int (c p)), some (.ref (Γ.2.2.2.1 (zfx (c p)))), some (.int (nI (3 * k + a.length))), some (.int (nI (j + 1))), none]) ⟨rfl, rfl, rfl, rfl, rfl, zsl (zinc j), trivial⟩ (ih (j + 1) _ _ (q + 1) a (by omega) (by omega) hC hQ (hRc.L hdr hd2 hl))
            · have hd1 : d9 = 49 ∨ d9 = 50 := Or.inr (znI_inj (by omega) (by decide) (show nI d9 = nI 50 from c5))
              refine z_aload_n dX9_readCommand_77 rfl ?_
              refine z_V0 (mi' := mX9_signHere) dX9_readCommand_78 lX9_40 nX9_signHere kX9_signHere (by decide) (Nat.le_of_ble_eq_true rfl) (Nat.le_refl _) (Nat.le_refl _) (hC.1 _ (by decide)) rfl rfl ?_
              refine sX9_signHere hC hA ?_
              refine z_S1 (mi' := mX9_isDigit) dX9_readCommand_81 lX9_77 nX9_isDigit kX9_isDigit (by decide) (Nat.le_of_ble_eq_true rfl) (Nat.le_refl _) (Nat.le_refl _) ?_
              refine sX9_isDigit ?_
              refine z_if_ne (tgt := 89) dX9_readCommand_84 (by decide) (fun c7 => ?_) (fun c7 => ?_)
              · have hz : zisd c n q = true := zsg_d.mp (zb_n.mp c7)
                refine z_aload_n dX9_readCommand_89 rfl ?_
                refine z_get dX9_readCommand_90 fX9_21.r (hC.1 _ (by decide)) rfl ?_
                refine z_iload dX9_readCommand_93 rfl ?_
                refine z_aload_n dX9_readCommand_95 rfl ?_
                refine z_iload dX9_readCommand_96 rfl ?_
                refine z_bipush (v := 50) dX9_readCommand_98 (by decide) ?_
                refine z_icmp_ne (tgt := 107) dX9_readCommand_100 (by decide) (fun c8 => ?_) (fun c8 => ?_)
                · have hd50 : ¬ d9 = 50 := fun q9 => c8 (by rw [q9]; rfl)
                  refine z_iconst (v := 0) dX9_readCommand_107 (by decide) ?_
                  refine z_V1 (mi' := mX9_readNumber) dX9_readCommand_108 lX9_81 nX9_readNumber kX9_readNumber (by decide) (Nat.le_of_ble_eq_true rfl) (Nat.le_refl _) (Nat.le_refl _) (hC.1 _ (by decide)) rfl rfl ?_
                  refine sX9_readNumber_false hC hRc.1 hz (fun v q2 hn _ hC hF9 => ?_)
                  have hQ := hQ.tr hF9
                  have hn9 : znum c n (decide (d9 = 50)) q = some (v, q2) := by rw [decide_eq_false hd50]; exact hn
                  refine z_S3 (mi' := mX7_set) dX9_readCommand_111 lX9_66 nX7_set kX7_set (by decide) (Nat.le_of_ble_eq_true rfl) (Nat.le_refl _) (Nat.le_refl _) ?_
                  refine sX7_set (hC.1 7 (by decide)) (by decide) (show 3 * k + a.length < 180 by omega) ?_
                  refine z_carr hC 3 (3 * k + a.length) v (by decide) (by decide) (by simp only [zclE, zu_row]) (fun G2 hC hF9 => ?_)
                  have hQ := hQ.tr hF9
                  refine z_iinc dX9_readCommand_114 rfl rfl (by decide) rfl ?_
                  refine z_goto (tgt := 144) dX9_readCommand_117 (by decide) ?_
                  refine z_iinc dX9_readCommand_144 rfl rfl (by decide) rfl ?_
                  refine z_goto (tgt := 46) dX9_readCommand_147 (by decide) ?_
                  exact z_sub (lv' := [some (.ref (ax 4)), some (.int (nI k)), some (.int (c p)), some (.ref (Γ.2.2.2.1 (zfx (c p)))), some (.int (nI (3 * k + (a ++ [v]).length))), some (.int (nI (j + 1))), none]) ⟨rfl, rfl, rfl, rfl, zsl ((zinc _).trans (by rw [List.length_append, List.length_singleton]; rfl)), zsl (zinc j), trivial⟩ (ih (j + 1) _ _ q2 (a ++ [v]) (by omega) (by omega) hC hQ (hRc.N hdr hd1 hn9))
                · have hd50 : d9 = 50 := znI_inj (by omega) (by decide) (show nI d9 = nI 50 from c8)
                  refine z_iconst (v := 1) dX9_readCommand_103 (by decide) ?_
                  refine z_goto (tgt := 108) dX9_readCommand_104 (by decide) ?_
                  refine z_V1 (mi' := mX9_readNumber) dX9_readCommand_108 lX9_81 nX9_readNumber kX9_readNumber (by decide) (Nat.le_of_ble_eq_true rfl) (Nat.le_refl _) (Nat.le_refl _) (hC.1 _ (by decide)) rfl rfl ?_
                  refine sX9_readNumber_true hC hRc.1 hz (fun v q2 hn _ hC hF9 => ?_)
                  have hQ := hQ.tr hF9
                  have hn9 : znum c n (decide (d9 = 50)) q = some (v, q2) := by rw [decide_eq_true hd50]; exact hn
                  refine z_S3 (mi' := mX7_set) dX9_readCommand_111 lX9_66 nX7_set kX7_set (by decide) (Nat.le_of_ble_eq_true rfl) (Nat.le_refl _) (Nat.le_refl _) ?_
                  refine sX7_set (hC.1 7 (by decide)) (by decide) (show 3 * k + a.length < 180 by omega) ?_
                  refine z_carr hC 3 (3 * k + a.length) v (by decide) (by decide) (by simp only [zclE, zu_row]) (fun G2 hC hF9 => ?_)
                  have hQ := hQ.tr hF9
                  refine z_iinc dX9_readCommand_114 rfl rfl (by decide) rfl ?_
                  refine z_goto (tgt := 144) dX9_readCommand_117 (by decide) ?_
                  refine z_iinc dX9_readCommand_144 rfl rfl (by decide) rfl ?_
                  refine z_goto (tgt := 46) dX9_readCommand_147 (by decide) ?_
                  exact z_sub (lv' := [some (.ref (ax 4)), some (.int (nI k)), some (.int (c p)), some (.ref (Γ.2.2.2.1 (zfx (c p)))), some (.int (nI (3 * k + (a ++ [v]).length))), some (.int (nI (j + 1))), none]) ⟨rfl, rfl, rfl, rfl, zsl ((zinc _).trans (by rw [List.length_append, List.length_singleton]; rfl)), zsl (zinc j), trivial⟩ (ih (j + 1) _ _ q2 (a ++ [v]) (by omega) (by omega) hC hQ (hRc.N hdr hd1 hn9))
              · have hz : zisd c n q = false := zbf (fun q9 => zb_0.mp c7 (zsg_d.mpr q9))
                refine z_iconst (v := 0) dX9_readCommand_87 (by decide) ?_
                exact z_ireturn (mi := mX9_readCommand) dX9_readCommand_88 rfl rfl (Nat.le_refl _) (Nat.le_refl _) (hFl q a ((hRc.cm hp hfn).trans (by rw [hdr, zprt_dn hd1 hz])) _ _ hC hQ hRc.2.1 hA)
    exact z_sub (lv' := [some (.ref (ax 4)), some (.int (nI k)), some (.int (c p)), some (.ref (Γ.2.2.2.1 (zfx (c p)))), some (.int (nI (3 * k + ([] : List Int32).length))), some (.int (nI 0)), none]) ⟨rfl, rfl, rfl, rfl, rfl, rfl, trivial⟩ (key ((zform (c p)).length + 1) 0 _ _ (p + 1) [] (by omega) (by omega) hC hQ ⟨(hA.p (by omega)).k (Or.inl rfl) _ _, (zTs.p _).tr (zTs.k (Or.inl rfl) _ _), zu_s _ _ _ _, fun i hi => by rw [zu_j (by omega), zu_r (by decide)], fun i hi => absurd hi (Nat.not_lt_zero i), fun i _ => by rw [zu_r (by decide), zu_r (by decide)], by rw [zu_r (by decide), zu_j (by decide)], rfl, Nat.le_refl 0⟩)
  · have hln : zLen.getD (zfx (zsg c n p)) 0 = 0 := zb_n.mp c1
    refine z_iconst (v := 0) dX9_readCommand_17 (by decide) ?_
    exact z_ireturn (mi := mX9_readCommand) dX9_readCommand_18 rfl rfl (Nat.le_refl _) (Nat.le_refl _) (hFl p [] (if_neg (fun q => q.2 (by have := zlen_nil hln; rw [zsg, if_pos q.1] at this; exact this))) _ _ hC hQ zTs.rf hA)
