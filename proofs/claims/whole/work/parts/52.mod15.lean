theorem zT1 {t : Nat → Int32} {k : Nat} {a : Int32} (h1 : t (4 * k + 1) = a) : ∀ i, i < [a].length → t (4 * k + 1 + i) = [a].getD i 0 := fun i hi => by
  obtain rfl : i = 0 := by simp only [List.length_cons, List.length_nil] at hi; omega
  exact h1
theorem zT2 {t : Nat → Int32} {k : Nat} {a b : Int32} (h1 : t (4 * k + 1) = a) (h2 : t (4 * k + 2) = b) : ∀ i, i < [a, b].length → t (4 * k + 1 + i) = [a, b].getD i 0 := fun i hi => by
  simp only [List.length_cons, List.length_nil] at hi
  rcases (by omega : i = 0 ∨ i = 1) with rfl | rfl
  · exact h1
  · exact h2
theorem zT3 {t : Nat → Int32} {k : Nat} {a b c : Int32} (h1 : t (4 * k + 1) = a) (h2 : t (4 * k + 2) = b) (h3 : t (4 * k + 3) = c) : ∀ i, i < [a, b, c].length → t (4 * k + 1 + i) = [a, b, c].getD i 0 := fun i hi => by
  simp only [List.length_cons, List.length_nil] at hi
  rcases (by omega : i = 0 ∨ i = 1 ∨ i = 2) with rfl | rfl | rfl
  · exact h1
  · exact h2
  · exact h3
set_option maxHeartbeats 4000000 in
set_option maxRecDepth 10000 in
theorem sX11_commandHere {Γ : zG} {d : Nat} {G : zH} {Post : zV} {am : Nat → Nat} {μ : zSt} (hM : zMod G am μ) {c : Nat → Int32} {n p : Nat} (hA : zAt μ c n p) {k : Nat} (hk : μ 0 19 = nI k) (hk20 : k ≤ 20) (hFl : ∀ q ns, zcmd c n p = (false, q, ns) → ∀ G1 ν, zMod G1 am ν → zFrm G G1 am 8 → zAt ν c n q → zSm μ ν → ν 0 19 = μ 0 19 → Post (some (.int 0)) G1) (hTr : ∀ q ns, zcmd c n p = (true, q, ns) → ∀ G1 ν, zMod G1 am ν → zFrm G G1 am 8 → zAt ν c n q → zSm μ ν → (∀ j, j < 4 * k → ν 7 j = μ 7 j) → ν 7 (4 * k) = c p → (∀ i, i < ns.length → ν 7 (4 * k + 1 + i) = ns.getD i 0) → ν 0 19 = μ 0 19 → Post (some (.int 1)) G1) : zM Γ (d + 2) mX11_commandHere 0 0 [.ref (am 0)] G Post := by
  refine zM_of pnX11 rfl (Nat.le_of_ble_eq_true rfl) rfl ?_
  have hn60 := hA.2.1
  have hQ : zFrm G G am 8 := zFrm.rf
  refine z_iconst (v := 4) dX11_commandHere_0 (by decide) ?_
  refine z_aload_n dX11_commandHere_1 rfl ?_
  refine z_get dX11_commandHere_2 fX11_186.r (hM.1 _ (by decide)) rfl ?_
  refine z_imul dX11_commandHere_5 ?_
  rw [hk, show (4 : Int32) = nI 4 from rfl, pk_mul]
  refine z_istore_n dX11_commandHere_6 (by decide) rfl ?_
  refine z_aload_n dX11_commandHere_7 rfl ?_
  refine z_get dX11_commandHere_8 fX11_33.r (hM.1 _ (by decide)) rfl ?_
  refine z_iload_n dX11_commandHere_11 rfl ?_
  refine z_aload_n dX11_commandHere_12 rfl ?_
  refine z_V0 (mi' := mX11_here) dX11_commandHere_13 lX11_183 nX11_here kX11_here (by decide) (Nat.le_of_ble_eq_true rfl) (Nat.le_refl _) (Nat.le_refl _) (hM.1 _ (by decide)) rfl rfl ?_
  refine sX11_here hM hA ?_
  refine z_iast dX11_commandHere_16 (hM.1 7 (by decide)) (vp_in_nI (show 4 * k < 124 by omega) (by decide)) ?_
  rw [nI_clamp (show 4 * k < 2147483648 by omega)]
  refine z_mset hM 7 (4 * k) (zhere c n p) (by decide) (by simp only [zmE, zu_row]) (fun _ hM hF => ?_)
  have hQ := hQ.tr hF
  obtain ⟨ν16, hν16⟩ : ∃ ν16, ν16 = zu μ 7 (4 * k) (zhere c n p) := ⟨_, rfl⟩
  rw [← hν16] at hM
  have hA16 : zAt ν16 c n p := by rw [hν16]; exact hA.t _ _
  have hS16 : zSm μ ν16 := by rw [hν16]; exact zSm.t _ _
  have ho16 : ∀ j, j ≠ 4 * k → ν16 7 j = μ 7 j := fun j hj => by rw [hν16, zu_j hj]
  have ht16 : ν16 7 (4 * k) = zhere c n p := by rw [hν16, zu_s]
  have hm16 : ν16 0 19 = μ 0 19 := by rw [hν16, zu_r (show (0 : Nat) ≠ 7 by decide)]
  refine z_aload_n dX11_commandHere_17 rfl ?_
  refine z_bipush (v := 109) dX11_commandHere_18 (by decide) ?_
  refine z_V1 (mi' := mX11_skips) dX11_commandHere_20 lX11_189 nX11_skips kX11_skips (by decide) (Nat.le_of_ble_eq_true rfl) (Nat.le_refl _) (Nat.le_refl _) (hM.1 _ (by decide)) rfl rfl ?_
  refine sX11_skips hM hA16 (x := 109) (by decide) (fun z20 => ?_) (fun z20 G20 ν20 hM hF hA20 hS20 h720 hm20 => ?_)
  · refine z_if_eq (tgt := 83) dX11_commandHere_23 (by decide) (fun c1 => ?_) (fun c1 => ?_)
    · refine z_aload_n dX11_commandHere_83 rfl ?_
      refine z_bipush (v := 120) dX11_commandHere_84 (by decide) ?_
      refine z_V1 (mi' := mX11_skips) dX11_commandHere_86 lX11_189 nX11_skips kX11_skips (by decide) (Nat.le_of_ble_eq_true rfl) (Nat.le_refl _) (Nat.le_refl _) (hM.1 _ (by decide)) rfl rfl ?_
      refine sX11_skips hM hA16 (x := 120) (by decide) (fun z86 => ?_) (fun z86 G86 ν86 hM hF hA86 hS86 h786 hm86 => ?_)
      · refine z_if_eq (tgt := 129) dX11_commandHere_89 (by decide) (fun c2 => ?_) (fun c2 => ?_)
        · refine z_aload_n dX11_commandHere_129 rfl ?_
          refine z_bipush (v := 107) dX11_commandHere_130 (by decide) ?_
          refine z_V1 (mi' := mX11_skips) dX11_commandHere_132 lX11_189 nX11_skips kX11_skips (by decide) (Nat.le_of_ble_eq_true rfl) (Nat.le_refl _) (Nat.le_refl _) (hM.1 _ (by decide)) rfl rfl ?_
          refine sX11_skips hM hA16 (x := 107) (by decide) (fun z132 => ?_) (fun z132 G132 νks hM hF hAks hSks h7ks hmks => ?_)
          · refine z_if_ne (tgt := 147) dX11_commandHere_135 (by decide) (fun c3 => ?_) (fun c3 => ?_)
            · exact absurd rfl c3
            · refine z_aload_n dX11_commandHere_138 rfl ?_
              refine z_bipush (v := 115) dX11_commandHere_139 (by decide) ?_
              refine z_V1 (mi' := mX11_skips) dX11_commandHere_141 lX11_189 nX11_skips kX11_skips (by decide) (Nat.le_of_ble_eq_true rfl) (Nat.le_refl _) (Nat.le_refl _) (hM.1 _ (by decide)) rfl rfl ?_
              refine sX11_skips hM hA16 (x := 115) (by decide) (fun z141 => ?_) (fun z141 G141 νks hM hF hAks hSks h7ks hmks => ?_)
              · refine z_if_eq (tgt := 156) dX11_commandHere_144 (by decide) (fun c4 => ?_) (fun c4 => ?_)
                · refine z_aload_n dX11_commandHere_156 rfl ?_
                  refine z_bipush (v := 119) dX11_commandHere_157 (by decide) ?_
                  refine z_V1 (mi' := mX11_skips) dX11_commandHere_159 lX11_189 nX11_skips kX11_skips (by decide) (Nat.le_of_ble_eq_true rfl) (Nat.le_refl _) (Nat.le_refl _) (hM.1 _ (by decide)) rfl rfl ?_
                  refine sX11_skips hM hA16 (x := 119) (by decide) (fun z159 => ?_) (fun z159 G159 ν159 hM hF hA159 hS159 h7159 hm159 => ?_)
                  · refine z_if_eq (tgt := 202) dX11_commandHere_162 (by decide) (fun c5 => ?_) (fun c5 => ?_)
                    · refine z_aload_n dX11_commandHere_202 rfl ?_
                      refine z_bipush (v := 121) dX11_commandHere_203 (by decide) ?_
                      refine z_V1 (mi' := mX11_skips) dX11_commandHere_205 lX11_189 nX11_skips kX11_skips (by decide) (Nat.le_of_ble_eq_true rfl) (Nat.le_refl _) (Nat.le_refl _) (hM.1 _ (by decide)) rfl rfl ?_
                      refine sX11_skips hM hA16 (x := 121) (by decide) (fun z205 => ?_) (fun z205 G205 ν205 hM hF hA205 hS205 h7205 hm205 => ?_)
                      · refine z_if_eq (tgt := 226) dX11_commandHere_208 (by decide) (fun c6 => ?_) (fun c6 => ?_)
                        · refine z_iconst (v := 0) dX11_commandHere_226 (by decide) ?_
                          exact z_ireturn (mi := mX11_commandHere) dX11_commandHere_227 rfl rfl (Nat.le_refl _) (Nat.le_refl _) (hFl p [] (zcmd_n z20 z86 z132 z141 z159 z205) _ _ hM hQ hA16 hS16 hm16)
                        · exact absurd rfl c6
                      · have hQ := hQ.tr hF
                        refine z_if_eq (tgt := 226) dX11_commandHere_208 (by decide) (fun c7 => ?_) (fun c7 => ?_)
                        · exact absurd c7 zi10
                        · refine z_aload_n dX11_commandHere_211 rfl ?_
                          refine z_iload_n dX11_commandHere_212 rfl ?_
                          refine z_iconst (v := 1) dX11_commandHere_213 (by decide) ?_
                          refine z_iadd dX11_commandHere_214 ?_
                          refine z_iconst (v := 2) dX11_commandHere_215 (by decide) ?_
                          refine z_V2 (mi' := mX11_number) dX11_commandHere_216 lX11_192 nX11_number kX11_number (by decide) (Nat.le_of_ble_eq_true rfl) (Nat.le_refl _) (Nat.le_refl _) (hM.1 _ (by decide)) rfl rfl ?_
                          rw [show nI (4 * k) + 1 = nI (4 * k + 1) from nI_add (4 * k) 1]
                          refine sX11_number_2 hM hA205 (pl := 4 * k + 1) (by omega) (fun z216 => ?_) (fun v216 q216 z216 G216 ν216 hM hF hA216 hS216 ht216 ho216 hm216 => ?_)
                          · refine z_if_eq (tgt := 226) dX11_commandHere_219 (by decide) (fun c8 => ?_) (fun c8 => ?_)
                            · refine z_iconst (v := 0) dX11_commandHere_226 (by decide) ?_
                              exact z_ireturn (mi := mX11_commandHere) dX11_commandHere_227 rfl rfl (Nat.le_refl _) (Nat.le_refl _) (hFl (p + 1) [] (by rw [zcmd_y z205 (by decide), show zform 121 = [50] from by decide, zprt_2n z216] <;> rfl) _ _ hM hQ hA205 (hS16.tr (hS205)) (hm205.trans (hm16)))
                            · exact absurd rfl c8
                          · have hQ := hQ.tr hF
                            refine z_if_eq (tgt := 226) dX11_commandHere_219 (by decide) (fun c9 => ?_) (fun c9 => ?_)
                            · exact absurd c9 zi10
                            · refine z_iconst (v := 1) dX11_commandHere_222 (by decide) ?_
                              refine z_goto (tgt := 227) dX11_commandHere_223 (by decide) ?_
                              exact z_ireturn (mi := mX11_commandHere) dX11_commandHere_227 rfl rfl (Nat.le_refl _) (Nat.le_refl _) (hTr q216 [v216] (by rw [zcmd_y z205 (by decide), show zform 121 = [50] from by decide, zprt_2 z216, zprt] <;> rfl) _ _ hM hQ hA216 (hS16.tr (hS205.tr (hS216))) (fun j hj => (ho216 (j) (by omega)).trans ((congrFun h7205 (j)).trans ((ho16 (j) (by omega))))) ((ho216 (4 * k) (by omega)).trans ((congrFun h7205 (4 * k)).trans (ht16.trans (if_pos (zlit_t z205).1)))) (zT1 (ht216)) (hm216.trans (hm205.trans (hm16))))
                    · exact absurd rfl c5
                  · have hQ := hQ.tr hF
                    refine z_if_eq (tgt := 202) dX11_commandHere_162 (by decide) (fun c10 => ?_) (fun c10 => ?_)
                    · exact absurd c10 zi10
                    · refine z_aload_n dX11_commandHere_165 rfl ?_
                      refine z_iload_n dX11_commandHere_166 rfl ?_
                      refine z_iconst (v := 1) dX11_commandHere_167 (by decide) ?_
                      refine z_iadd dX11_commandHere_168 ?_
                      refine z_iconst (v := 2) dX11_commandHere_169 (by decide) ?_
                      refine z_V2 (mi' := mX11_number) dX11_commandHere_170 lX11_192 nX11_number kX11_number (by decide) (Nat.le_of_ble_eq_true rfl) (Nat.le_refl _) (Nat.le_refl _) (hM.1 _ (by decide)) rfl rfl ?_
                      rw [show nI (4 * k) + 1 = nI (4 * k + 1) from nI_add (4 * k) 1]
                      refine sX11_number_2 hM hA159 (pl := 4 * k + 1) (by omega) (fun z170 => ?_) (fun v170 q170 z170 G170 ν170 hM hF hA170 hS170 ht170 ho170 hm170 => ?_)
                      · refine z_if_eq (tgt := 200) dX11_commandHere_173 (by decide) (fun c11 => ?_) (fun c11 => ?_)
                        · refine z_iconst (v := 0) dX11_commandHere_200 (by decide) ?_
                          exact z_ireturn (mi := mX11_commandHere) dX11_commandHere_201 rfl rfl (Nat.le_refl _) (Nat.le_refl _) (hFl (p + 1) [] (by rw [zcmd_y z159 (by decide), show zform 119 = [50, 43, 49] from by decide, zprt_2n z170] <;> rfl) _ _ hM hQ hA159 (hS16.tr (hS159)) (hm159.trans (hm16)))
                        · exact absurd rfl c11
                      · have hQ := hQ.tr hF
                        refine z_if_eq (tgt := 200) dX11_commandHere_173 (by decide) (fun c12 => ?_) (fun c12 => ?_)
                        · exact absurd c12 zi10
                        · refine z_aload_n dX11_commandHere_176 rfl ?_
                          refine z_bipush (v := 43) dX11_commandHere_177 (by decide) ?_
                          refine z_V1 (mi' := mX11_skips) dX11_commandHere_179 lX11_189 nX11_skips kX11_skips (by decide) (Nat.le_of_ble_eq_true rfl) (Nat.le_refl _) (Nat.le_refl _) (hM.1 _ (by decide)) rfl rfl ?_
                          refine sX11_skips hM hA170 (x := 43) (by decide) (fun z179 => ?_) (fun z179 G179 ν179 hM hF hA179 hS179 h7179 hm179 => ?_)
                          · refine z_if_eq (tgt := 200) dX11_commandHere_182 (by decide) (fun c13 => ?_) (fun c13 => ?_)
                            · refine z_iconst (v := 0) dX11_commandHere_200 (by decide) ?_
                              exact z_ireturn (mi := mX11_commandHere) dX11_commandHere_201 rfl rfl (Nat.le_refl _) (Nat.le_refl _) (hFl q170 [v170] (by rw [zcmd_y z159 (by decide), show zform 119 = [50, 43, 49] from by decide, zprt_2 z170, zprt_ln (d := 43) (by decide) z179] <;> rfl) _ _ hM hQ hA170 (hS16.tr (hS159.tr (hS170))) (hm170.trans (hm159.trans (hm16))))
                            · exact absurd rfl c13
                          · have hQ := hQ.tr hF
                            refine z_if_eq (tgt := 200) dX11_commandHere_182 (by decide) (fun c14 => ?_) (fun c14 => ?_)
                            · exact absurd c14 zi10
                            · refine z_aload_n dX11_commandHere_185 rfl ?_
                              refine z_iload_n dX11_commandHere_186 rfl ?_
                              refine z_iconst (v := 2) dX11_commandHere_187 (by decide) ?_
                              refine z_iadd dX11_commandHere_188 ?_
                              refine z_iconst (v := 1) dX11_commandHere_189 (by decide) ?_
                              refine z_V2 (mi' := mX11_number) dX11_commandHere_190 lX11_192 nX11_number kX11_number (by decide) (Nat.le_of_ble_eq_true rfl) (Nat.le_refl _) (Nat.le_refl _) (hM.1 _ (by decide)) rfl rfl ?_
                              rw [show nI (4 * k) + 2 = nI (4 * k + 2) from nI_add (4 * k) 2]
                              refine sX11_number_1 hM hA179 (pl := 4 * k + 2) (by omega) (fun z190 => ?_) (fun v190 q190 z190 G190 ν190 hM hF hA190 hS190 ht190 ho190 hm190 => ?_)
                              · refine z_if_eq (tgt := 200) dX11_commandHere_193 (by decide) (fun c15 => ?_) (fun c15 => ?_)
                                · refine z_iconst (v := 0) dX11_commandHere_200 (by decide) ?_
                                  exact z_ireturn (mi := mX11_commandHere) dX11_commandHere_201 rfl rfl (Nat.le_refl _) (Nat.le_refl _) (hFl (q170 + 1) [v170] (by rw [zcmd_y z159 (by decide), show zform 119 = [50, 43, 49] from by decide, zprt_2 z170, zprt_l (d := 43) (by decide) z179, zprt_1n z190] <;> rfl) _ _ hM hQ hA179 (hS16.tr (hS159.tr (hS170.tr (hS179)))) (hm179.trans (hm170.trans (hm159.trans (hm16)))))
                                · exact absurd rfl c15
                              · have hQ := hQ.tr hF
                                refine z_if_eq (tgt := 200) dX11_commandHere_193 (by decide) (fun c16 => ?_) (fun c16 => ?_)
                                · exact absurd c16 zi10
                                · refine z_iconst (v := 1) dX11_commandHere_196 (by decide) ?_
                                  refine z_goto (tgt := 201) dX11_commandHere_197 (by decide) ?_
                                  exact z_ireturn (mi := mX11_commandHere) dX11_commandHere_201 rfl rfl (Nat.le_refl _) (Nat.le_refl _) (hTr q190 [v170, v190] (by rw [zcmd_y z159 (by decide), show zform 119 = [50, 43, 49] from by decide, zprt_2 z170, zprt_l (d := 43) (by decide) z179, zprt_1 z190, zprt] <;> rfl) _ _ hM hQ hA190 (hS16.tr (hS159.tr (hS170.tr (hS179.tr (hS190))))) (fun j hj => (ho190 (j) (by omega)).trans ((congrFun h7179 (j)).trans ((ho170 (j) (by omega)).trans ((congrFun h7159 (j)).trans ((ho16 (j) (by omega))))))) ((ho190 (4 * k) (by omega)).trans ((congrFun h7179 (4 * k)).trans ((ho170 (4 * k) (by omega)).trans ((congrFun h7159 (4 * k)).trans (ht16.trans (if_pos (zlit_t z159).1)))))) (zT2 ((ho190 (4 * k + 1) (by omega)).trans ((congrFun h7179 (4 * k + 1)).trans (ht170))) (ht190)) (hm190.trans (hm179.trans (hm170.trans (hm159.trans (hm16))))))
                · exact absurd rfl c4
              · have hQ := hQ.tr hF
                refine z_if_eq (tgt := 156) dX11_commandHere_144 (by decide) (fun c17 => ?_) (fun c17 => ?_)
                · exact absurd c17 zi10
                · refine z_aload_n dX11_commandHere_147 rfl ?_
                  refine z_iload_n dX11_commandHere_148 rfl ?_
                  refine z_iconst (v := 1) dX11_commandHere_149 (by decide) ?_
                  refine z_iadd dX11_commandHere_150 ?_
                  refine z_iconst (v := 1) dX11_commandHere_151 (by decide) ?_
                  refine z_V2 (mi' := mX11_number) dX11_commandHere_152 lX11_192 nX11_number kX11_number (by decide) (Nat.le_of_ble_eq_true rfl) (Nat.le_refl _) (Nat.le_refl _) (hM.1 _ (by decide)) rfl rfl ?_
                  rw [show nI (4 * k) + 1 = nI (4 * k + 1) from nI_add (4 * k) 1]
                  refine sX11_number_1 hM hAks (pl := 4 * k + 1) (by omega) (fun z152 => ?_) (fun v152 q152 z152 G152 ν152 hM hF hA152 hS152 ht152 ho152 hm152 => ?_)
                  · exact z_ireturn (mi := mX11_commandHere) dX11_commandHere_155 rfl rfl (Nat.le_refl _) (Nat.le_refl _) (hFl (p + 1) [] (by rw [zcmd_y z141 (by decide), show zform 115 = [49] from by decide, zprt_1n z152] <;> rfl) _ _ hM hQ hAks (hS16.tr (hSks)) (hmks.trans (hm16)))
                  · have hQ := hQ.tr hF
                    exact z_ireturn (mi := mX11_commandHere) dX11_commandHere_155 rfl rfl (Nat.le_refl _) (Nat.le_refl _) (hTr q152 [v152] (by rw [zcmd_y z141 (by decide), show zform 115 = [49] from by decide, zprt_1 z152, zprt] <;> rfl) _ _ hM hQ hA152 (hS16.tr (hSks.tr (hS152))) (fun j hj => (ho152 (j) (by omega)).trans ((congrFun h7ks (j)).trans ((ho16 (j) (by omega))))) ((ho152 (4 * k) (by omega)).trans ((congrFun h7ks (4 * k)).trans (ht16.trans (if_pos (zlit_t z141).1)))) (zT1 (ht152)) (hm152.trans (hmks.trans (hm16))))
          · have hQ := hQ.tr hF
            refine z_if_ne (tgt := 147) dX11_commandHere_135 (by decide) (fun c18 => ?_) (fun c18 => ?_)
            · refine z_aload_n dX11_commandHere_147 rfl ?_
              refine z_iload_n dX11_commandHere_148 rfl ?_
              refine z_iconst (v := 1) dX11_commandHere_149 (by decide) ?_
              refine z_iadd dX11_commandHere_150 ?_
              refine z_iconst (v := 1) dX11_commandHere_151 (by decide) ?_
              refine z_V2 (mi' := mX11_number) dX11_commandHere_152 lX11_192 nX11_number kX11_number (by decide) (Nat.le_of_ble_eq_true rfl) (Nat.le_refl _) (Nat.le_refl _) (hM.1 _ (by decide)) rfl rfl ?_
              rw [show nI (4 * k) + 1 = nI (4 * k + 1) from nI_add (4 * k) 1]
              refine sX11_number_1 hM hAks (pl := 4 * k + 1) (by omega) (fun z152 => ?_) (fun v152 q152 z152 G152 ν152 hM hF hA152 hS152 ht152 ho152 hm152 => ?_)
              · exact z_ireturn (mi := mX11_commandHere) dX11_commandHere_155 rfl rfl (Nat.le_refl _) (Nat.le_refl _) (hFl (p + 1) [] (by rw [zcmd_y z132 (by decide), show zform 107 = [49] from by decide, zprt_1n z152] <;> rfl) _ _ hM hQ hAks (hS16.tr (hSks)) (hmks.trans (hm16)))
              · have hQ := hQ.tr hF
                exact z_ireturn (mi := mX11_commandHere) dX11_commandHere_155 rfl rfl (Nat.le_refl _) (Nat.le_refl _) (hTr q152 [v152] (by rw [zcmd_y z132 (by decide), show zform 107 = [49] from by decide, zprt_1 z152, zprt] <;> rfl) _ _ hM hQ hA152 (hS16.tr (hSks.tr (hS152))) (fun j hj => (ho152 (j) (by omega)).trans ((congrFun h7ks (j)).trans ((ho16 (j) (by omega))))) ((ho152 (4 * k) (by omega)).trans ((congrFun h7ks (4 * k)).trans (ht16.trans (if_pos (zlit_t z132).1)))) (zT1 (ht152)) (hm152.trans (hmks.trans (hm16))))
            · exact absurd c18 zi10
        · exact absurd rfl c2
      · have hQ := hQ.tr hF
        refine z_if_eq (tgt := 129) dX11_commandHere_89 (by decide) (fun c19 => ?_) (fun c19 => ?_)
        · exact absurd c19 zi10
        · refine z_aload_n dX11_commandHere_92 rfl ?_
          refine z_iload_n dX11_commandHere_93 rfl ?_
          refine z_iconst (v := 1) dX11_commandHere_94 (by decide) ?_
          refine z_iadd dX11_commandHere_95 ?_
          refine z_iconst (v := 1) dX11_commandHere_96 (by decide) ?_
          refine z_V2 (mi' := mX11_number) dX11_commandHere_97 lX11_192 nX11_number kX11_number (by decide) (Nat.le_of_ble_eq_true rfl) (Nat.le_refl _) (Nat.le_refl _) (hM.1 _ (by decide)) rfl rfl ?_
          rw [show nI (4 * k) + 1 = nI (4 * k + 1) from nI_add (4 * k) 1]
          refine sX11_number_1 hM hA86 (pl := 4 * k + 1) (by omega) (fun z97 => ?_) (fun v97 q97 z97 G97 ν97 hM hF hA97 hS97 ht97 ho97 hm97 => ?_)
          · refine z_if_eq (tgt := 127) dX11_commandHere_100 (by decide) (fun c20 => ?_) (fun c20 => ?_)
            · refine z_iconst (v := 0) dX11_commandHere_127 (by decide) ?_
              exact z_ireturn (mi := mX11_commandHere) dX11_commandHere_128 rfl rfl (Nat.le_refl _) (Nat.le_refl _) (hFl (p + 1) [] (by rw [zcmd_y z86 (by decide), show zform 120 = [49, 58, 50] from by decide, zprt_1n z97] <;> rfl) _ _ hM hQ hA86 (hS16.tr (hS86)) (hm86.trans (hm16)))
            · exact absurd rfl c20
          · have hQ := hQ.tr hF
            refine z_if_eq (tgt := 127) dX11_commandHere_100 (by decide) (fun c21 => ?_) (fun c21 => ?_)
            · exact absurd c21 zi10
            · refine z_aload_n dX11_commandHere_103 rfl ?_
              refine z_bipush (v := 58) dX11_commandHere_104 (by decide) ?_
              refine z_V1 (mi' := mX11_skips) dX11_commandHere_106 lX11_189 nX11_skips kX11_skips (by decide) (Nat.le_of_ble_eq_true rfl) (Nat.le_refl _) (Nat.le_refl _) (hM.1 _ (by decide)) rfl rfl ?_
              refine sX11_skips hM hA97 (x := 58) (by decide) (fun z106 => ?_) (fun z106 G106 ν106 hM hF hA106 hS106 h7106 hm106 => ?_)
              · refine z_if_eq (tgt := 127) dX11_commandHere_109 (by decide) (fun c22 => ?_) (fun c22 => ?_)
                · refine z_iconst (v := 0) dX11_commandHere_127 (by decide) ?_
                  exact z_ireturn (mi := mX11_commandHere) dX11_commandHere_128 rfl rfl (Nat.le_refl _) (Nat.le_refl _) (hFl q97 [v97] (by rw [zcmd_y z86 (by decide), show zform 120 = [49, 58, 50] from by decide, zprt_1 z97, zprt_ln (d := 58) (by decide) z106] <;> rfl) _ _ hM hQ hA97 (hS16.tr (hS86.tr (hS97))) (hm97.trans (hm86.trans (hm16))))
                · exact absurd rfl c22
              · have hQ := hQ.tr hF
                refine z_if_eq (tgt := 127) dX11_commandHere_109 (by decide) (fun c23 => ?_) (fun c23 => ?_)
                · exact absurd c23 zi10
                · refine z_aload_n dX11_commandHere_112 rfl ?_
                  refine z_iload_n dX11_commandHere_113 rfl ?_
                  refine z_iconst (v := 2) dX11_commandHere_114 (by decide) ?_
                  refine z_iadd dX11_commandHere_115 ?_
                  refine z_iconst (v := 2) dX11_commandHere_116 (by decide) ?_
                  refine z_V2 (mi' := mX11_number) dX11_commandHere_117 lX11_192 nX11_number kX11_number (by decide) (Nat.le_of_ble_eq_true rfl) (Nat.le_refl _) (Nat.le_refl _) (hM.1 _ (by decide)) rfl rfl ?_
                  rw [show nI (4 * k) + 2 = nI (4 * k + 2) from nI_add (4 * k) 2]
                  refine sX11_number_2 hM hA106 (pl := 4 * k + 2) (by omega) (fun z117 => ?_) (fun v117 q117 z117 G117 ν117 hM hF hA117 hS117 ht117 ho117 hm117 => ?_)
                  · refine z_if_eq (tgt := 127) dX11_commandHere_120 (by decide) (fun c24 => ?_) (fun c24 => ?_)
                    · refine z_iconst (v := 0) dX11_commandHere_127 (by decide) ?_
                      exact z_ireturn (mi := mX11_commandHere) dX11_commandHere_128 rfl rfl (Nat.le_refl _) (Nat.le_refl _) (hFl (q97 + 1) [v97] (by rw [zcmd_y z86 (by decide), show zform 120 = [49, 58, 50] from by decide, zprt_1 z97, zprt_l (d := 58) (by decide) z106, zprt_2n z117] <;> rfl) _ _ hM hQ hA106 (hS16.tr (hS86.tr (hS97.tr (hS106)))) (hm106.trans (hm97.trans (hm86.trans (hm16)))))
                    · exact absurd rfl c24
                  · have hQ := hQ.tr hF
                    refine z_if_eq (tgt := 127) dX11_commandHere_120 (by decide) (fun c25 => ?_) (fun c25 => ?_)
                    · exact absurd c25 zi10
                    · refine z_iconst (v := 1) dX11_commandHere_123 (by decide) ?_
                      refine z_goto (tgt := 128) dX11_commandHere_124 (by decide) ?_
                      exact z_ireturn (mi := mX11_commandHere) dX11_commandHere_128 rfl rfl (Nat.le_refl _) (Nat.le_refl _) (hTr q117 [v97, v117] (by rw [zcmd_y z86 (by decide), show zform 120 = [49, 58, 50] from by decide, zprt_1 z97, zprt_l (d := 58) (by decide) z106, zprt_2 z117, zprt] <;> rfl) _ _ hM hQ hA117 (hS16.tr (hS86.tr (hS97.tr (hS106.tr (hS117))))) (fun j hj => (ho117 (j) (by omega)).trans ((congrFun h7106 (j)).trans ((ho97 (j) (by omega)).trans ((congrFun h786 (j)).trans ((ho16 (j) (by omega))))))) ((ho117 (4 * k) (by omega)).trans ((congrFun h7106 (4 * k)).trans ((ho97 (4 * k) (by omega)).trans ((congrFun h786 (4 * k)).trans (ht16.trans (if_pos (zlit_t z86).1)))))) (zT2 ((ho117 (4 * k + 1) (by omega)).trans ((congrFun h7106 (4 * k + 1)).trans (ht97))) (ht117)) (hm117.trans (hm106.trans (hm97.trans (hm86.trans (hm16))))))
    · exact absurd rfl c1
  · have hQ := hQ.tr hF
    refine z_if_eq (tgt := 83) dX11_commandHere_23 (by decide) (fun c26 => ?_) (fun c26 => ?_)
    · exact absurd c26 zi10
    · refine z_aload_n dX11_commandHere_26 rfl ?_
      refine z_iload_n dX11_commandHere_27 rfl ?_
      refine z_iconst (v := 1) dX11_commandHere_28 (by decide) ?_
      refine z_iadd dX11_commandHere_29 ?_
      refine z_iconst (v := 1) dX11_commandHere_30 (by decide) ?_
      refine z_V2 (mi' := mX11_number) dX11_commandHere_31 lX11_192 nX11_number kX11_number (by decide) (Nat.le_of_ble_eq_true rfl) (Nat.le_refl _) (Nat.le_refl _) (hM.1 _ (by decide)) rfl rfl ?_
      rw [show nI (4 * k) + 1 = nI (4 * k + 1) from nI_add (4 * k) 1]
      refine sX11_number_1 hM hA20 (pl := 4 * k + 1) (by omega) (fun z31 => ?_) (fun v31 q31 z31 G31 ν31 hM hF hA31 hS31 ht31 ho31 hm31 => ?_)
      · refine z_if_eq (tgt := 81) dX11_commandHere_34 (by decide) (fun c27 => ?_) (fun c27 => ?_)
        · refine z_iconst (v := 0) dX11_commandHere_81 (by decide) ?_
          exact z_ireturn (mi := mX11_commandHere) dX11_commandHere_82 rfl rfl (Nat.le_refl _) (Nat.le_refl _) (hFl (p + 1) [] (by rw [zcmd_y z20 (by decide), show zform 109 = [49, 58, 50, 47, 49] from by decide, zprt_1n z31] <;> rfl) _ _ hM hQ hA20 (hS16.tr (hS20)) (hm20.trans (hm16)))
        · exact absurd rfl c27
      · have hQ := hQ.tr hF
        refine z_if_eq (tgt := 81) dX11_commandHere_34 (by decide) (fun c28 => ?_) (fun c28 => ?_)
        · exact absurd c28 zi10
        · refine z_aload_n dX11_commandHere_37 rfl ?_
          refine z_bipush (v := 58) dX11_commandHere_38 (by decide) ?_
          refine z_V1 (mi' := mX11_skips) dX11_commandHere_40 lX11_189 nX11_skips kX11_skips (by decide) (Nat.le_of_ble_eq_true rfl) (Nat.le_refl _) (Nat.le_refl _) (hM.1 _ (by decide)) rfl rfl ?_
          refine sX11_skips hM hA31 (x := 58) (by decide) (fun z40 => ?_) (fun z40 G40 ν40 hM hF hA40 hS40 h740 hm40 => ?_)
          · refine z_if_eq (tgt := 81) dX11_commandHere_43 (by decide) (fun c29 => ?_) (fun c29 => ?_)
            · refine z_iconst (v := 0) dX11_commandHere_81 (by decide) ?_
              exact z_ireturn (mi := mX11_commandHere) dX11_commandHere_82 rfl rfl (Nat.le_refl _) (Nat.le_refl _) (hFl q31 [v31] (by rw [zcmd_y z20 (by decide), show zform 109 = [49, 58, 50, 47, 49] from by decide, zprt_1 z31, zprt_ln (d := 58) (by decide) z40] <;> rfl) _ _ hM hQ hA31 (hS16.tr (hS20.tr (hS31))) (hm31.trans (hm20.trans (hm16))))
            · exact absurd rfl c29
          · have hQ := hQ.tr hF
            refine z_if_eq (tgt := 81) dX11_commandHere_43 (by decide) (fun c30 => ?_) (fun c30 => ?_)
            · exact absurd c30 zi10
            · refine z_aload_n dX11_commandHere_46 rfl ?_
              refine z_iload_n dX11_commandHere_47 rfl ?_
              refine z_iconst (v := 2) dX11_commandHere_48 (by decide) ?_
              refine z_iadd dX11_commandHere_49 ?_
              refine z_iconst (v := 2) dX11_commandHere_50 (by decide) ?_
              refine z_V2 (mi' := mX11_number) dX11_commandHere_51 lX11_192 nX11_number kX11_number (by decide) (Nat.le_of_ble_eq_true rfl) (Nat.le_refl _) (Nat.le_refl _) (hM.1 _ (by decide)) rfl rfl ?_
              rw [show nI (4 * k) + 2 = nI (4 * k + 2) from nI_add (4 * k) 2]
              refine sX11_number_2 hM hA40 (pl := 4 * k + 2) (by omega) (fun z51 => ?_) (fun v51 q51 z51 G51 ν51 hM hF hA51 hS51 ht51 ho51 hm51 => ?_)
              · refine z_if_eq (tgt := 81) dX11_commandHere_54 (by decide) (fun c31 => ?_) (fun c31 => ?_)
                · refine z_iconst (v := 0) dX11_commandHere_81 (by decide) ?_
                  exact z_ireturn (mi := mX11_commandHere) dX11_commandHere_82 rfl rfl (Nat.le_refl _) (Nat.le_refl _) (hFl (q31 + 1) [v31] (by rw [zcmd_y z20 (by decide), show zform 109 = [49, 58, 50, 47, 49] from by decide, zprt_1 z31, zprt_l (d := 58) (by decide) z40, zprt_2n z51] <;> rfl) _ _ hM hQ hA40 (hS16.tr (hS20.tr (hS31.tr (hS40)))) (hm40.trans (hm31.trans (hm20.trans (hm16)))))
                · exact absurd rfl c31
              · have hQ := hQ.tr hF
                refine z_if_eq (tgt := 81) dX11_commandHere_54 (by decide) (fun c32 => ?_) (fun c32 => ?_)
                · exact absurd c32 zi10
                · refine z_aload_n dX11_commandHere_57 rfl ?_
                  refine z_bipush (v := 47) dX11_commandHere_58 (by decide) ?_
                  refine z_V1 (mi' := mX11_skips) dX11_commandHere_60 lX11_189 nX11_skips kX11_skips (by decide) (Nat.le_of_ble_eq_true rfl) (Nat.le_refl _) (Nat.le_refl _) (hM.1 _ (by decide)) rfl rfl ?_
                  refine sX11_skips hM hA51 (x := 47) (by decide) (fun z60 => ?_) (fun z60 G60 ν60 hM hF hA60 hS60 h760 hm60 => ?_)
                  · refine z_if_eq (tgt := 81) dX11_commandHere_63 (by decide) (fun c33 => ?_) (fun c33 => ?_)
                    · refine z_iconst (v := 0) dX11_commandHere_81 (by decide) ?_
                      exact z_ireturn (mi := mX11_commandHere) dX11_commandHere_82 rfl rfl (Nat.le_refl _) (Nat.le_refl _) (hFl q51 [v31, v51] (by rw [zcmd_y z20 (by decide), show zform 109 = [49, 58, 50, 47, 49] from by decide, zprt_1 z31, zprt_l (d := 58) (by decide) z40, zprt_2 z51, zprt_ln (d := 47) (by decide) z60] <;> rfl) _ _ hM hQ hA51 (hS16.tr (hS20.tr (hS31.tr (hS40.tr (hS51))))) (hm51.trans (hm40.trans (hm31.trans (hm20.trans (hm16))))))
                    · exact absurd rfl c33
                  · have hQ := hQ.tr hF
                    refine z_if_eq (tgt := 81) dX11_commandHere_63 (by decide) (fun c34 => ?_) (fun c34 => ?_)
                    · exact absurd c34 zi10
                    · refine z_aload_n dX11_commandHere_66 rfl ?_
                      refine z_iload_n dX11_commandHere_67 rfl ?_
                      refine z_iconst (v := 3) dX11_commandHere_68 (by decide) ?_
                      refine z_iadd dX11_commandHere_69 ?_
                      refine z_iconst (v := 1) dX11_commandHere_70 (by decide) ?_
                      refine z_V2 (mi' := mX11_number) dX11_commandHere_71 lX11_192 nX11_number kX11_number (by decide) (Nat.le_of_ble_eq_true rfl) (Nat.le_refl _) (Nat.le_refl _) (hM.1 _ (by decide)) rfl rfl ?_
                      rw [show nI (4 * k) + 3 = nI (4 * k + 3) from nI_add (4 * k) 3]
                      refine sX11_number_1 hM hA60 (pl := 4 * k + 3) (by omega) (fun z71 => ?_) (fun v71 q71 z71 G71 ν71 hM hF hA71 hS71 ht71 ho71 hm71 => ?_)
                      · refine z_if_eq (tgt := 81) dX11_commandHere_74 (by decide) (fun c35 => ?_) (fun c35 => ?_)
                        · refine z_iconst (v := 0) dX11_commandHere_81 (by decide) ?_
                          exact z_ireturn (mi := mX11_commandHere) dX11_commandHere_82 rfl rfl (Nat.le_refl _) (Nat.le_refl _) (hFl (q51 + 1) [v31, v51] (by rw [zcmd_y z20 (by decide), show zform 109 = [49, 58, 50, 47, 49] from by decide, zprt_1 z31, zprt_l (d := 58) (by decide) z40, zprt_2 z51, zprt_l (d := 47) (by decide) z60, zprt_1n z71] <;> rfl) _ _ hM hQ hA60 (hS16.tr (hS20.tr (hS31.tr (hS40.tr (hS51.tr (hS60)))))) (hm60.trans (hm51.trans (hm40.trans (hm31.trans (hm20.trans (hm16)))))))
                        · exact absurd rfl c35
                      · have hQ := hQ.tr hF
                        refine z_if_eq (tgt := 81) dX11_commandHere_74 (by decide) (fun c36 => ?_) (fun c36 => ?_)
                        · exact absurd c36 zi10
                        · refine z_iconst (v := 1) dX11_commandHere_77 (by decide) ?_
                          refine z_goto (tgt := 82) dX11_commandHere_78 (by decide) ?_
                          exact z_ireturn (mi := mX11_commandHere) dX11_commandHere_82 rfl rfl (Nat.le_refl _) (Nat.le_refl _) (hTr q71 [v31, v51, v71] (by rw [zcmd_y z20 (by decide), show zform 109 = [49, 58, 50, 47, 49] from by decide, zprt_1 z31, zprt_l (d := 58) (by decide) z40, zprt_2 z51, zprt_l (d := 47) (by decide) z60, zprt_1 z71, zprt] <;> rfl) _ _ hM hQ hA71 (hS16.tr (hS20.tr (hS31.tr (hS40.tr (hS51.tr (hS60.tr (hS71))))))) (fun j hj => (ho71 (j) (by omega)).trans ((congrFun h760 (j)).trans ((ho51 (j) (by omega)).trans ((congrFun h740 (j)).trans ((ho31 (j) (by omega)).trans ((congrFun h720 (j)).trans ((ho16 (j) (by omega))))))))) ((ho71 (4 * k) (by omega)).trans ((congrFun h760 (4 * k)).trans ((ho51 (4 * k) (by omega)).trans ((congrFun h740 (4 * k)).trans ((ho31 (4 * k) (by omega)).trans ((congrFun h720 (4 * k)).trans (ht16.trans (if_pos (zlit_t z20).1)))))))) (zT3 ((ho71 (4 * k + 1) (by omega)).trans ((congrFun h760 (4 * k + 1)).trans ((ho51 (4 * k + 1) (by omega)).trans ((congrFun h740 (4 * k + 1)).trans (ht31))))) ((ho71 (4 * k + 2) (by omega)).trans ((congrFun h760 (4 * k + 2)).trans (ht51))) (ht71)) (hm71.trans (hm60.trans (hm51.trans (hm40.trans (hm31.trans (hm20.trans (hm16))))))))
