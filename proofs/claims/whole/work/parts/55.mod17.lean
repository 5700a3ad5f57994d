/-- what the running of commands leaves alone -/
def zKp (μ ν : zSt) : Prop := ν 2 = μ 2 ∧ ν 3 = μ 3 ∧ ν 6 = μ 6 ∧ ν 0 4 = μ 0 4 ∧ ν 0 5 = μ 0 5 ∧ ν 0 16 = μ 0 16
theorem zKp.cg {μ ν ξ : zSt} (h : zKp μ ν) (h1 : ∀ r, r ≠ 0 → r ≠ 1 → ξ r = ν r) (h2 : ∀ j, j = 4 ∨ j = 5 ∨ j = 16 → ξ 0 j = ν 0 j) : zKp μ ξ := ⟨(h1 2 (by decide) (by decide)).trans h.1, (h1 3 (by decide) (by decide)).trans h.2.1, (h1 6 (by decide) (by decide)).trans h.2.2.1, (h2 4 (Or.inl rfl)).trans h.2.2.2.1, (h2 5 (Or.inr (Or.inl rfl))).trans h.2.2.2.2.1, (h2 16 (Or.inr (Or.inr rfl))).trans h.2.2.2.2.2⟩
/-- within the commands, i of them carried out -/
def zLq (μ ν : zSt) (l : List (Int32 × List Int32)) (i : Nat) : Prop := zKp μ ν ∧ (∀ j, j < 229 → ν 4 j = μ 1 j) ∧ zTold (ν 7) l ∧ ν 0 6 = 1 ∧ ν 0 13 = 0 ∧ ν 0 14 = -1 ∧ ν 0 19 = nI l.length ∧ ν 0 11 = nI i
theorem zLq.cg {μ ν ξ : zSt} {l : List (Int32 × List Int32)} {i i' : Nat} (h : zLq μ ν l i) (h1 : ∀ r, r ≠ 0 → r ≠ 1 → ξ r = ν r) (h2 : ∀ j, j ≠ 7 → j ≠ 8 → j ≠ 9 → j ≠ 10 → j ≠ 11 → ξ 0 j = ν 0 j) (h3 : ξ 0 11 = nI i') : zLq μ ξ l i' := by
  obtain ⟨a1, a2, a3, a4, a5, a6, a7, a8⟩ := h
  refine ⟨a1.cg h1 (fun j hj => h2 j (by omega) (by omega) (by omega) (by omega) (by omega)), fun j hj => ?_, ?_, ?_, ?_, ?_, ?_, h3⟩
  · rw [h1 4 (by decide) (by decide)]; exact a2 j hj
  · rw [h1 7 (by decide) (by decide)]; exact a3
  · rw [h2 6 (by decide) (by decide) (by decide) (by decide) (by decide)]; exact a4
  · rw [h2 13 (by decide) (by decide) (by decide) (by decide) (by decide)]; exact a5
  · rw [h2 14 (by decide) (by decide) (by decide) (by decide) (by decide)]; exact a6
  · rw [h2 19 (by decide) (by decide) (by decide) (by decide) (by decide)]; exact a7
def zRs (μ ν : zSt) : Prop := ν 0 8 = μ 0 8 ∧ ν 0 9 = μ 0 9 ∧ ν 0 10 = μ 0 10
/-- the commands refused; carried out -/
def zCmR (μ ν : zSt) (rn rd : Int32) (i : Nat) : Prop := (∀ j, j < 229 → ν 1 j = μ 1 j) ∧ zKp μ ν ∧ ν 0 6 = 0 ∧ ν 0 7 = 2 ∧ ν 0 8 = rn ∧ ν 0 9 = rd ∧ ν 0 10 = nI i ∧ ν 0 13 = 0 ∧ ν 0 14 = -1
def zCmO (μ κ : zSt) : Prop := κ 0 6 = 0 ∧ (∀ j, j < 229 → κ 4 j = μ 1 j) ∧ zKp μ κ ∧ zRs μ κ ∧ κ 0 13 = 0 ∧ κ 0 14 = -1
theorem zLq.R {μ ν : zSt} {l : List (Int32 × List Int32)} {i i' : Nat} {rn rd : Int32} (h : zLq μ ν l i') (h8 : ν 0 8 = rn) (h9 : ν 0 9 = rd) (h10 : ν 0 10 = nI i) : zCmR μ (zu (zrw (zu ν 0 6 0) 1 (zcy (zu ν 0 6 0 1) (zu ν 0 6 0 4) 0 0 229)) 0 7 2) rn rd i := by
  obtain ⟨a1, a2, a3, a4, a5, a6, a7, a8⟩ := h
  have hr : ∀ j, j ≠ 6 → j ≠ 7 → zu (zrw (zu ν 0 6 0) 1 (zcy (zu ν 0 6 0 1) (zu ν 0 6 0 4) 0 0 229)) 0 7 2 0 j = ν 0 j := fun j h6 h7 => by rw [zu_j h7, zrw_n (by decide), zu_j h6]
  refine ⟨fun j hj => ?_, a1.cg (fun r h0 h1 => by rw [zu_r h0, zrw_n h1, zu_r h0]) (fun j hj => hr j (by omega) (by omega)), ?_, zu_s _ _ _ _, (hr 8 (by decide) (by decide)).trans h8, (hr 9 (by decide) (by decide)).trans h9, (hr 10 (by decide) (by decide)).trans h10, (hr 13 (by decide) (by decide)).trans a5, (hr 14 (by decide) (by decide)).trans a6⟩
  · rw [zu_r (by decide), zrw_s, zcy, if_pos (by omega), zu_r (by decide), show 0 + (j - 0) = j by omega]
    exact a2 j hj
  · rw [zu_j (by decide), zrw_n (by decide), zu_s]
theorem zLq.O {μ ν : zSt} {l : List (Int32 × List Int32)} {i : Nat} (h : zLq μ ν l i) (hr : zRs μ ν) : zCmO μ (zu ν 0 6 0) := by
  obtain ⟨a1, a2, a3, a4, a5, a6, a7, a8⟩ := h
  exact ⟨zu_s _ _ _ _, fun j hj => by rw [zu_r (by decide)]; exact a2 j hj, a1.cg (fun r h0 _ => zu_r h0) (fun j hj => zu_j (by omega)), ⟨(zu_j (by decide)).trans hr.1, (zu_j (by decide)).trans hr.2.1, (zu_j (by decide)).trans hr.2.2⟩, (zu_j (by decide)).trans a5, (zu_j (by decide)).trans a6⟩
theorem zdrop_s {α : Type} {l : List α} {i : Nat} {d : α} (h : i < l.length) : l.drop i = l.getD i d :: l.drop (i + 1) := by
  rw [List.drop_eq_getElem_cons h]
  simp [List.getD, h]
theorem zrun_e (σ : zSt) (E S : Nat) {l : List (Int32 × List Int32)} {i : Nat} (h : i = l.length) (j : Nat) : zrun σ E S (l.drop i) j = (none, σ) := by
  rw [h, List.drop_length, zrun]
theorem zrun_r {σ : zSt} {E S : Nat} {l : List (Int32 × List Int32)} {i j : Nat} (h : i < l.length) {rn rd : Int32} (hz : zrX σ E (l.getD i (0, [])) = some (rn, rd)) : zrun σ E S (l.drop i) j = (some (rn, rd, j), σ) := by
  rw [zdrop_s (d := (0, [])) h, zrun, hz]
theorem zrun_o {σ : zSt} {E S : Nat} {l : List (Int32 × List Int32)} {i j : Nat} (h : i < l.length) (hz : zrX σ E (l.getD i (0, [])) = none) : zrun σ E S (l.drop i) j = zrun (znx σ E S (l.getD i (0, []))) E S (l.drop (i + 1)) (j + 1) := by
  rw [zdrop_s (d := (0, [])) h, zrun, hz]
theorem zq0 {μ ν1 : zSt} {l : List (Int32 × List Int32)} (hS : zSm μ ν1) (h19 : ν1 0 19 = nI l.length) (hT : zTold (ν1 7) l) (h6 : μ 0 6 = 0) : zLq μ (zu (zu (zrw (zu (zu (zu ν1 0 14 (-1)) 0 13 0) 0 7 0) 4 (zcy (zu (zu (zu ν1 0 14 (-1)) 0 13 0) 0 7 0 4) (zu (zu (zu ν1 0 14 (-1)) 0 13 0) 0 7 0 1) 0 0 229)) 0 6 1) 0 11 0) l 0 ∧ (zu (zu (zrw (zu (zu (zu ν1 0 14 (-1)) 0 13 0) 0 7 0) 4 (zcy (zu (zu (zu ν1 0 14 (-1)) 0 13 0) 0 7 0 4) (zu (zu (zu ν1 0 14 (-1)) 0 13 0) 0 7 0 1) 0 0 229)) 0 6 1) 0 11 0) 0 7 = 0 ∧ zRs μ (zu (zu (zrw (zu (zu (zu ν1 0 14 (-1)) 0 13 0) 0 7 0) 4 (zcy (zu (zu (zu ν1 0 14 (-1)) 0 13 0) 0 7 0 4) (zu (zu (zu ν1 0 14 (-1)) 0 13 0) 0 7 0 1) 0 0 229)) 0 6 1) 0 11 0) ∧ (zu (zu (zrw (zu (zu (zu ν1 0 14 (-1)) 0 13 0) 0 7 0) 4 (zcy (zu (zu (zu ν1 0 14 (-1)) 0 13 0) 0 7 0 4) (zu (zu (zu ν1 0 14 (-1)) 0 13 0) 0 7 0 1) 0 0 229)) 0 6 1) 0 11 0) 1 = μ 1 := by
  have h0 : ∀ j, j ≠ 6 → j ≠ 7 → j ≠ 11 → j ≠ 13 → j ≠ 14 → (zu (zu (zrw (zu (zu (zu ν1 0 14 (-1)) 0 13 0) 0 7 0) 4 (zcy (zu (zu (zu ν1 0 14 (-1)) 0 13 0) 0 7 0 4) (zu (zu (zu ν1 0 14 (-1)) 0 13 0) 0 7 0 1) 0 0 229)) 0 6 1) 0 11 0) 0 j = ν1 0 j := fun j a b c d e => by rw [zu_j c, zu_j a, zrw_n (by decide), zu_j b, zu_j d, zu_j e]
  have hr : ∀ r, r ≠ 0 → r ≠ 4 → (zu (zu (zrw (zu (zu (zu ν1 0 14 (-1)) 0 13 0) 0 7 0) 4 (zcy (zu (zu (zu ν1 0 14 (-1)) 0 13 0) 0 7 0 4) (zu (zu (zu ν1 0 14 (-1)) 0 13 0) 0 7 0 1) 0 0 229)) 0 6 1) 0 11 0) r = ν1 r := fun r a b => by rw [zu_r a, zu_r a, zrw_n b, zu_r a, zu_r a, zu_r a]
  refine ⟨⟨⟨(hr 2 (by decide) (by decide)).trans (hS.1 2 (by decide) (by decide)), (hr 3 (by decide) (by decide)).trans (hS.1 3 (by decide) (by decide)), (hr 6 (by decide) (by decide)).trans (hS.1 6 (by decide) (by decide)), (h0 4 (by decide) (by decide) (by decide) (by decide) (by decide)).trans (hS.2 4 (by decide) (by decide)), (h0 5 (by decide) (by decide) (by decide) (by decide) (by decide)).trans (hS.2 5 (by decide) (by decide)), (h0 16 (by decide) (by decide) (by decide) (by decide) (by decide)).trans (hS.2 16 (by decide) (by decide))⟩, fun j hj => ?_, ?_, ?_, ?_, ?_, (h0 19 (by decide) (by decide) (by decide) (by decide) (by decide)).trans h19, zu_s _ _ _ _⟩, ?_, ⟨(h0 8 (by decide) (by decide) (by decide) (by decide) (by decide)).trans (hS.2 8 (by decide) (by decide)), (h0 9 (by decide) (by decide) (by decide) (by decide) (by decide)).trans (hS.2 9 (by decide) (by decide)), (h0 10 (by decide) (by decide) (by decide) (by decide) (by decide)).trans (hS.2 10 (by decide) (by decide))⟩, (hr 1 (by decide) (by decide)).trans (hS.1 1 (by decide) (by decide))⟩
  · rw [zu_r (by decide), zu_r (by decide), zrw_s, zcy, if_pos (by omega), zu_r (by decide), zu_r (by decide), zu_r (by decide), show 0 + (j - 0) = j by omega, hS.1 1 (by decide) (by decide)]
  · rw [hr 7 (by decide) (by decide)]; exact hT
  · rw [zu_j (by decide), zu_s]
  · rw [zu_j (by decide), zu_j (by decide), zrw_n (by decide), zu_j (by decide), zu_s]
  · rw [zu_j (by decide), zu_j (by decide), zrw_n (by decide), zu_j (by decide), zu_j (by decide), zu_s]
  · rw [zu_j (by decide), zu_j (by decide), zrw_n (by decide), zu_s]
set_option maxHeartbeats 4000000 in
set_option maxRecDepth 10000 in
theorem sX11_commands {Γ : zG} {d : Nat} {G : zH} {Post : zV} {am : Nat → Nat} {μ : zSt} (hM : zMod G am μ) {σ : zSt} {S F E K : Nat} {mm : Nat → Nat} {fl : Nat → Nat → Nat} (hL : zRel σ S F E K (μ 1) mm fl) {Y : Int} (hB : zBnd σ S F E K Y) (hD : zDis σ S F) {ct : Nat} (hct : μ 0 5 = nI ct) (hc8 : ct ≤ 8) (hw : μ 0 6 = 0) (hY : Y + 1260 < 2147482000) {c : Nat → Int32} {n : Nat} (hn : μ 0 13 = nI n) (hn60 : n ≤ 60) (hc : μ 5 = c) (hX : ∀ q l, zscan c n 60 0 = (some q, l) → q ≤ n → ∀ G1 ν, zMod G1 am ν → zFrm G G1 am 8 → zKp μ ν → zRs μ ν → ν 1 = μ 1 → ν 0 6 = 0 → ν 0 7 = 1 → ν 0 13 = 0 → ν 0 14 = nI q → Post (some (.int 0)) G1) (hRf9 : ∀ l, zscan c n 60 0 = (none, l) → (∀ x, x ∈ l → zwf x) → l.length ≤ 20 → ∀ rn rd i σ', zrun σ E S l 0 = (some (rn, rd, i), σ') → ∀ G1 ν, zMod G1 am ν → zFrm G G1 am 8 → zCmR μ ν rn rd i → ∀ v, Post (some (.int v)) G1) (hOk9 : ∀ l, zscan c n 60 0 = (none, l) → (∀ x, x ∈ l → zwf x) → l.length ≤ 20 → ∀ σ', zrun σ E S l 0 = (none, σ') → ∀ G1 κ, zMod G1 am (zmkeep κ 4 ct) → zFrm G G1 am 8 → zCmO μ κ → (∃ mm' fl', zRel σ' S F E K (κ 1) mm' fl') → Post (some (.int (nI l.length))) G1) : zM Γ (d + 6) mX11_commands 0 0 [.ref (am 0)] G Post := by
  refine zM_of pnX11 rfl (Nat.le_of_ble_eq_true rfl) rfl ?_
  have hS6 := hL.S6
  have hF12 := hL.F12
  have hE4 := hL.E4
  have hK3 := hL.K3
  have hQ : zFrm G G am 8 := zFrm.rf
  refine z_aload_n dX11_commands_0 rfl ?_
  refine z_V0 (mi' := mX11_isText) dX11_commands_1 lX11_217 nX11_isText kX11_isText (by decide) (Nat.le_of_ble_eq_true rfl) (Nat.le_refl _) (Nat.le_refl _) (hM.1 _ (by decide)) rfl rfl ?_
  refine sX11_isText hM hn hn60 hc (fun q l hz G1 ν1 hM hF hS h17 hqn => ?_) (fun l hz G1 ν1 hM hF hS h19 hTo hwf hl20 => ?_)
  · have hQ := hQ.tr hF
    refine z_istore_n dX11_commands_4 (by decide) rfl ?_
    refine z_aload_n dX11_commands_5 rfl ?_
    refine z_iload_n dX11_commands_6 rfl ?_
    refine z_if_eq (tgt := 14) dX11_commands_7 (by decide) (fun c1 => ?_) (fun c1 => ?_)
    · refine z_aload_n dX11_commands_14 rfl ?_
      refine z_get dX11_commands_15 fX11_180.r (hM.1 _ (by decide)) rfl ?_
      rw [h17]
      refine z_put dX11_commands_18 fX11_25 (hM.1 _ (by decide)) rfl rfl (Nat.le_of_ble_eq_true rfl) ?_
      refine z_mset hM 0 14 (nI q) (by decide) rfl (fun _ hM hF => ?_)
      have hQ := hQ.tr hF
      refine z_aload_n dX11_commands_21 rfl ?_
      refine z_iconst (v := 0) dX11_commands_22 (by decide) ?_
      refine z_put dX11_commands_23 fX11_177 (hM.1 _ (by decide)) rfl rfl (Nat.le_of_ble_eq_true rfl) ?_
      refine z_mset hM 0 13 (0) (by decide) rfl (fun _ hM hF => ?_)
      have hQ := hQ.tr hF
      refine z_aload_n dX11_commands_26 rfl ?_
      refine z_iload_n dX11_commands_27 rfl ?_
      refine z_if_eq (tgt := 35) dX11_commands_28 (by decide) (fun c2 => ?_) (fun c2 => ?_)
      · refine z_iconst (v := 1) dX11_commands_35 (by decide) ?_
        refine z_V1 (mi' := mX11_fails) dX11_commands_36 lX11_149 nX11_fails kX11_fails (by decide) (Nat.le_of_ble_eq_true rfl) (Nat.le_refl _) (Nat.le_refl _) (hM.1 _ (by decide)) rfl rfl ?_
        refine sX11_fails hM (fun G1 hM hF => ?_)
        have hQ := hQ.tr hF
        rw [zfb1]
        refine z_if_eq (tgt := 44) dX11_commands_39 (by decide) (fun c3 => ?_) (fun c3 => ?_)
        · exact absurd c3 zi10
        · refine z_iconst (v := 0) dX11_commands_42 (by decide) ?_
          exact z_ireturn (mi := mX11_commands) dX11_commands_43 rfl rfl (Nat.le_refl _) (Nat.le_refl _) (hX q l hz hqn _ _ hM hQ ⟨by simp only [zu_r (show (2 : Nat) ≠ 0 by decide)]; exact hS.1 2 (by decide) (by decide), by simp only [zu_r (show (3 : Nat) ≠ 0 by decide)]; exact hS.1 3 (by decide) (by decide), by simp only [zu_r (show (6 : Nat) ≠ 0 by decide)]; exact hS.1 6 (by decide) (by decide), hS.2 4 (by decide) (by decide), hS.2 5 (by decide) (by decide), hS.2 16 (by decide) (by decide)⟩ ⟨hS.2 8 (by decide) (by decide), hS.2 9 (by decide) (by decide), hS.2 10 (by decide) (by decide)⟩ (by simp only [zu_r (show (1 : Nat) ≠ 0 by decide)]; exact hS.1 1 (by decide) (by decide)) ((hS.2 6 (by decide) (by decide)).trans hw) (zu_s _ _ _ _) ((zu_j (by decide)).trans (zu_s _ _ _ _)) ((zu_j (by decide)).trans ((zu_j (by decide)).trans (zu_s _ _ _ _))))
      · exact absurd rfl c2
    · exact absurd rfl c1
  · have hQ := hQ.tr hF
    have hRf := hRf9 l hz hwf hl20
    have hOk := hOk9 l hz hwf hl20
    refine z_istore_n dX11_commands_4 (by decide) rfl ?_
    refine z_aload_n dX11_commands_5 rfl ?_
    refine z_iload_n dX11_commands_6 rfl ?_
    refine z_if_eq (tgt := 14) dX11_commands_7 (by decide) (fun c4 => ?_) (fun c4 => ?_)
    · exact absurd c4 zi10
    · refine z_iconst (v := (-1)) dX11_commands_10 (by decide) ?_
      refine z_goto (tgt := 18) dX11_commands_11 (by decide) ?_
      refine z_put dX11_commands_18 fX11_25 (hM.1 _ (by decide)) rfl rfl (Nat.le_of_ble_eq_true rfl) ?_
      refine z_mset hM 0 14 ((-1)) (by decide) rfl (fun _ hM hF => ?_)
      have hQ := hQ.tr hF
      refine z_aload_n dX11_commands_21 rfl ?_
      refine z_iconst (v := 0) dX11_commands_22 (by decide) ?_
      refine z_put dX11_commands_23 fX11_177 (hM.1 _ (by decide)) rfl rfl (Nat.le_of_ble_eq_true rfl) ?_
      refine z_mset hM 0 13 (0) (by decide) rfl (fun _ hM hF => ?_)
      have hQ := hQ.tr hF
      refine z_aload_n dX11_commands_26 rfl ?_
      refine z_iload_n dX11_commands_27 rfl ?_
      refine z_if_eq (tgt := 35) dX11_commands_28 (by decide) (fun c5 => ?_) (fun c5 => ?_)
      · exact absurd c5 zi10
      · refine z_iconst (v := 0) dX11_commands_31 (by decide) ?_
        refine z_goto (tgt := 36) dX11_commands_32 (by decide) ?_
        refine z_V1 (mi' := mX11_fails) dX11_commands_36 lX11_149 nX11_fails kX11_fails (by decide) (Nat.le_of_ble_eq_true rfl) (Nat.le_refl _) (Nat.le_refl _) (hM.1 _ (by decide)) rfl rfl ?_
        refine sX11_fails hM (fun G1 hM hF => ?_)
        have hQ := hQ.tr hF
        rw [zfb0]
        refine z_if_eq (tgt := 44) dX11_commands_39 (by decide) (fun c6 => ?_) (fun c6 => ?_)
        · refine z_aload_n dX11_commands_44 rfl ?_
          refine z_get dX11_commands_45 fX11_7.r (hM.1 _ (by decide)) rfl ?_
          refine z_iconst (v := 0) dX11_commands_48 (by decide) ?_
          refine z_aload_n dX11_commands_49 rfl ?_
          refine z_get dX11_commands_50 fX11_19.r (hM.1 _ (by decide)) rfl ?_
          refine z_iconst (v := 0) dX11_commands_53 (by decide) ?_
          refine z_S4 (mi' := mX11_copies) dX11_commands_54 lX11_58 nX11_copies kX11_copies (by decide) (Nat.le_of_ble_eq_true rfl) (Nat.le_refl _) (Nat.le_refl _) ?_
          refine sX11_copies hM (r1 := 1) (r2 := 4) (p := 0) (q := 0) (by decide) (by decide) (by decide) (by decide) (by decide) (by decide) (by decide) (fun G2 hM hF => ?_)
          have hQ := hQ.tr hF
          refine z_aload_n dX11_commands_57 rfl ?_
          refine z_iconst (v := 1) dX11_commands_58 (by decide) ?_
          refine z_put dX11_commands_59 fX11_45 (hM.1 _ (by decide)) rfl rfl (Nat.le_of_ble_eq_true rfl) ?_
          refine z_mset hM 0 6 (1) (by decide) rfl (fun _ hM hF => ?_)
          have hQ := hQ.tr hF
          refine z_aload_n dX11_commands_62 rfl ?_
          refine z_iconst (v := 0) dX11_commands_63 (by decide) ?_
          refine z_put dX11_commands_64 fX11_49 (hM.1 _ (by decide)) rfl rfl (Nat.le_of_ble_eq_true rfl) ?_
          refine z_mset hM 0 11 (0) (by decide) rfl (fun _ hM hF => ?_)
          have hQ := hQ.tr hF
          refine z_iconst (v := 0) dX11_commands_67 (by decide) ?_
          refine z_istore_n dX11_commands_68 (by decide) rfl ?_
          have exR : ∀ (G1 : zH) (ν : zSt) (v rn rd : Int32) (i : Nat) (σ9 : zSt), zrun σ E S l 0 = (some (rn, rd, i), σ9) → zMod G1 am ν → zFrm G G1 am 8 → zLq μ ν l (i + 1) → ν 0 7 = 1 → ν 0 8 = rn → ν 0 9 = rd → ν 0 10 = nI i → zX Γ mX11_commands (d + 6) 0 0 69 [some (.ref (am 0)), some (.int 1), some (.int v)] [] G1 0 0 (zlift Post) := by
            intro G1 ν v rn rd i σ9 hz hM hQ hq h7 h8 h9 h10
            refine z_aload_n dX11_commands_69 rfl ?_
            refine z_get dX11_commands_70 fX11_49.r (hM.1 _ (by decide)) rfl ?_
            refine z_aload_n dX11_commands_73 rfl ?_
            refine z_get dX11_commands_74 fX11_186.r (hM.1 _ (by decide)) rfl ?_
            refine z_icmp_ge (tgt := 128) dX11_commands_77 (by decide) (fun c1 => ?_) (fun c1 => ?_)
            · refine z_aload_n dX11_commands_128 rfl ?_
              refine z_iconst (v := 0) dX11_commands_129 (by decide) ?_
              refine z_put dX11_commands_130 fX11_45 (hM.1 _ (by decide)) rfl rfl (Nat.le_of_ble_eq_true rfl) ?_
              refine z_mset hM 0 6 (0) (by decide) rfl (fun _ hM hF => ?_)
              have hQ := hQ.tr hF
              refine z_aload_n dX11_commands_133 rfl ?_
              refine z_get dX11_commands_134 fX11_36.r (hM.1 _ (by decide)) rfl ?_
              refine z_if_le (tgt := 168) dX11_commands_137 (by decide) (fun c2 => ?_) (fun c2 => ?_)
              · exact absurd (show ν 0 7 ≤ 0 from c2) (by rw [h7]; decide)
              · refine z_aload_n dX11_commands_140 rfl ?_
                refine z_get dX11_commands_141 fX11_19.r (hM.1 _ (by decide)) rfl ?_
                refine z_iconst (v := 0) dX11_commands_144 (by decide) ?_
                refine z_aload_n dX11_commands_145 rfl ?_
                refine z_get dX11_commands_146 fX11_7.r (hM.1 _ (by decide)) rfl ?_
                refine z_iconst (v := 0) dX11_commands_149 (by decide) ?_
                refine z_S4 (mi' := mX11_copies) dX11_commands_150 lX11_58 nX11_copies kX11_copies (by decide) (Nat.le_of_ble_eq_true rfl) (Nat.zero_le _) (Nat.zero_le _) ?_
                refine sX11_copies hM (r1 := 4) (r2 := 1) (p := 0) (q := 0) (by decide) (by decide) (by decide) (by decide) (by decide) (by decide) (by decide) (fun G2 hM hF => ?_)
                have hQ := hQ.tr hF
                refine z_aload_n dX11_commands_153 rfl ?_
                refine z_iconst (v := 2) dX11_commands_154 (by decide) ?_
                refine z_put dX11_commands_155 fX11_36 (hM.1 _ (by decide)) rfl rfl (Nat.le_of_ble_eq_true rfl) ?_
                refine z_mset hM 0 7 (2) (by decide) rfl (fun _ hM hF => ?_)
                have hQ := hQ.tr hF
                refine z_iload_n dX11_commands_158 rfl ?_
                refine z_if_ge (tgt := 166) dX11_commands_159 (by decide) (fun c3 => ?_) (fun c3 => ?_)
                · refine z_iconst (v := 0) dX11_commands_166 (by decide) ?_
                  exact z_ireturn (mi := mX11_commands) dX11_commands_167 rfl rfl (Nat.zero_le _) (Nat.zero_le _) (hRf rn rd i σ9 hz _ _ hM hQ (hq.R h8 h9 h10) _)
                · refine z_iload_n dX11_commands_162 rfl ?_
                  refine z_goto (tgt := 167) dX11_commands_163 (by decide) ?_
                  exact z_ireturn (mi := mX11_commands) dX11_commands_167 rfl rfl (Nat.zero_le _) (Nat.zero_le _) (hRf rn rd i σ9 hz _ _ hM hQ (hq.R h8 h9 h10) _)
            · refine z_aload_n dX11_commands_80 rfl ?_
              refine z_get dX11_commands_81 fX11_36.r (hM.1 _ (by decide)) rfl ?_
              refine z_if_ne (tgt := 128) dX11_commands_84 (by decide) (fun c4 => ?_) (fun c4 => ?_)
              · refine z_aload_n dX11_commands_128 rfl ?_
                refine z_iconst (v := 0) dX11_commands_129 (by decide) ?_
                refine z_put dX11_commands_130 fX11_45 (hM.1 _ (by decide)) rfl rfl (Nat.le_of_ble_eq_true rfl) ?_
                refine z_mset hM 0 6 (0) (by decide) rfl (fun _ hM hF => ?_)
                have hQ := hQ.tr hF
                refine z_aload_n dX11_commands_133 rfl ?_
                refine z_get dX11_commands_134 fX11_36.r (hM.1 _ (by decide)) rfl ?_
                refine z_if_le (tgt := 168) dX11_commands_137 (by decide) (fun c5 => ?_) (fun c5 => ?_)
                · exact absurd (show ν 0 7 ≤ 0 from c5) (by rw [h7]; decide)
                · refine z_aload_n dX11_commands_140 rfl ?_
                  refine z_get dX11_commands_141 fX11_19.r (hM.1 _ (by decide)) rfl ?_
                  refine z_iconst (v := 0) dX11_commands_144 (by decide) ?_
                  refine z_aload_n dX11_commands_145 rfl ?_
                  refine z_get dX11_commands_146 fX11_7.r (hM.1 _ (by decide)) rfl ?_
                  refine z_iconst (v := 0) dX11_commands_149 (by decide) ?_
                  refine z_S4 (mi' := mX11_copies) dX11_commands_150 lX11_58 nX11_copies kX11_copies (by decide) (Nat.le_of_ble_eq_true rfl) (Nat.zero_le _) (Nat.zero_le _) ?_
                  refine sX11_copies hM (r1 := 4) (r2 := 1) (p := 0) (q := 0) (by decide) (by decide) (by decide) (by decide) (by decide) (by decide) (by decide) (fun G2 hM hF => ?_)
                  have hQ := hQ.tr hF
                  refine z_aload_n dX11_commands_153 rfl ?_
                  refine z_iconst (v := 2) dX11_commands_154 (by decide) ?_
                  refine z_put dX11_commands_155 fX11_36 (hM.1 _ (by decide)) rfl rfl (Nat.le_of_ble_eq_true rfl) ?_
                  refine z_mset hM 0 7 (2) (by decide) rfl (fun _ hM hF => ?_)
                  have hQ := hQ.tr hF
                  refine z_iload_n dX11_commands_158 rfl ?_
                  refine z_if_ge (tgt := 166) dX11_commands_159 (by decide) (fun c6 => ?_) (fun c6 => ?_)
                  · refine z_iconst (v := 0) dX11_commands_166 (by decide) ?_
                    exact z_ireturn (mi := mX11_commands) dX11_commands_167 rfl rfl (Nat.zero_le _) (Nat.zero_le _) (hRf rn rd i σ9 hz _ _ hM hQ (hq.R h8 h9 h10) _)
                  · refine z_iload_n dX11_commands_162 rfl ?_
                    refine z_goto (tgt := 167) dX11_commands_163 (by decide) ?_
                    exact z_ireturn (mi := mX11_commands) dX11_commands_167 rfl rfl (Nat.zero_le _) (Nat.zero_le _) (hRf rn rd i σ9 hz _ _ hM hQ (hq.R h8 h9 h10) _)
              · exact absurd c4 (by rw [h7]; decide)
          have key : ∀ (r : Nat) (i : Nat) (G1 : zH) (ν σ9 : zSt) (v : Int32) (mm9 : Nat → Nat) (fl9 : Nat → Nat → Nat), i ≤ l.length → l.length < i + r → zMod G1 am ν → zFrm G G1 am 8 → zLq μ ν l i → ν 0 7 = 0 → zRs μ ν → zRel σ9 S F E K (ν 1) mm9 fl9 → zBnd σ9 S F E K (Y + 60 * i) → zDis σ9 S F → zrun σ E S l 0 = zrun σ9 E S (l.drop i) i → zX Γ mX11_commands (d + 6) 0 0 69 [some (.ref (am 0)), some (.int 1), some (.int v)] [] G1 0 0 (zlift Post) := by
            intro r
            induction r with
            | zero =>
              intro i G1 ν σ9 v mm9 fl9 hi1 hi2 hM hQ hq h7 hr9 hL9 hB9 hD9 hz0
              exact absurd hi2 (by omega)
            | succ r ih =>
              intro i G1 ν σ9 v mm9 fl9 hi1 hi2 hM hQ hq h7 hr9 hL9 hB9 hD9 hz0
              have hY9 : Y + 60 * (i : Int) < 2147482000 := by omega
              refine z_aload_n dX11_commands_69 rfl ?_
              refine z_get dX11_commands_70 fX11_49.r (hM.1 _ (by decide)) rfl ?_
              refine z_aload_n dX11_commands_73 rfl ?_
              refine z_get dX11_commands_74 fX11_186.r (hM.1 _ (by decide)) rfl ?_
              rw [hq.2.2.2.2.2.2.1, hq.2.2.2.2.2.2.2]
              refine z_icmp_ge (tgt := 128) dX11_commands_77 (by decide) (fun c1 => ?_) (fun c1 => ?_)
              · have hi9 := zgeN (N := l.length) rfl (by omega) (by omega) c1
                have hil : i = l.length := by omega
                refine z_aload_n dX11_commands_128 rfl ?_
                refine z_iconst (v := 0) dX11_commands_129 (by decide) ?_
                refine z_put dX11_commands_130 fX11_45 (hM.1 _ (by decide)) rfl rfl (Nat.le_of_ble_eq_true rfl) ?_
                refine z_mset hM 0 6 (0) (by decide) rfl (fun _ hM hF => ?_)
                have hQ := hQ.tr hF
                refine z_aload_n dX11_commands_133 rfl ?_
                refine z_get dX11_commands_134 fX11_36.r (hM.1 _ (by decide)) rfl ?_
                refine z_if_le (tgt := 168) dX11_commands_137 (by decide) (fun c2 => ?_) (fun c2 => ?_)
                · refine z_aload_n dX11_commands_168 rfl ?_
                  refine z_aload_n dX11_commands_169 rfl ?_
                  refine z_get dX11_commands_170 fX11_19.r (hM.1 _ (by decide)) rfl ?_
                  refine z_V1 (mi' := mX11_keeps) dX11_commands_173 lX11_87 nX11_keeps kX11_keeps (by decide) (Nat.le_of_ble_eq_true rfl) (Nat.le_refl _) (Nat.le_refl _) (hM.1 _ (by decide)) rfl rfl ?_
                  refine sX11_keeps hM (r := 4) (by decide) (by decide) (by decide) (hq.1.2.2.2.2.1.trans hct) hc8 (fun G2 hM hF => ?_)
                  have hQ := hQ.tr hF
                  refine z_aload_n dX11_commands_176 rfl ?_
                  refine z_get dX11_commands_177 fX11_186.r (hM.1 _ (by decide)) rfl ?_
                  rw [show zmkeep (zu ν 0 6 0) 4 ct 0 19 = nI l.length from (zmkeep_j (by decide) (by decide)).trans ((zu_j (by decide)).trans hq.2.2.2.2.2.2.1)]
                  exact z_ireturn (mi := mX11_commands) dX11_commands_180 rfl rfl (Nat.le_refl _) (Nat.le_refl _) (hOk σ9 (by rw [hz0, zrun_e _ _ _ hil]) _ _ hM hQ (hq.O hr9) ⟨mm9, fl9, hL9⟩)
                · exact absurd (show ν 0 7 ≤ 0 by rw [h7]; decide) c2
              · have hi9 := zltN (N := l.length) rfl (by omega) (by omega) c1
                refine z_aload_n dX11_commands_80 rfl ?_
                refine z_get dX11_commands_81 fX11_36.r (hM.1 _ (by decide)) rfl ?_
                refine z_if_ne (tgt := 128) dX11_commands_84 (by decide) (fun c3 => ?_) (fun c3 => ?_)
                · exact absurd h7 c3
                · refine z_aload_n dX11_commands_87 rfl ?_
                  refine z_iconst (v := 4) dX11_commands_88 (by decide) ?_
                  refine z_aload_n dX11_commands_89 rfl ?_
                  refine z_get dX11_commands_90 fX11_49.r (hM.1 _ (by decide)) rfl ?_
                  refine z_imul dX11_commands_93 ?_
                  rw [hq.2.2.2.2.2.2.2, show (4 : Int32) = nI 4 from rfl, pk_mul]
                  refine z_V1 (mi' := mX11_carries) dX11_commands_94 lX11_220 nX11_carries kX11_carries (by decide) (Nat.le_of_ble_eq_true rfl) (Nat.le_refl _) (Nat.le_refl _) (hM.1 _ (by decide)) rfl rfl ?_
                  refine sX11_carries hM hL9 (hct := (hq.1.2.2.2.2.1.trans hct)) hc8 hD9 hB9 (x1 := (l.getD i (0, [])).1) (ns := (l.getD i (0, [])).2) (j := i) (by rw [hq.2.2.2.1]; decide) (by omega) (hq.2.2.1 i hi9).1 (hq.2.2.1 i hi9).2 (zwf_all hwf i hi9) ?_ ?_
                  · intro hz G2 ν2 hM hF hs hrel v2
                    have hQ := hQ.tr hF
                    obtain ⟨mm8, fl8, hL8⟩ := hrel
                    have h211 : ν2 0 11 = nI i := (congrFun (hs 0 (by decide)) 11).trans ((zu_j (by decide)).trans hq.2.2.2.2.2.2.2)
                    have h27 : ν2 0 7 = 0 := (congrFun (hs 0 (by decide)) 7).trans (zu_s _ _ _ _)
                    have hnx := hL9.nx hB9 hD9 hY9 hz
                    refine z_istore_n dX11_commands_97 (by decide) rfl ?_
                    refine z_aload_n dX11_commands_98 rfl ?_
                    refine z_dup dX11_commands_99 rfl ?_
                    refine z_get dX11_commands_100 fX11_49.r (hM.1 _ (by decide)) rfl ?_
                    refine z_iconst (v := 1) dX11_commands_103 (by decide) ?_
                    rw [h211]
                    refine z_iadd dX11_commands_104 ?_
                    rw [nI_1]
                    refine z_put dX11_commands_105 fX11_49 (hM.1 _ (by decide)) rfl rfl (Nat.le_of_ble_eq_true rfl) ?_
                    refine z_mset hM 0 11 (nI (i + 1)) (by decide) rfl (fun _ hM hF => ?_)
                    have hQ := hQ.tr hF
                    refine z_aload_n dX11_commands_108 rfl ?_
                    refine z_get dX11_commands_109 fX11_36.r (hM.1 _ (by decide)) rfl ?_
                    refine z_if_le (tgt := 69) dX11_commands_112 (by decide) (fun c4 => ?_) (fun c4 => ?_)
                    · exact z_sub (lv' := [some (.ref (am 0)), some (.int 1), some (.int v2)]) ⟨rfl, rfl, rfl, trivial⟩ (ih (i + 1) _ _ (znx σ9 E S (l.getD i (0, []))) v2 mm8 fl8 (by omega) (by omega) hM hQ (hq.cg (fun r h0 h1 => by rw [zu_r h0, hs r h1, zu_r h0]) (fun j h7 _ _ _ h11 => by rw [zu_j h11, hs 0 (by decide), zu_j h7]) (zu_s _ _ _ _)) ((zu_j (by decide)).trans h27) ⟨(zu_j (by decide)).trans ((congrFun (hs 0 (by decide)) 8).trans ((zu_j (by decide)).trans hr9.1)), (zu_j (by decide)).trans ((congrFun (hs 0 (by decide)) 9).trans ((zu_j (by decide)).trans hr9.2.1)), (zu_j (by decide)).trans ((congrFun (hs 0 (by decide)) 10).trans ((zu_j (by decide)).trans hr9.2.2))⟩ (by rw [zu_r (by decide)]; exact hL8) (hnx.1.up (by omega)) hnx.2 (by rw [hz0, zrun_o hi9 hz]))
                    · exact absurd (show zu ν2 0 11 (nI (i + 1)) 0 7 ≤ 0 by rw [zu_j (by decide), h27]; decide) c4
                  · intro rn rd hz G2 hM hF
                    have hQ := hQ.tr hF
                    refine z_istore_n dX11_commands_97 (by decide) rfl ?_
                    refine z_aload_n dX11_commands_98 rfl ?_
                    refine z_dup dX11_commands_99 rfl ?_
                    refine z_get dX11_commands_100 fX11_49.r (hM.1 _ (by decide)) rfl ?_
                    refine z_iconst (v := 1) dX11_commands_103 (by decide) ?_
                    rw [show zmref ν rn rd 0 11 = nI i from hq.2.2.2.2.2.2.2]
                    refine z_iadd dX11_commands_104 ?_
                    rw [nI_1]
                    refine z_put dX11_commands_105 fX11_49 (hM.1 _ (by decide)) rfl rfl (Nat.le_of_ble_eq_true rfl) ?_
                    refine z_mset hM 0 11 (nI (i + 1)) (by decide) rfl (fun _ hM hF => ?_)
                    have hQ := hQ.tr hF
                    refine z_aload_n dX11_commands_108 rfl ?_
                    refine z_get dX11_commands_109 fX11_36.r (hM.1 _ (by decide)) rfl ?_
                    refine z_if_le (tgt := 69) dX11_commands_112 (by decide) (fun c5 => ?_) (fun c5 => ?_)
                    · exact absurd c5 (show ¬ ((1 : Int32) ≤ 0) by decide)
                    · refine z_aload_n dX11_commands_115 rfl ?_
                      refine z_aload_n dX11_commands_116 rfl ?_
                      refine z_get dX11_commands_117 fX11_49.r (hM.1 _ (by decide)) rfl ?_
                      refine z_iconst (v := 1) dX11_commands_120 (by decide) ?_
                      refine z_isub dX11_commands_121 ?_
                      rw [show zu (zmref ν rn rd) 0 11 (nI (i + 1)) 0 11 = nI (i + 1) from rfl, nI_pred]
                      refine z_put dX11_commands_122 fX11_52 (hM.1 _ (by decide)) rfl rfl (Nat.le_of_ble_eq_true rfl) ?_
                      refine z_mset hM 0 10 (nI i) (by decide) rfl (fun _ hM hF => ?_)
                      have hQ := hQ.tr hF
                      refine z_goto (tgt := 69) dX11_commands_125 (by decide) ?_
                      exact exR _ _ _ rn rd i σ9 (by rw [hz0, zrun_r hi9 hz]) hM hQ (hq.cg (fun r h0 h1 => by rw [zu_r h0, zu_r h0, zmref, zu_r h0, zu_r h0, zu_r h0, zu_r h0]) (fun j h7 h8 h9 h10 h11 => by rw [zu_j h10, zu_j h11, zmref, zu_j h10, zu_j h9, zu_j h8, zu_j h7]) (by rw [zu_j (by decide), zu_s])) (by simp [zmref, zu]) (by simp [zmref, zu]) (by simp [zmref, zu]) (by rw [zu_s])
          obtain ⟨k1, k2, k3, k4⟩ := zq0 hS h19 hTo hw
          exact z_sub (lv' := [some (.ref (am 0)), some (.int 1), some (.int 0)]) ⟨rfl, rfl, rfl, trivial⟩ (key (l.length + 1) 0 _ _ σ 0 mm fl (by omega) (by omega) hM hQ k1 k2 k3 (by rw [k4]; exact hL) (hB.up (by omega)) hD rfl)
        · exact absurd rfl c6
