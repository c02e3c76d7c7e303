/-! ===== printed: the model: lines, texts, accounts, undo ===== -/
set_option maxRecDepth 100000 in
set_option maxHeartbeats 4000000 in
theorem c_m_sayN {g : GP} {adr : Nat → Nat} (μ : Mem) {a : Nat} {T : TX} (hT₉ : TxM μ 246 19 T) (hl₉ : T.1 + 1 < 200) (ha₉ : a < 100) : CT g yX8_saysNumber mX8_saysNumber (RM 2 0 0) (WM g adr μ) [.ref (adr 237), .int (nI a)] (PM g adr (.inl none) (fun μ' => TxM μ' 246 19 (tN a T) ∧ ∀ o k, o ≠ 246 → (o ≠ 237 ∨ k ≠ 19) → μ' o k = μ o k)) := by
  refine CT.of (l0 := [some (.ref (adr 237)), some (.int (nI a))]) (by decide +kernel) rfl (Nat.le_of_ble_eq_true rfl) rfl ?_
  refine J.il1 dX8_saysNumber_0 ?_
  refine J.bipush dX8_saysNumber_1 kb_9 ?_
  refine J.icmp_leN (tgt := 14) dX8_saysNumber_3 (by decide) (by omega) (by omega) (fun c3₉ => ?_) (fun c3₉ => ?_)
  · refine J.al0 dX8_saysNumber_14 ?_
    refine J.bipush dX8_saysNumber_15 kb_48 ?_
    refine J.il1 dX8_saysNumber_17 ?_
    refine J.bipush dX8_saysNumber_18 kb_10 ?_
    refine J.irem dX8_saysNumber_20 (by omega) (by omega) (by omega) ?_
    refine J.iaddN dX8_saysNumber_21 ?_
    refine J.i2c dX8_saysNumber_22 (i2cN (by omega)) ?_
    refine cl_X8_210 rfl (by decide) (k' := 0) (n' := 0) (c_m_says _ hT₉ (by omega) (by omega)) ⟨⟨by decide, by decide⟩, ⟨rfl, rfl⟩, by decide, by decide⟩ rfl dX8_saysNumber_23 (fun μ3 ⟨hT3₉, hO3₉⟩ => ?_)
    refine J.vret rfl (by decide) (by decide) dX8_saysNumber_26 ⟨_, rfl, ?_, ?_⟩
    · rfl
    · first | exact ⟨by rw [← tN_1 (by omega)]; exact hT3₉, hO3₉⟩ | exact ⟨by rw [← tN_2 (by omega) ha₉]; exact hT3₉, fun o k h1₉ h2₉ => (hO3₉ o k h1₉ h2₉).trans (hO2₉ o k h1₉ h2₉)⟩
  · refine J.al0 dX8_saysNumber_6 ?_
    refine J.il1 dX8_saysNumber_7 ?_
    refine J.bipush dX8_saysNumber_8 kb_10 ?_
    refine J.idiv dX8_saysNumber_10 (by omega) (by omega) (by omega) ?_
    refine cl_X8_207 rfl (by decide) (k' := 0) (n' := 0) (c_m_sayN1 _ hT₉ (by omega) (by omega)) ⟨⟨by decide, by decide⟩, ⟨rfl, rfl⟩, by decide, by decide⟩ rfl dX8_saysNumber_11 (fun μ2 ⟨hT2₉, hO2₉⟩ => ?_)
    refine J.al0 dX8_saysNumber_14 ?_
    refine J.bipush dX8_saysNumber_15 kb_48 ?_
    refine J.il1 dX8_saysNumber_17 ?_
    refine J.bipush dX8_saysNumber_18 kb_10 ?_
    refine J.irem dX8_saysNumber_20 (by omega) (by omega) (by omega) ?_
    refine J.iaddN dX8_saysNumber_21 ?_
    refine J.i2c dX8_saysNumber_22 (i2cN (by omega)) ?_
    refine cl_X8_210 rfl (by decide) (k' := 0) (n' := 0) (c_m_says _ hT2₉ (show (tN (a / 10) T).1 < 200 by show T.1 + numW (a / 10) < 200; unfold numW; rw [if_pos (by omega)]; exact hl₉) (by omega)) ⟨⟨by decide, by decide⟩, ⟨rfl, rfl⟩, by decide, by decide⟩ rfl dX8_saysNumber_23 (fun μ3 ⟨hT3₉, hO3₉⟩ => ?_)
    refine J.vret rfl (by decide) (by decide) dX8_saysNumber_26 ⟨_, rfl, ?_, ?_⟩
    · rfl
    · first | exact ⟨by rw [← tN_1 (by omega)]; exact hT3₉, hO3₉⟩ | exact ⟨by rw [← tN_2 (by omega) ha₉]; exact hT3₉, fun o k h1₉ h2₉ => (hO3₉ o k h1₉ h2₉).trans (hO2₉ o k h1₉ h2₉)⟩

set_option maxRecDepth 100000 in
set_option maxHeartbeats 4000000 in
theorem c_m_cycleLineX0 {g : GP} {adr : Nat → Nat} (μ : Mem) {α : A7} (hMR₉ : MR μ α) {i : Int32} (hx₉ : ¬ (0 ≤ i ∧ i < nI 5)) : CT g yX8_cycleLine mX8_cycleLine (RM 60 0 0) (WM g adr μ) [.ref (adr 237), .int i] (PM g adr ((.inl (some (.int (nI 0))))) (fun μ' => MR μ' (α) ∧ μ' 237 6 = nI 1 ∧ FrM μ' μ)) := by
  refine CT.of (l0 := [some (.ref (adr 237)), some (.int i), none, none]) (by decide +kernel) rfl (Nat.le_of_ble_eq_true rfl) rfl ?_
  refine J.al0 dX8_cycleLine_0 ?_
  refine J.il1 dX8_cycleLine_1 ?_
  refine cl_X8_171 rfl (k' := 0) (n' := 0) (c_m_isShelfF _ hx₉) ⟨⟨by decide, by decide⟩, ⟨rfl, rfl⟩, by decide, by decide⟩ rfl dX8_cycleLine_2 (fun μ9 h9₉ => ?_)
  rw [h9₉]; clear h9₉
  refine J.if_neN (tgt := 12) dX8_cycleLine_5 (by decide) (by omega) (fun c5₉ => absurd c5₉ (by first | omega | (simp only [not_true_eq_false, not_false_eq_true]; done) | (simp; done))) (fun c5₉ => ?_)
  refine J.iconst dX8_cycleLine_8 kI_1 ?_
  refine J.goto (tgt := 25) dX8_cycleLine_9 (by decide) ?_
  refine pf_X8_42 rfl (by decide) dX8_cycleLine_25 ?_
  refine J.al0 dX8_cycleLine_28 ?_
  refine gf_X8_42 rfl (x := nI 1) (by decide) wr_s dX8_cycleLine_29 ?_
  refine J.if_leN (tgt := 37) dX8_cycleLine_32 (by decide) (by omega) (fun c32₉ => absurd c32₉ (by first | omega | (simp only [not_true_eq_false, not_false_eq_true]; done) | (simp; done))) (fun c32₉ => ?_)
  refine J.iconst dX8_cycleLine_35 kI_0 ?_
  refine J.iret rfl (by decide) (by decide) dX8_cycleLine_36 ⟨_, rfl, ?_, ?_⟩
  · rfl
  · exact ⟨hMR₉.thr, wr_s, FrM.thr⟩

set_option maxRecDepth 100000 in
set_option maxHeartbeats 4000000 in
theorem c_m_cycleLineX1 {g : GP} {adr : Nat → Nat} (μ : Mem) {α : A7} (hMR₉ : MR μ α) {i : Nat} (hi1₉ : i < 5) (hx₉ : ¬ aFl (qS α) i = true) : CT g yX8_cycleLine mX8_cycleLine (RM 60 0 0) (WM g adr μ) [.ref (adr 237), .int (nI i)] (PM g adr ((.inl (some (.int (nI 0))))) (fun μ' => MR μ' (α) ∧ μ' 237 6 = nI 2 ∧ FrM μ' μ)) := by
  refine CT.of (l0 := [some (.ref (adr 237)), some (.int (nI i)), none, none]) (by decide +kernel) rfl (Nat.le_of_ble_eq_true rfl) rfl ?_
  refine J.al0 dX8_cycleLine_0 ?_
  refine J.il1 dX8_cycleLine_1 ?_
  refine cl_X8_171 rfl (k' := 0) (n' := 0) (c_m_isShelfT _ (by omega)) ⟨⟨by decide, by decide⟩, ⟨rfl, rfl⟩, by decide, by decide⟩ rfl dX8_cycleLine_2 (fun μ9 h9₉ => ?_)
  rw [h9₉]; clear h9₉
  refine J.if_neN (tgt := 12) dX8_cycleLine_5 (by decide) (by omega) (fun c5₉ => ?_) (fun c5₉ => absurd c5₉ (by first | omega | (simp only [not_true_eq_false, not_false_eq_true]; done) | (simp; done)))
  refine J.al0 dX8_cycleLine_12 ?_
  refine J.il1 dX8_cycleLine_13 ?_
  refine cl_X8_177 rfl (by decide) (k' := 0) (n' := 0) (c_m_isEmptyT _ hMR₉.1 (by omega) hx₉) ⟨⟨by decide, by decide⟩, ⟨rfl, rfl⟩, by decide, by decide⟩ rfl dX8_cycleLine_14 (fun μ9 h9₉ => ?_)
  rw [h9₉]; clear h9₉
  refine J.if_eqN (tgt := 24) dX8_cycleLine_17 (by decide) (by omega) (fun c17₉ => absurd c17₉ (by first | omega | (simp only [not_true_eq_false, not_false_eq_true]; done) | (simp; done))) (fun c17₉ => ?_)
  refine J.iconst dX8_cycleLine_20 kI_2 ?_
  refine J.goto (tgt := 25) dX8_cycleLine_21 (by decide) ?_
  refine pf_X8_42 rfl (by decide) dX8_cycleLine_25 ?_
  refine J.al0 dX8_cycleLine_28 ?_
  refine gf_X8_42 rfl (x := nI 2) (by decide) wr_s dX8_cycleLine_29 ?_
  refine J.if_leN (tgt := 37) dX8_cycleLine_32 (by decide) (by omega) (fun c32₉ => absurd c32₉ (by first | omega | (simp only [not_true_eq_false, not_false_eq_true]; done) | (simp; done))) (fun c32₉ => ?_)
  refine J.iconst dX8_cycleLine_35 kI_0 ?_
  refine J.iret rfl (by decide) (by decide) dX8_cycleLine_36 ⟨_, rfl, ?_, ?_⟩
  · rfl
  · exact ⟨hMR₉.thr, wr_s, FrM.thr⟩

set_option maxRecDepth 100000 in
set_option maxHeartbeats 4000000 in
theorem c_m_cycleLine {g : GP} {adr : Nat → Nat} (μ : Mem) {α : A7} (hMR₉ : MR μ α) {i : Nat} (hi1₉ : i < 5) (hfi₉ : aFl (qS α) i = true)  : CT g yX8_cycleLine mX8_cycleLine (RM 60 0 0) (WM g adr μ) [.ref (adr 237), .int (nI i)] (PM g adr ((.inl (some (.int (nI (tCL (aSh (qS α) i) 32).1))))) (fun μ' => MR μ' (aLin (tCL (aSh (qS α) i) 32) α) ∧ μ' 237 6 = nI 0 ∧ FrM μ' μ)) := by
  refine CT.of (l0 := [some (.ref (adr 237)), some (.int (nI i)), none, none]) (by decide +kernel) rfl (Nat.le_of_ble_eq_true rfl) rfl ?_
  have hBF₉ := (hMR₉.1.vs.2.2.2.2 i hi1₉ hfi₉)
  have hlt₉ : ∀ k, k < 32 → aSh (qS α) i k < 32 := fun k hk₉ => hBF₉.1 k hk₉
  refine J.al0 dX8_cycleLine_0 ?_
  refine J.il1 dX8_cycleLine_1 ?_
  refine cl_X8_171 rfl (k' := 0) (n' := 0) (c_m_isShelfT _ (by omega)) ⟨⟨by decide, by decide⟩, ⟨rfl, rfl⟩, by decide, by decide⟩ rfl dX8_cycleLine_2 (fun μ9 h9₉ => ?_)
  rw [h9₉]; clear h9₉
  refine J.if_neN (tgt := 12) dX8_cycleLine_5 (by decide) (by omega) (fun c5₉ => ?_) (fun c5₉ => absurd c5₉ (by first | omega | (simp only [not_true_eq_false, not_false_eq_true]; done) | (simp; done)))
  refine J.al0 dX8_cycleLine_12 ?_
  refine J.il1 dX8_cycleLine_13 ?_
  refine cl_X8_177 rfl (by decide) (k' := 0) (n' := 0) (c_m_isEmptyF _ hMR₉.1 (by omega) hfi₉) ⟨⟨by decide, by decide⟩, ⟨rfl, rfl⟩, by decide, by decide⟩ rfl dX8_cycleLine_14 (fun μ9 h9₉ => ?_)
  rw [h9₉]; clear h9₉
  refine J.if_eqN (tgt := 24) dX8_cycleLine_17 (by decide) (by omega) (fun c17₉ => ?_) (fun c17₉ => absurd c17₉ (by first | omega | (simp only [not_true_eq_false, not_false_eq_true]; done) | (simp; done)))
  refine J.iconst dX8_cycleLine_24 kI_0 ?_
  refine pf_X8_42 rfl (by decide) dX8_cycleLine_25 ?_
  refine J.al0 dX8_cycleLine_28 ?_
  refine gf_X8_42 rfl (x := nI 0) (by decide) wr_s dX8_cycleLine_29 ?_
  refine J.if_leN (tgt := 37) dX8_cycleLine_32 (by decide) (by omega) (fun c32₉ => ?_) (fun c32₉ => absurd c32₉ (by first | omega | (simp only [not_true_eq_false, not_false_eq_true]; done) | (simp; done)))
  refine J.al0 dX8_cycleLine_37 ?_
  refine J.iconst dX8_cycleLine_38 kI_0 ?_
  refine pf_X8_204 rfl (by decide) dX8_cycleLine_39 ?_
  refine J.iconst dX8_cycleLine_42 kI_0 ?_
  refine J.is2 dX8_cycleLine_43 (by decide) rfl ?_
  have lp44_1 : ∀ (fu : Nat) (c : Nat) (μ1 : Mem), 32 < c + fu → c ≤ 32 → TxM μ1 246 19 (tCL (aSh (qS α) i) c) → μ1 237 6 = nI 0 → (∀ o k, o ≠ 246 → (o ≠ 237 ∨ (k ≠ 19 ∧ k ≠ 6)) → μ1 o k = μ o k) → J g mX8_cycleLine (RM 60 0 0) (MQx g (RM 60 0 0) (PM g adr ((.inl (some (.int (nI (tCL (aSh (qS α) i) 32).1))))) (fun μ' => MR μ' (aLin (tCL (aSh (qS α) i) 32) α) ∧ μ' 237 6 = nI 0 ∧ FrM μ' μ))) 0 0 (WM g adr μ1) 44 [some (.ref (adr 237)), some (.int (nI i)), some (.int (nI c)), none] [] := by
    intro fu
    induction fu with
    | zero => intro c μ1 h9₉ hc₉ hT1₉ h61₉ hO₉; exact absurd h9₉ (by omega)
    | succ fu ih44 =>
      intro c μ1 h9₉ hc₉ hT1₉ h61₉ hO₉
      have hSm₉ : MS μ1 238 0 (qS α) := hMR₉.1.off (funext fun k => hO₉ 238 k (by decide) (Or.inl (by decide)))
      have hGm₉ : ShR μ1 i (aSh (qS α) i) := MS.shr hSm₉ hi1₉ hfi₉
      have hlc₉ := tCL_112 hBF₉ (n := c) (by omega)
      refine J.il2 dX8_cycleLine_44 ?_
      refine J.bipush dX8_cycleLine_45 kb_32 ?_
      refine J.icmp_geN (tgt := 125) dX8_cycleLine_47 (by decide) (by omega) (by omega) (fun c47₉ => ?_) (fun c47₉ => ?_)
      · refine J.al0 dX8_cycleLine_125 ?_
        refine gf_X8_204 rfl (x := nI ((tCL (aSh (qS α) i) c).1)) (by decide) hT1₉.1 dX8_cycleLine_126 ?_
        refine J.iret rfl (by decide) (by decide) dX8_cycleLine_129 ⟨_, rfl, ?_, ?_⟩
        · rw [show c = 32 by omega]
        · obtain rfl : c = 32 := by omega
          exact ⟨hMR₉.lin hT1₉ (by omega) hO₉, h61₉, fun o ho₉ => funext fun k => hO₉ o k (by omega) (by omega)⟩
      · refine J.al0 dX8_cycleLine_50 ?_
        refine J.il1 dX8_cycleLine_51 ?_
        refine J.il2 dX8_cycleLine_52 ?_
        have hcl₉ := cyL_le (aSh (qS α) i) c
        refine cl_X8_189 rfl (by decide) (k' := 0) (n' := 0) (c_m_cycleOf _ hi1₉ hGm₉ hBF₉ (by omega)) ⟨⟨by decide, by decide⟩, ⟨rfl, rfl⟩, by decide, by decide⟩ rfl dX8_cycleLine_53 (fun μ9 h9₉ => ?_)
        rw [h9₉]; clear h9₉
        refine J.iconst dX8_cycleLine_56 kI_1 ?_
        refine J.icmp_leN (tgt := 119) dX8_cycleLine_57 (by decide) (by omega) (by omega) (fun c57₉ => ?_) (fun c57₉ => ?_)
        · refine J.ii2 (z := 1) dX8_cycleLine_119 (by decide) (by decide) rfl ?_
          refine J.goto (tgt := 44) dX8_cycleLine_122 (by decide) ?_
          have hT9₉ : TxM μ1 246 19 (tCL (aSh (qS α) i) (c + 1)) := by
            show TxM _ 246 19 (if aSh (qS α) i c ≠ c ∧ lowB (aSh (qS α) i) c = true then _ else _)
            first | (rw [if_neg (fun q => c66₉ q.2)]; exact hT1₉) | (rw [if_neg (fun q => absurd ((moved_cy hBF₉ (show c < 32 by omega)).mpr q.1) (by omega))]; exact hT1₉)
          exact ih44 (c + 1) _ (by omega) (by omega) hT9₉ h61₉ hO₉
        · refine J.al0 dX8_cycleLine_60 ?_
          refine J.il1 dX8_cycleLine_61 ?_
          refine J.il2 dX8_cycleLine_62 ?_
          refine cl_X8_192 rfl (by decide) (k' := 0) (n' := 0) (c_m_isLowest _ hi1₉ hGm₉ hBF₉ (by omega)) ⟨⟨by decide, by decide⟩, ⟨rfl, rfl⟩, by decide, by decide⟩ rfl dX8_cycleLine_63 (fun μ9 h9₉ => ?_)
          rw [h9₉]; clear h9₉
          refine J.if_eqB (tgt := 119) dX8_cycleLine_66 (by decide) (fun c66₉ => ?_) (fun c66₉ => ?_)
          · refine J.ii2 (z := 1) dX8_cycleLine_119 (by decide) (by decide) rfl ?_
            refine J.goto (tgt := 44) dX8_cycleLine_122 (by decide) ?_
            have hT9₉ : TxM μ1 246 19 (tCL (aSh (qS α) i) (c + 1)) := by
              show TxM _ 246 19 (if aSh (qS α) i c ≠ c ∧ lowB (aSh (qS α) i) c = true then _ else _)
              first | (rw [if_neg (fun q => c66₉ q.2)]; exact hT1₉) | (rw [if_neg (fun q => absurd ((moved_cy hBF₉ (show c < 32 by omega)).mpr q.1) (by omega))]; exact hT1₉)
            exact ih44 (c + 1) _ (by omega) (by omega) hT9₉ h61₉ hO₉
          · refine J.al0 dX8_cycleLine_69 ?_
            refine J.bipush dX8_cycleLine_70 kb_40 ?_
            have hmv₉ := (moved_cy hBF₉ (show c < 32 by omega)).mp (by omega)
            have hro₉ := tCL_room hBF₉ (n := c) (by omega) ⟨hmv₉, c66₉⟩
            refine cl_X8_210 rfl (by decide) (k' := 0) (n' := 0) (c_m_says _ hT1₉ (by omega) (by decide)) ⟨⟨by decide, by decide⟩, ⟨rfl, rfl⟩, by decide, by decide⟩ rfl dX8_cycleLine_72 (fun μ3 ⟨hT3₉, hO3₉⟩ => ?_)
            refine J.al0 dX8_cycleLine_75 ?_
            refine J.il2 dX8_cycleLine_76 ?_
            refine cl_X8_207 rfl (by decide) (k' := 0) (n' := 0) (c_m_sayN _ hT3₉ (show (tP 40 (tCL (aSh (qS α) i) c)).1 + 1 < 200 by show (tCL (aSh (qS α) i) c).1 + 1 + 1 < 200; omega) (by omega)) ⟨⟨by decide, by decide⟩, ⟨rfl, rfl⟩, by decide, by decide⟩ rfl dX8_cycleLine_77 (fun μ4 ⟨hT4₉, hO4₉⟩ => ?_)
            have hSm4₉ : MS μ4 238 0 (qS α) := hSm₉.off (funext fun k => (hO4₉ 238 k (by decide) (Or.inl (by decide))).trans (hO3₉ 238 k (by decide) (Or.inl (by decide))))
            have hG4₉ : ShR μ4 i (aSh (qS α) i) := MS.shr hSm4₉ hi1₉ hfi₉
            refine J.al0 dX8_cycleLine_80 ?_
            refine J.il1 dX8_cycleLine_81 ?_
            refine J.il2 dX8_cycleLine_82 ?_
            refine cl_X8_183 rfl (by decide) (k' := 0) (n' := 0) (c_m_goes _ hi1₉ hG4₉ (by omega)) ⟨⟨by decide, by decide⟩, ⟨rfl, rfl⟩, by decide, by decide⟩ rfl dX8_cycleLine_83 (fun μ9 h9₉ => ?_)
            rw [h9₉]; clear h9₉
            refine J.is3 dX8_cycleLine_86 (by decide) rfl ?_
            have lp87_2 : ∀ (fu : Nat) (m r : Nat) (μ7 : Mem), 32 < m + fu → 1 ≤ m → m ≤ 32 → r = iter (aSh (qS α) i) m c → (∀ z, 1 ≤ z → z < m → iter (aSh (qS α) i) z c ≠ c) → TxM μ7 246 19 (tC (aSh (qS α) i) c (m - 1) (tN c (tP 40 (tCL (aSh (qS α) i) c)))) → (∀ o k, o ≠ 246 → (o ≠ 237 ∨ k ≠ 19) → μ7 o k = μ1 o k) → J g mX8_cycleLine (RM 60 0 0) (MQx g (RM 60 0 0) (PM g adr ((.inl (some (.int (nI (tCL (aSh (qS α) i) 32).1))))) (fun μ' => MR μ' (aLin (tCL (aSh (qS α) i) 32) α) ∧ μ' 237 6 = nI 0 ∧ FrM μ' μ))) 0 0 (WM g adr μ7) 87 [some (.ref (adr 237)), some (.int (nI i)), some (.int (nI c)), some (.int (nI r))] [] := by
              intro fu
              induction fu with
              | zero => intro m r μ7 h9₉ h1₉ h2₉ hr₉ hI₉ hT7₉ hO7₉; exact absurd h9₉ (by omega)
              | succ fu ih87 =>
                intro m r μ7 h9₉ h1₉ h2₉ hr₉ hI₉ hT7₉ hO7₉
                have hr9₉ : r < 32 := by rw [hr₉]; exact iter_lt hlt₉ m (by omega)
                refine J.il3 dX8_cycleLine_87 ?_
                refine J.il2 dX8_cycleLine_88 ?_
                refine J.icmp_eqN (tgt := 113) dX8_cycleLine_89 (by decide) (by omega) (by omega) (fun c89₉ => ?_) (fun c89₉ => ?_)
                · refine J.al0 dX8_cycleLine_113 ?_
                  refine J.bipush dX8_cycleLine_114 kb_41 ?_
                  have hcm₉ : cyL (aSh (qS α) i) c = m := cyL_eq (by omega) (by omega) hI₉ (Or.inl (by rw [← hr₉]; exact c89₉))
                  have hw0₉ := tC_len (aSh (qS α) i) c (tN c (tP 40 (tCL (aSh (qS α) i) c))) (m - 1)
                  have hw1₉ : (tN c (tP 40 (tCL (aSh (qS α) i) c))).1 ≤ (tCL (aSh (qS α) i) c).1 + 3 := by have := numW_le c; show (tCL (aSh (qS α) i) c).1 + 1 + numW c ≤ _ + 3; omega
                  refine cl_X8_210 rfl (by decide) (k' := 0) (n' := 0) (c_m_says _ hT7₉ (by omega) (by decide)) ⟨⟨by decide, by decide⟩, ⟨rfl, rfl⟩, by decide, by decide⟩ rfl dX8_cycleLine_116 (fun μb ⟨hT8₉, hO8₉⟩ => ?_)
                  refine J.ii2 (z := 1) dX8_cycleLine_119 (by decide) (by decide) rfl ?_
                  refine J.goto (tgt := 44) dX8_cycleLine_122 (by decide) ?_
                  have hO9₉ : ∀ o k, o ≠ 246 → (o ≠ 237 ∨ k ≠ 19) → μb o k = μ1 o k := fun o k h1₉ h2₉ => (hO8₉ o k h1₉ h2₉).trans (hO7₉ o k h1₉ h2₉)
                  have hT9₉ : TxM μb 246 19 (tCL (aSh (qS α) i) (c + 1)) := by
                    show TxM _ 246 19 (if aSh (qS α) i c ≠ c ∧ lowB (aSh (qS α) i) c = true then _ else _)
                    rw [if_pos ⟨hmv₉, c66₉⟩]
                    show TxM _ 246 19 (tP 41 (tC (aSh (qS α) i) c (cyL (aSh (qS α) i) c - 1) (tN c (tP 40 (tCL (aSh (qS α) i) c)))))
                    rw [hcm₉]; exact hT8₉
                  exact J.subR (ih44 (c + 1) _ (by omega) (by omega) hT9₉ ((hO9₉ 237 6 (by decide) (by decide)).trans h61₉) (fun o k h1₉ h2₉ => (hO9₉ o k h1₉ (by omega)).trans (hO₉ o k h1₉ h2₉))) ⟨rfl, ⟨rfl, ⟨rfl, trivial⟩⟩⟩
                · have hI2₉ : ∀ z, 1 ≤ z → z ≤ m → iter (aSh (qS α) i) z c ≠ c := fun z q1₉ q2₉ => if e : z = m then (by rw [e, ← hr₉]; exact c89₉) else hI₉ z q1₉ (by omega)
                  refine J.al0 dX8_cycleLine_92 ?_
                  refine J.bipush dX8_cycleLine_93 kb_32 ?_
                  have hg₉ := cyL_gt hBF₉ (show c < 32 by omega) hI2₉
                  have hw0₉ := tC_len (aSh (qS α) i) c (tN c (tP 40 (tCL (aSh (qS α) i) c))) (m - 1)
                  have hw1₉ : (tN c (tP 40 (tCL (aSh (qS α) i) c))).1 ≤ (tCL (aSh (qS α) i) c).1 + 3 := by have := numW_le c; show (tCL (aSh (qS α) i) c).1 + 1 + numW c ≤ _ + 3; omega
                  refine cl_X8_210 rfl (by decide) (k' := 0) (n' := 0) (c_m_says _ hT7₉ (by omega) (by decide)) ⟨⟨by decide, by decide⟩, ⟨rfl, rfl⟩, by decide, by decide⟩ rfl dX8_cycleLine_95 (fun μb ⟨hT8₉, hO8₉⟩ => ?_)
                  refine J.al0 dX8_cycleLine_98 ?_
                  refine J.il3 dX8_cycleLine_99 ?_
                  refine cl_X8_207 rfl (by decide) (k' := 0) (n' := 0) (c_m_sayN _ hT8₉ (show (tP 32 (tC (aSh (qS α) i) c (m - 1) (tN c (tP 40 (tCL (aSh (qS α) i) c))))).1 + 1 < 200 by show (tC (aSh (qS α) i) c (m - 1) (tN c (tP 40 (tCL (aSh (qS α) i) c)))).1 + 1 + 1 < 200; omega) (by omega)) ⟨⟨by decide, by decide⟩, ⟨rfl, rfl⟩, by decide, by decide⟩ rfl dX8_cycleLine_100 (fun μd ⟨hT9₉, hO9₉⟩ => ?_)
                  have hSm9₉ : MS μd 238 0 (qS α) := hSm₉.off (funext fun k => (hO9₉ 238 k (by decide) (Or.inl (by decide))).trans ((hO8₉ 238 k (by decide) (Or.inl (by decide))).trans (hO7₉ 238 k (by decide) (Or.inl (by decide)))))
                  have hG9₉ : ShR μd i (aSh (qS α) i) := MS.shr hSm9₉ hi1₉ hfi₉
                  refine J.al0 dX8_cycleLine_103 ?_
                  refine J.il1 dX8_cycleLine_104 ?_
                  refine J.il3 dX8_cycleLine_105 ?_
                  refine cl_X8_183 rfl (by decide) (k' := 0) (n' := 0) (c_m_goes _ hi1₉ hG9₉ (by omega)) ⟨⟨by decide, by decide⟩, ⟨rfl, rfl⟩, by decide, by decide⟩ rfl dX8_cycleLine_106 (fun μ9 h9₉ => ?_)
                  rw [h9₉]; clear h9₉
                  refine J.is3 dX8_cycleLine_109 (by decide) rfl ?_
                  refine J.goto (tgt := 87) dX8_cycleLine_110 (by decide) ?_
                  have hT5₉ : TxM μd 246 19 (tC (aSh (qS α) i) c m (tN c (tP 40 (tCL (aSh (qS α) i) c)))) := by
                    obtain ⟨m7, rfl⟩ : ∃ m7, m = m7 + 1 := ⟨m - 1, by omega⟩
                    rw [hr₉] at hT9₉
                    exact hT9₉
                  exact ih87 (m + 1) (aSh (qS α) i r) _ (by omega) (by omega) (by omega) (by rw [hr₉]; rfl) (fun z q1₉ q2₉ => hI2₉ z q1₉ (by omega)) (by rw [Nat.add_sub_cancel]; exact hT5₉) (fun o k h1₉ h2₉ => (hO9₉ o k h1₉ h2₉).trans ((hO8₉ o k h1₉ h2₉).trans (hO7₉ o k h1₉ h2₉)))
            exact lp87_2 (33) 1 (aSh (qS α) i c) _ (by omega) (by omega) (by omega) rfl (fun z q1₉ q2₉ => absurd q2₉ (by omega)) hT4₉ (fun o k h1₉ h2₉ => (hO4₉ o k h1₉ h2₉).trans (hO3₉ o k h1₉ h2₉))
  exact lp44_1 (33) 0 _ (by omega) (by omega) ⟨wr_s, fun k hk₉ => absurd hk₉ (Nat.not_lt_zero k)⟩ ((wr_n (by decide)).trans wr_s) (fun o k h1₉ h2₉ => by rw [wr_n (by omega), wr_n (by omega)])

set_option maxRecDepth 100000 in
set_option maxHeartbeats 4000000 in
theorem c_m_characterX {g : GP} {adr : Nat → Nat} (μ : Mem) {α : A7} (hMR₉ : MR μ α) {i : Int32} (hx₉ : ¬ (0 ≤ i ∧ i < nI (qL α).1)) : CT g yX8_character mX8_character (RM 60 0 0) (WM g adr μ) [.ref (adr 237), .int i] (PM g adr ((.inl (some (.int (nI 32))))) (fun μ' => MR μ' (α) ∧ μ' 237 6 = nI 1 ∧ FrM μ' μ)) := by
  refine CT.of (l0 := [some (.ref (adr 237)), some (.int i)]) (by decide +kernel) rfl (Nat.le_of_ble_eq_true rfl) rfl ?_
  have hll₉ := hMR₉.2.2.2.2.2.2.2.1
  refine J.al0 dX8_character_0 ?_
  refine J.il1 dX8_character_1 ?_
  refine J.iconst dX8_character_2 kI_0 ?_
  refine J.al0 dX8_character_3 ?_
  refine gf_X8_204 rfl (x := nI ((qL α).1)) (by decide) hMR₉.2.2.2.2.2.2.1.1 dX8_character_4 ?_
  refine J.iconst dX8_character_7 kI_1 ?_
  refine J.isub dX8_character_8 rfl ?_
  refine cl_X8_93 rfl (k' := 0) (n' := 0) (inF _ (in_len (by omega) hx₉)) ⟨⟨by decide, by decide⟩, ⟨rfl, rfl⟩, by decide, by decide⟩ rfl dX8_character_9 (fun μ9 h9₉ => ?_)
  rw [h9₉]; clear h9₉
  refine J.if_eqN (tgt := 19) dX8_character_12 (by decide) (by omega) (fun c12₉ => ?_) (fun c12₉ => absurd c12₉ (by first | omega | (simp only [not_true_eq_false, not_false_eq_true]; done) | (simp; done)))
  refine J.iconst dX8_character_19 kI_1 ?_
  refine pf_X8_42 rfl (by decide) dX8_character_20 ?_
  refine J.al0 dX8_character_23 ?_
  refine gf_X8_42 rfl (x := nI 1) (by decide) wr_s dX8_character_24 ?_
  refine J.if_leN (tgt := 35) dX8_character_27 (by decide) (by omega) (fun c27₉ => absurd c27₉ (by first | omega | (simp only [not_true_eq_false, not_false_eq_true]; done) | (simp; done))) (fun c27₉ => ?_)
  refine J.bipush dX8_character_30 kb_32 ?_
  refine J.goto (tgt := 41) dX8_character_32 (by decide) ?_
  refine J.zret (ty := .char) rfl (congrArg Value.int (nar_c (by decide))) (by decide) (by decide) dX8_character_41 ⟨_, rfl, ?_, ?_⟩
  · rfl
  · exact ⟨hMR₉.thr, wr_s, FrM.thr⟩

set_option maxRecDepth 100000 in
set_option maxHeartbeats 4000000 in
theorem c_m_character {g : GP} {adr : Nat → Nat} (μ : Mem) {α : A7} (hMR₉ : MR μ α) {i : Nat} (hi1₉ : i < (qL α).1) : CT g yX8_character mX8_character (RM 60 0 0) (WM g adr μ) [.ref (adr 237), .int (nI i)] (PM g adr ((.inl (some (.int (nI ((qL α).2 i)))))) (fun μ' => MR μ' (α) ∧ μ' 237 6 = nI 0 ∧ FrM μ' μ)) := by
  refine CT.of (l0 := [some (.ref (adr 237)), some (.int (nI i))]) (by decide +kernel) rfl (Nat.le_of_ble_eq_true rfl) rfl ?_
  have hll₉ := hMR₉.2.2.2.2.2.2.2.1
  have hch₉ := (hMR₉.2.2.2.2.2.2.1.2 i hi1₉).2
  refine J.al0 dX8_character_0 ?_
  refine J.il1 dX8_character_1 ?_
  refine J.iconst dX8_character_2 kI_0 ?_
  refine J.al0 dX8_character_3 ?_
  refine gf_X8_204 rfl (x := nI ((qL α).1)) (by decide) hMR₉.2.2.2.2.2.2.1.1 dX8_character_4 ?_
  refine J.iconst dX8_character_7 kI_1 ?_
  refine J.isubN dX8_character_8 (by omega) ?_
  refine cl_X8_93 rfl (k' := 0) (n' := 0) (inT _ (by omega) (by omega) (by omega)) ⟨⟨by decide, by decide⟩, ⟨rfl, rfl⟩, by decide, by decide⟩ rfl dX8_character_9 (fun μ9 h9₉ => ?_)
  rw [h9₉]; clear h9₉
  refine J.if_eqN (tgt := 19) dX8_character_12 (by decide) (by omega) (fun c12₉ => absurd c12₉ (by first | omega | (simp only [not_true_eq_false, not_false_eq_true]; done) | (simp; done))) (fun c12₉ => ?_)
  refine J.iconst dX8_character_15 kI_0 ?_
  refine J.goto (tgt := 20) dX8_character_16 (by decide) ?_
  refine pf_X8_42 rfl (by decide) dX8_character_20 ?_
  refine J.al0 dX8_character_23 ?_
  refine gf_X8_42 rfl (x := nI 0) (by decide) wr_s dX8_character_24 ?_
  refine J.if_leN (tgt := 35) dX8_character_27 (by decide) (by omega) (fun c27₉ => ?_) (fun c27₉ => absurd c27₉ (by first | omega | (simp only [not_true_eq_false, not_false_eq_true]; done) | (simp; done)))
  refine J.al0 dX8_character_35 ?_
  refine gf_X8_39 rfl (o2 := 246) (by decide) rfl dX8_character_36 ?_
  refine J.il1 dX8_character_39 ?_
  refine J.cald (N := 200) (x := nI ((qL α).2 i)) (by decide) (by decide) (by omega) (by rw [wr_n (by omega)]; exact ((hMR₉.2.2.2.2.2.2.1.2 i hi1₉).1)) dX8_character_40 ?_
  refine J.zret (ty := .char) rfl (congrArg Value.int (nar_c hch₉)) (by decide) (by decide) dX8_character_41 ⟨_, rfl, ?_, ?_⟩
  · rfl
  · exact ⟨hMR₉.thr, wr_s, FrM.thr⟩

set_option maxRecDepth 100000 in
set_option maxHeartbeats 4000000 in
theorem c_m_appendX {g : GP} {adr : Nat → Nat} (μ : Mem) {α : A7} (hMR₉ : MR μ α) {c : Nat} (hx₉ : 60 ≤ (qI α).1) : CT g yX8_append mX8_append (RM 60 0 0) (WM g adr μ) [.ref (adr 237), .int (nI c)] (PM g adr ((.inl (some (.int (nI 0))))) (fun μ' => MR μ' (α) ∧ μ' 237 6 = nI 1 ∧ FrM μ' μ)) := by
  refine CT.of (l0 := [some (.ref (adr 237)), some (.int (nI c))]) (by decide +kernel) rfl (Nat.le_of_ble_eq_true rfl) rfl ?_
  have hil₉ := hMR₉.2.2.2.2.2.1
  refine J.al0 dX8_append_0 ?_
  refine J.al0 dX8_append_1 ?_
  refine gf_X8_134 rfl (x := nI ((qI α).1)) (by decide) hMR₉.2.2.2.2.1.1 dX8_append_2 ?_
  refine J.bipush dX8_append_5 kb_60 ?_
  refine J.icmp_neN (tgt := 14) dX8_append_7 (by decide) (by omega) (by omega) (fun c7₉ => absurd c7₉ (by first | omega | (simp only [not_true_eq_false, not_false_eq_true]; done) | (simp; done))) (fun c7₉ => ?_)
  refine J.iconst dX8_append_10 kI_1 ?_
  refine J.goto (tgt := 15) dX8_append_11 (by decide) ?_
  refine pf_X8_42 rfl (by decide) dX8_append_15 ?_
  refine J.al0 dX8_append_18 ?_
  refine gf_X8_42 rfl (x := nI 1) (by decide) wr_s dX8_append_19 ?_
  refine J.if_leN (tgt := 27) dX8_append_22 (by decide) (by omega) (fun c22₉ => absurd c22₉ (by first | omega | (simp only [not_true_eq_false, not_false_eq_true]; done) | (simp; done))) (fun c22₉ => ?_)
  refine J.iconst dX8_append_25 kI_0 ?_
  refine J.iret rfl (by decide) (by decide) dX8_append_26 ⟨_, rfl, ?_, ?_⟩
  · rfl
  · exact ⟨hMR₉.thr, wr_s, FrM.thr⟩

set_option maxRecDepth 100000 in
set_option maxHeartbeats 4000000 in
theorem c_m_append {g : GP} {adr : Nat → Nat} (μ : Mem) {α : A7} (hMR₉ : MR μ α) {c : Nat} (hc₉ : c < 65536) (hx₉ : (qI α).1 < 60) : CT g yX8_append mX8_append (RM 60 0 0) (WM g adr μ) [.ref (adr 237), .int (nI c)] (PM g adr ((.inl (some (.int (nI ((qI α).1 + 1)))))) (fun μ' => MR μ' (aInp (tP c (qI α)) α) ∧ μ' 237 6 = nI 0 ∧ FrM μ' μ)) := by
  refine CT.of (l0 := [some (.ref (adr 237)), some (.int (nI c))]) (by decide +kernel) rfl (Nat.le_of_ble_eq_true rfl) rfl ?_
  have hil₉ := hMR₉.2.2.2.2.2.1
  refine J.al0 dX8_append_0 ?_
  refine J.al0 dX8_append_1 ?_
  refine gf_X8_134 rfl (x := nI ((qI α).1)) (by decide) hMR₉.2.2.2.2.1.1 dX8_append_2 ?_
  refine J.bipush dX8_append_5 kb_60 ?_
  refine J.icmp_neN (tgt := 14) dX8_append_7 (by decide) (by omega) (by omega) (fun c7₉ => ?_) (fun c7₉ => absurd c7₉ (by first | omega | (simp only [not_true_eq_false, not_false_eq_true]; done) | (simp; done)))
  refine J.iconst dX8_append_14 kI_0 ?_
  refine pf_X8_42 rfl (by decide) dX8_append_15 ?_
  refine J.al0 dX8_append_18 ?_
  refine gf_X8_42 rfl (x := nI 0) (by decide) wr_s dX8_append_19 ?_
  refine J.if_leN (tgt := 27) dX8_append_22 (by decide) (by omega) (fun c22₉ => ?_) (fun c22₉ => absurd c22₉ (by first | omega | (simp only [not_true_eq_false, not_false_eq_true]; done) | (simp; done)))
  refine J.al0 dX8_append_27 ?_
  refine gf_X8_31 rfl (o2 := 245) (by decide) rfl dX8_append_28 ?_
  refine J.al0 dX8_append_31 ?_
  refine gf_X8_134 rfl (x := nI ((qI α).1)) (by decide) (by rw [wr_n (by omega)]; exact hMR₉.2.2.2.2.1.1) dX8_append_32 ?_
  refine J.il1 dX8_append_35 ?_
  refine J.cast (N := 60) (by decide) (by decide) (by omega) (nar_c (by omega)) dX8_append_36 ?_
  refine J.al0 dX8_append_37 ?_
  refine J.dup dX8_append_38 rfl ?_
  refine gf_X8_134 rfl (x := nI ((qI α).1)) (by decide) (by rw [wr_n (by omega)]; rw [wr_n (by omega)]; exact hMR₉.2.2.2.2.1.1) dX8_append_39 ?_
  refine J.iconst dX8_append_42 kI_1 ?_
  refine J.iaddN dX8_append_43 ?_
  refine pf_X8_134 rfl (by decide) dX8_append_44 ?_
  refine J.al0 dX8_append_47 ?_
  refine gf_X8_134 rfl (x := nI (((qI α).1) + 1)) (by decide) wr_s dX8_append_48 ?_
  refine J.iret rfl (by decide) (by decide) dX8_append_51 ⟨_, rfl, ?_, ?_⟩
  · rfl
  · have hTa₉ := TxM.add (a := c) (hMR₉.thr (v := nI 0)).2.2.2.2.1 (by decide) hc₉
    exact ⟨(hMR₉.thr (v := nI 0)).inp hTa₉ (show (qI α).1 + 1 ≤ 60 by omega) (fun o k h1₉ h2₉ => by rw [wr_n (by omega), wr_n (by omega)]), (wr_n (by decide)).trans ((congrFun (wr_o (by decide)) 6).trans wr_s), (FrM.thr.wrx (by decide)).wrx (by decide)⟩

set_option maxRecDepth 100000 in
set_option maxHeartbeats 4000000 in
theorem c_m_errX {g : GP} {adr : Nat → Nat} (μ : Mem) {α : A7} (hMR₉ : MR μ α) (hx₉ : qE α = none) : CT g yX8_errorPosition mX8_errorPosition (RM 60 0 0) (WM g adr μ) [.ref (adr 237)] (PM g adr ((.inl (some (.int (nI 0))))) (fun μ' => MR μ' (α) ∧ μ' 237 6 = nI 1 ∧ FrM μ' μ)) := by
  refine CT.of (l0 := [some (.ref (adr 237))]) (by decide +kernel) rfl (Nat.le_of_ble_eq_true rfl) rfl ?_
  have he₉ : μ 237 17 = -1 := by have h9₉ := hMR₉.2.2.2.2.2.2.2.2.1; rw [hx₉] at h9₉; exact h9₉
  refine J.al0 dX8_errorPosition_0 ?_
  refine J.al0 dX8_errorPosition_1 ?_
  refine gf_X8_35 rfl (x := -1) (by decide) he₉ dX8_errorPosition_2 ?_
  refine J.if_ge (tgt := 12) dX8_errorPosition_5 (by decide) (fun c5₉ => absurd c5₉ (by decide)) (fun c5₉ => ?_)
  refine J.iconst dX8_errorPosition_8 kI_1 ?_
  refine J.goto (tgt := 13) dX8_errorPosition_9 (by decide) ?_
  refine pf_X8_42 rfl (by decide) dX8_errorPosition_13 ?_
  refine J.al0 dX8_errorPosition_16 ?_
  refine gf_X8_42 rfl (x := nI 1) (by decide) wr_s dX8_errorPosition_17 ?_
  refine J.if_leN (tgt := 27) dX8_errorPosition_20 (by decide) (by omega) (fun c20₉ => absurd c20₉ (by first | omega | (simp only [not_true_eq_false, not_false_eq_true]; done) | (simp; done))) (fun c20₉ => ?_)
  refine J.iconst dX8_errorPosition_23 kI_0 ?_
  refine J.goto (tgt := 31) dX8_errorPosition_24 (by decide) ?_
  refine J.iret rfl (by decide) (by decide) dX8_errorPosition_31 ⟨_, rfl, ?_, ?_⟩
  · rfl
  · exact ⟨hMR₉.thr, wr_s, FrM.thr⟩

set_option maxRecDepth 100000 in
set_option maxHeartbeats 4000000 in
theorem c_m_errOk {g : GP} {adr : Nat → Nat} (μ : Mem) {α : A7} {e : Nat} (hMR₉ : MR μ α) (hx₉ : qE α = some e) : CT g yX8_errorPosition mX8_errorPosition (RM 60 0 0) (WM g adr μ) [.ref (adr 237)] (PM g adr ((.inl (some (.int (nI e))))) (fun μ' => MR μ' (α) ∧ μ' 237 6 = nI 0 ∧ FrM μ' μ)) := by
  refine CT.of (l0 := [some (.ref (adr 237))]) (by decide +kernel) rfl (Nat.le_of_ble_eq_true rfl) rfl ?_
  have he₉ : μ 237 17 = nI e ∧ e < 2147483648 := by have h9₉ := hMR₉.2.2.2.2.2.2.2.2.1; rw [hx₉] at h9₉; exact h9₉
  have he2₉ := he₉.2
  refine J.al0 dX8_errorPosition_0 ?_
  refine J.al0 dX8_errorPosition_1 ?_
  refine gf_X8_35 rfl (x := nI e) (by decide) he₉.1 dX8_errorPosition_2 ?_
  refine J.if_geN (tgt := 12) dX8_errorPosition_5 (by decide) (by omega) (fun c5₉ => ?_) (fun c5₉ => absurd c5₉ (by first | omega | (simp only [not_true_eq_false, not_false_eq_true]; done) | (simp; done)))
  refine J.iconst dX8_errorPosition_12 kI_0 ?_
  refine pf_X8_42 rfl (by decide) dX8_errorPosition_13 ?_
  refine J.al0 dX8_errorPosition_16 ?_
  refine gf_X8_42 rfl (x := nI 0) (by decide) wr_s dX8_errorPosition_17 ?_
  refine J.if_leN (tgt := 27) dX8_errorPosition_20 (by decide) (by omega) (fun c20₉ => ?_) (fun c20₉ => absurd c20₉ (by first | omega | (simp only [not_true_eq_false, not_false_eq_true]; done) | (simp; done)))
  refine J.al0 dX8_errorPosition_27 ?_
  refine gf_X8_35 rfl (x := nI e) (by decide) (by rw [wr_n (by omega)]; exact he₉.1) dX8_errorPosition_28 ?_
  refine J.iret rfl (by decide) (by decide) dX8_errorPosition_31 ⟨_, rfl, ?_, ?_⟩
  · rfl
  · exact ⟨hMR₉.thr, wr_s, FrM.thr⟩

set_option maxRecDepth 100000 in
set_option maxHeartbeats 4000000 in
theorem c_m_refX {g : GP} {adr : Nat → Nat} (μ : Mem) {α : A7} (hMR₉ : MR μ α) {b : Int32} (hx₉ : qR α = none) : CT g yX8_refusal mX8_refusal (RM 60 0 0) (WM g adr μ) [.ref (adr 237), .int b] (PM g adr ((.inl (some (.int (nI 0))))) (fun μ' => MR μ' (α) ∧ μ' 237 6 = nI 1 ∧ FrM μ' μ)) := by
  refine CT.of (l0 := [some (.ref (adr 237)), some (.int b)]) (by decide +kernel) rfl (Nat.le_of_ble_eq_true rfl) rfl ?_
  have hr₉ : μ 237 7 = nI 0 := by have h9₉ := hMR₉.2.2.2.2.2.2.2.2.2; rw [hx₉] at h9₉; exact h9₉
  refine J.al0 dX8_refusal_0 ?_
  refine J.al0 dX8_refusal_1 ?_
  refine gf_X8_54 rfl (x := nI 0) (by decide) hr₉ dX8_refusal_2 ?_
  refine J.if_neN (tgt := 12) dX8_refusal_5 (by decide) (by omega) (fun c5₉ => absurd c5₉ (by first | omega | (simp only [not_true_eq_false, not_false_eq_true]; done) | (simp; done))) (fun c5₉ => ?_)
  refine J.iconst dX8_refusal_8 kI_1 ?_
  refine J.goto (tgt := 13) dX8_refusal_9 (by decide) ?_
  refine pf_X8_42 rfl (by decide) dX8_refusal_13 ?_
  refine J.al0 dX8_refusal_16 ?_
  refine gf_X8_42 rfl (x := nI 1) (by decide) wr_s dX8_refusal_17 ?_
  refine J.if_leN (tgt := 27) dX8_refusal_20 (by decide) (by omega) (fun c20₉ => absurd c20₉ (by first | omega | (simp only [not_true_eq_false, not_false_eq_true]; done) | (simp; done))) (fun c20₉ => ?_)
  refine J.iconst dX8_refusal_23 kI_0 ?_
  refine J.goto (tgt := 42) dX8_refusal_24 (by decide) ?_
  refine J.iret rfl (by decide) (by decide) dX8_refusal_42 ⟨_, rfl, ?_, ?_⟩
  · rfl
  · exact ⟨hMR₉.thr, wr_s, FrM.thr⟩

set_option maxRecDepth 100000 in
set_option maxHeartbeats 4000000 in
theorem c_m_refOk0 {g : GP} {adr : Nat → Nat} (μ : Mem) {α : A7} {a d : Nat} (hMR₉ : MR μ α) (hx₉ : qR α = some (a, d)) : CT g yX8_refusal mX8_refusal (RM 60 0 0) (WM g adr μ) [.ref (adr 237), .int (nI 0)] (PM g adr ((.inl (some (.int (nI a))))) (fun μ' => MR μ' (α) ∧ μ' 237 6 = nI 0 ∧ FrM μ' μ)) := by
  refine CT.of (l0 := [some (.ref (adr 237)), some (.int (nI 0))]) (by decide +kernel) rfl (Nat.le_of_ble_eq_true rfl) rfl ?_
  have hr₉ : μ 237 7 = nI a ∧ μ 237 8 = nI d ∧ 1 ≤ a ∧ a < 2147483648 := by have h9₉ := hMR₉.2.2.2.2.2.2.2.2.2; rw [hx₉] at h9₉; exact h9₉
  have hr2₉ := hr₉.2.2
  refine J.al0 dX8_refusal_0 ?_
  refine J.al0 dX8_refusal_1 ?_
  refine gf_X8_54 rfl (x := nI a) (by decide) hr₉.1 dX8_refusal_2 ?_
  refine J.if_neN (tgt := 12) dX8_refusal_5 (by decide) (by omega) (fun c5₉ => ?_) (fun c5₉ => absurd c5₉ (by first | omega | (simp only [not_true_eq_false, not_false_eq_true]; done) | (simp; done)))
  refine J.iconst dX8_refusal_12 kI_0 ?_
  refine pf_X8_42 rfl (by decide) dX8_refusal_13 ?_
  refine J.al0 dX8_refusal_16 ?_
  refine gf_X8_42 rfl (x := nI 0) (by decide) wr_s dX8_refusal_17 ?_
  refine J.if_leN (tgt := 27) dX8_refusal_20 (by decide) (by omega) (fun c20₉ => ?_) (fun c20₉ => absurd c20₉ (by first | omega | (simp only [not_true_eq_false, not_false_eq_true]; done) | (simp; done)))
  refine J.il1 dX8_refusal_27 ?_
  refine J.if_eqN (tgt := 38) dX8_refusal_28 (by decide) (by omega) (fun c28₉ => ?_) (fun c28₉ => absurd c28₉ (by first | omega | (simp only [not_true_eq_false, not_false_eq_true]; done) | (simp; done)))
  refine J.al0 dX8_refusal_38 ?_
  refine gf_X8_54 rfl (x := nI a) (by decide) (by rw [wr_n (by omega)]; exact hr₉.1) dX8_refusal_39 ?_
  refine J.iret rfl (by decide) (by decide) dX8_refusal_42 ⟨_, rfl, ?_, ?_⟩
  · rfl
  · exact ⟨hMR₉.thr, wr_s, FrM.thr⟩
