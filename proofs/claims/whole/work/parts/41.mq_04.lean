/-! ===== printed: the model: what is asked ===== -/
set_option maxRecDepth 100000 in
set_option maxHeartbeats 4000000 in
theorem c_m_commutes {g : GP} {adr : Nat → Nat} (μ : Mem) {α : A7} (hMR₉ : MR μ α) {i : Nat} (hi1₉ : i < 5) {j : Nat} (hj1₉ : j < 5) (hfi₉ : aFl (qS α) i = true) (hfj₉ : aFl (qS α) j = true)  : CT g yX8_commutes mX8_commutes (RM 60 0 0) (WM g adr μ) [.ref (adr 237), .int (nI i), .int (nI j)] (PM g adr ((.inl (some (.int (if allU (fun k => decide (aSh (qS α) j (aSh (qS α) i k) = aSh (qS α) i (aSh (qS α) j k))) 32 = true then nI 1 else nI 0))))) (fun μ' => MR μ' (α) ∧ μ' 237 6 = nI 0 ∧ FrM μ' μ)) := by
  refine CT.of (l0 := [some (.ref (adr 237)), some (.int (nI i)), some (.int (nI j)), none, none]) (by decide +kernel) rfl (Nat.le_of_ble_eq_true rfl) rfl ?_
  refine J.al0 dX8_commutes_0 ?_
  refine J.il1 dX8_commutes_1 ?_
  refine cl_X8_171 rfl (k' := 0) (n' := 0) (c_m_isShelfT _ (by omega)) ⟨⟨by decide, by decide⟩, ⟨rfl, rfl⟩, by decide, by decide⟩ rfl dX8_commutes_2 (fun μ9 h9₉ => ?_)
  rw [h9₉]; clear h9₉
  refine J.if_eqN (tgt := 15) dX8_commutes_5 (by decide) (by omega) (fun c5₉ => absurd c5₉ (by first | omega | (simp only [not_true_eq_false, not_false_eq_true]; done) | (simp; done))) (fun c5₉ => ?_)
  refine J.il2 dX8_commutes_8 ?_
  refine cl_X8_171 rfl (k' := 0) (n' := 0) (c_m_isShelfT _ (by omega)) ⟨⟨by decide, by decide⟩, ⟨rfl, rfl⟩, by decide, by decide⟩ rfl dX8_commutes_9 (fun μ9 h9₉ => ?_)
  rw [h9₉]; clear h9₉
  refine J.if_neN (tgt := 19) dX8_commutes_12 (by decide) (by omega) (fun c12₉ => ?_) (fun c12₉ => absurd c12₉ (by first | omega | (simp only [not_true_eq_false, not_false_eq_true]; done) | (simp; done)))
  refine J.al0 dX8_commutes_19 ?_
  refine J.il1 dX8_commutes_20 ?_
  refine cl_X8_177 rfl (by decide) (k' := 0) (n' := 0) (c_m_isEmptyF _ hMR₉.1 (by omega) hfi₉) ⟨⟨by decide, by decide⟩, ⟨rfl, rfl⟩, by decide, by decide⟩ rfl dX8_commutes_21 (fun μ9 h9₉ => ?_)
  rw [h9₉]; clear h9₉
  refine J.if_neN (tgt := 35) dX8_commutes_24 (by decide) (by omega) (fun c24₉ => absurd c24₉ (by first | omega | (simp only [not_true_eq_false, not_false_eq_true]; done) | (simp; done))) (fun c24₉ => ?_)
  refine J.al0 dX8_commutes_27 ?_
  refine J.il2 dX8_commutes_28 ?_
  refine cl_X8_177 rfl (by decide) (k' := 0) (n' := 0) (c_m_isEmptyF _ hMR₉.1 (by omega) hfj₉) ⟨⟨by decide, by decide⟩, ⟨rfl, rfl⟩, by decide, by decide⟩ rfl dX8_commutes_29 (fun μ9 h9₉ => ?_)
  rw [h9₉]; clear h9₉
  refine J.if_eqN (tgt := 39) dX8_commutes_32 (by decide) (by omega) (fun c32₉ => ?_) (fun c32₉ => absurd c32₉ (by first | omega | (simp only [not_true_eq_false, not_false_eq_true]; done) | (simp; done)))
  refine J.iconst dX8_commutes_39 kI_0 ?_
  refine pf_X8_42 rfl (by decide) dX8_commutes_40 ?_
  refine J.al0 dX8_commutes_43 ?_
  refine gf_X8_42 rfl (x := nI 0) (by decide) wr_s dX8_commutes_44 ?_
  refine J.if_neN (tgt := 54) dX8_commutes_47 (by decide) (by omega) (fun c47₉ => absurd c47₉ (by first | omega | (simp only [not_true_eq_false, not_false_eq_true]; done) | (simp; done))) (fun c47₉ => ?_)
  refine J.iconst dX8_commutes_50 kI_1 ?_
  refine J.goto (tgt := 55) dX8_commutes_51 (by decide) ?_
  refine J.is3 dX8_commutes_55 (by decide) rfl ?_
  refine J.iconst dX8_commutes_56 kI_0 ?_
  refine J.is4 dX8_commutes_57 (by decide) rfl ?_
  have lp59_1 : ∀ (fu : Nat) (c : Nat), 32 < c + fu → c ≤ 32 → J g mX8_commutes (RM 60 0 0) (MQx g (RM 60 0 0) (PM g adr ((.inl (some (.int (if allU (fun k => decide (aSh (qS α) j (aSh (qS α) i k) = aSh (qS α) i (aSh (qS α) j k))) 32 = true then nI 1 else nI 0))))) (fun μ' => MR μ' (α) ∧ μ' 237 6 = nI 0 ∧ FrM μ' μ))) 0 0 (WM g adr (wr μ 237 6 (nI 0))) 59 [some (.ref (adr 237)), some (.int (nI i)), some (.int (nI j)), some (.int (if allU (fun k => decide (aSh (qS α) j (aSh (qS α) i k) = aSh (qS α) i (aSh (qS α) j k))) c = true then nI 1 else nI 0)), some (.int (nI c))] [] := by
    intro fu
    induction fu with
    | zero => intro c h9₉ hc₉; exact absurd h9₉ (by omega)
    | succ fu ih59 =>
      intro c h9₉ hc₉
      refine J.il4 dX8_commutes_59 ?_
      refine J.bipush dX8_commutes_61 kb_32 ?_
      refine J.icmp_geN (tgt := 109) dX8_commutes_63 (by decide) (by omega) (by omega) (fun c63₉ => ?_) (fun c63₉ => ?_)
      · refine J.il3 dX8_commutes_109 ?_
        refine J.zret (ty := .boolean) rfl (by split <;> rfl) (by decide) (by decide) dX8_commutes_110 ⟨_, rfl, ?_, ?_⟩
        · first | rw [show c = 32 by omega] | rw [if_neg c67₉, if_neg (fun q => absurd (allU_iff.mpr (fun k hk₉ => allU_iff.mp q k (by omega))) c67₉)]
        · exact ⟨hMR₉.thr, wr_s, FrM.thr⟩
      · refine J.il3 dX8_commutes_66 ?_
        refine J.if_eqB (tgt := 109) dX8_commutes_67 (by decide) (fun c67₉ => ?_) (fun c67₉ => ?_)
        · refine J.il3 dX8_commutes_109 ?_
          refine J.zret (ty := .boolean) rfl (by split <;> rfl) (by decide) (by decide) dX8_commutes_110 ⟨_, rfl, ?_, ?_⟩
          · first | rw [show c = 32 by omega] | rw [if_neg c67₉, if_neg (fun q => absurd (allU_iff.mpr (fun k hk₉ => allU_iff.mp q k (by omega))) c67₉)]
          · exact ⟨hMR₉.thr, wr_s, FrM.thr⟩
        · refine J.al0 dX8_commutes_70 ?_
          refine J.il2 dX8_commutes_71 ?_
          refine J.al0 dX8_commutes_72 ?_
          refine J.il1 dX8_commutes_73 ?_
          refine J.il4 dX8_commutes_74 ?_
          have hBix := hMR₉.1.vs.2.2.2.2 i hi1₉ hfi₉
          refine cl_X8_183 rfl (by decide) (k' := 0) (n' := 0) (c_m_goes _ hi1₉ (MS.shr (MS.off hMR₉.1 (by simp only [wr_o (show (238 : Nat) ≠ 237 by decide)])) hi1₉ hfi₉) (by omega)) ⟨⟨by decide, by decide⟩, ⟨rfl, rfl⟩, by decide, by decide⟩ rfl dX8_commutes_76 (fun μ9 h9₉ => ?_)
          rw [h9₉]; clear h9₉
          have hgb76₉ := hBix.1 c (by omega)
          have hBjx := hMR₉.1.vs.2.2.2.2 j hj1₉ hfj₉
          refine cl_X8_183 rfl (by decide) (k' := 0) (n' := 0) (c_m_goes _ hj1₉ (MS.shr (MS.off hMR₉.1 (by simp only [wr_o (show (238 : Nat) ≠ 237 by decide)])) hj1₉ hfj₉) (by omega)) ⟨⟨by decide, by decide⟩, ⟨rfl, rfl⟩, by decide, by decide⟩ rfl dX8_commutes_79 (fun μ9 h9₉ => ?_)
          rw [h9₉]; clear h9₉
          have hgb79₉ := hBjx.1 (aSh (qS α) i c) (by omega)
          refine J.al0 dX8_commutes_82 ?_
          refine J.il1 dX8_commutes_83 ?_
          refine J.al0 dX8_commutes_84 ?_
          refine J.il2 dX8_commutes_85 ?_
          refine J.il4 dX8_commutes_86 ?_
          have hBjx := hMR₉.1.vs.2.2.2.2 j hj1₉ hfj₉
          refine cl_X8_183 rfl (by decide) (k' := 0) (n' := 0) (c_m_goes _ hj1₉ (MS.shr (MS.off hMR₉.1 (by simp only [wr_o (show (238 : Nat) ≠ 237 by decide)])) hj1₉ hfj₉) (by omega)) ⟨⟨by decide, by decide⟩, ⟨rfl, rfl⟩, by decide, by decide⟩ rfl dX8_commutes_88 (fun μ9 h9₉ => ?_)
          rw [h9₉]; clear h9₉
          have hgb88₉ := hBjx.1 c (by omega)
          have hBix := hMR₉.1.vs.2.2.2.2 i hi1₉ hfi₉
          refine cl_X8_183 rfl (by decide) (k' := 0) (n' := 0) (c_m_goes _ hi1₉ (MS.shr (MS.off hMR₉.1 (by simp only [wr_o (show (238 : Nat) ≠ 237 by decide)])) hi1₉ hfi₉) (by omega)) ⟨⟨by decide, by decide⟩, ⟨rfl, rfl⟩, by decide, by decide⟩ rfl dX8_commutes_91 (fun μ9 h9₉ => ?_)
          rw [h9₉]; clear h9₉
          have hgb91₉ := hBix.1 (aSh (qS α) j c) (by omega)
          refine J.icmp_neN (tgt := 101) dX8_commutes_94 (by decide) (by omega) (by omega) (fun c94₉ => ?_) (fun c94₉ => ?_)
          · refine J.iconst dX8_commutes_101 kI_0 ?_
            refine J.is3 dX8_commutes_102 (by decide) rfl ?_
            refine J.ii4 (z := 1) dX8_commutes_103 (by decide) (by decide) rfl ?_
            refine J.goto (tgt := 59) dX8_commutes_106 (by decide) ?_
            have z9₉ := ih59 (c + 1) (by omega) (by omega)
            have hz₉ : ¬ allU (fun k => decide (aSh (qS α) j (aSh (qS α) i k) = aSh (qS α) i (aSh (qS α) j k))) (c + 1) = true := by rw [allU_1, decide_eq_false c94₉]; simp
            rw [if_neg hz₉] at z9₉
            exact z9₉
          · refine J.iconst dX8_commutes_97 kI_1 ?_
            refine J.goto (tgt := 102) dX8_commutes_98 (by decide) ?_
            refine J.is3 dX8_commutes_102 (by decide) rfl ?_
            refine J.ii4 (z := 1) dX8_commutes_103 (by decide) (by decide) rfl ?_
            refine J.goto (tgt := 59) dX8_commutes_106 (by decide) ?_
            have z9₉ := ih59 (c + 1) (by omega) (by omega)
            have hz₉ : allU (fun k => decide (aSh (qS α) j (aSh (qS α) i k) = aSh (qS α) i (aSh (qS α) j k))) (c + 1) = true := by rw [allU_1, c67₉, decide_eq_true c94₉]; rfl
            rw [if_pos hz₉] at z9₉
            exact z9₉
  exact lp59_1 (33) 0 (by omega) (by omega)

set_option maxRecDepth 100000 in
set_option maxHeartbeats 4000000 in
theorem c_m_isEvenX0 {g : GP} {adr : Nat → Nat} (μ : Mem) {α : A7} (hMR₉ : MR μ α) {i : Int32} (hx₉ : ¬ (0 ≤ i ∧ i < nI 5)) {j : Int32} : CT g yX8_isEven mX8_isEven (RM 60 0 0) (WM g adr μ) [.ref (adr 237), .int i, .int j] (PM g adr ((.inl (some (.int (nI 0))))) (fun μ' => MR μ' (α) ∧ μ' 237 6 = nI 1 ∧ FrM μ' μ)) := by
  refine CT.of (l0 := [some (.ref (adr 237)), some (.int i), some (.int j), none, none]) (by decide +kernel) rfl (Nat.le_of_ble_eq_true rfl) rfl ?_
  refine J.al0 dX8_isEven_0 ?_
  refine J.il1 dX8_isEven_1 ?_
  refine cl_X8_171 rfl (k' := 0) (n' := 0) (c_m_isShelfF _ hx₉) ⟨⟨by decide, by decide⟩, ⟨rfl, rfl⟩, by decide, by decide⟩ rfl dX8_isEven_2 (fun μ9 h9₉ => ?_)
  rw [h9₉]; clear h9₉
  refine J.if_neN (tgt := 12) dX8_isEven_5 (by decide) (by omega) (fun c5₉ => absurd c5₉ (by first | omega | (simp only [not_true_eq_false, not_false_eq_true]; done) | (simp; done))) (fun c5₉ => ?_)
  refine J.iconst dX8_isEven_8 kI_1 ?_
  refine J.goto (tgt := 25) dX8_isEven_9 (by decide) ?_
  refine pf_X8_42 rfl (by decide) dX8_isEven_25 ?_
  refine J.iconst dX8_isEven_28 kI_0 ?_
  refine J.is3 dX8_isEven_29 (by decide) rfl ?_
  refine J.iconst dX8_isEven_30 kI_0 ?_
  refine J.is4 dX8_isEven_31 (by decide) rfl ?_
  refine J.il4 dX8_isEven_33 ?_
  refine J.bipush dX8_isEven_35 kb_32 ?_
  refine J.icmp_geN (tgt := 71) dX8_isEven_37 (by decide) (by omega) (by omega) (fun c37₉ => absurd c37₉ (by first | omega | (simp only [not_true_eq_false, not_false_eq_true]; done) | (simp; done))) (fun c37₉ => ?_)
  refine J.al0 dX8_isEven_40 ?_
  refine gf_X8_42 rfl (x := nI 1) (by decide) wr_s dX8_isEven_41 ?_
  refine J.if_neN (tgt := 71) dX8_isEven_44 (by decide) (by omega) (fun c44₉ => ?_) (fun c44₉ => absurd c44₉ (by first | omega | (simp only [not_true_eq_false, not_false_eq_true]; done) | (simp; done)))
  refine J.al0 dX8_isEven_71 ?_
  refine gf_X8_42 rfl (x := nI 1) (by decide) wr_s dX8_isEven_72 ?_
  refine J.if_neN (tgt := 91) dX8_isEven_75 (by decide) (by omega) (fun c75₉ => ?_) (fun c75₉ => absurd c75₉ (by first | omega | (simp only [not_true_eq_false, not_false_eq_true]; done) | (simp; done)))
  refine J.iconst dX8_isEven_91 kI_0 ?_
  refine J.zret (ty := .boolean) rfl (by decide) (by decide) (by decide) dX8_isEven_92 ⟨_, rfl, ?_, ?_⟩
  · rfl
  · exact ⟨hMR₉.thr, wr_s, FrM.thr⟩

set_option maxRecDepth 100000 in
set_option maxHeartbeats 4000000 in
theorem c_m_isEvenX1 {g : GP} {adr : Nat → Nat} (μ : Mem) {α : A7} (hMR₉ : MR μ α) {i : Nat} (hi1₉ : i < 5) (hx₉ : ¬ aFl (qS α) i = true) {j : Int32} : CT g yX8_isEven mX8_isEven (RM 60 0 0) (WM g adr μ) [.ref (adr 237), .int (nI i), .int j] (PM g adr ((.inl (some (.int (nI 0))))) (fun μ' => MR μ' (α) ∧ μ' 237 6 = nI 2 ∧ FrM μ' μ)) := by
  refine CT.of (l0 := [some (.ref (adr 237)), some (.int (nI i)), some (.int j), none, none]) (by decide +kernel) rfl (Nat.le_of_ble_eq_true rfl) rfl ?_
  refine J.al0 dX8_isEven_0 ?_
  refine J.il1 dX8_isEven_1 ?_
  refine cl_X8_171 rfl (k' := 0) (n' := 0) (c_m_isShelfT _ (by omega)) ⟨⟨by decide, by decide⟩, ⟨rfl, rfl⟩, by decide, by decide⟩ rfl dX8_isEven_2 (fun μ9 h9₉ => ?_)
  rw [h9₉]; clear h9₉
  refine J.if_neN (tgt := 12) dX8_isEven_5 (by decide) (by omega) (fun c5₉ => ?_) (fun c5₉ => absurd c5₉ (by first | omega | (simp only [not_true_eq_false, not_false_eq_true]; done) | (simp; done)))
  refine J.al0 dX8_isEven_12 ?_
  refine J.il1 dX8_isEven_13 ?_
  refine cl_X8_177 rfl (by decide) (k' := 0) (n' := 0) (c_m_isEmptyT _ hMR₉.1 (by omega) hx₉) ⟨⟨by decide, by decide⟩, ⟨rfl, rfl⟩, by decide, by decide⟩ rfl dX8_isEven_14 (fun μ9 h9₉ => ?_)
  rw [h9₉]; clear h9₉
  refine J.if_eqN (tgt := 24) dX8_isEven_17 (by decide) (by omega) (fun c17₉ => absurd c17₉ (by first | omega | (simp only [not_true_eq_false, not_false_eq_true]; done) | (simp; done))) (fun c17₉ => ?_)
  refine J.iconst dX8_isEven_20 kI_2 ?_
  refine J.goto (tgt := 25) dX8_isEven_21 (by decide) ?_
  refine pf_X8_42 rfl (by decide) dX8_isEven_25 ?_
  refine J.iconst dX8_isEven_28 kI_0 ?_
  refine J.is3 dX8_isEven_29 (by decide) rfl ?_
  refine J.iconst dX8_isEven_30 kI_0 ?_
  refine J.is4 dX8_isEven_31 (by decide) rfl ?_
  refine J.il4 dX8_isEven_33 ?_
  refine J.bipush dX8_isEven_35 kb_32 ?_
  refine J.icmp_geN (tgt := 71) dX8_isEven_37 (by decide) (by omega) (by omega) (fun c37₉ => absurd c37₉ (by first | omega | (simp only [not_true_eq_false, not_false_eq_true]; done) | (simp; done))) (fun c37₉ => ?_)
  refine J.al0 dX8_isEven_40 ?_
  refine gf_X8_42 rfl (x := nI 2) (by decide) wr_s dX8_isEven_41 ?_
  refine J.if_neN (tgt := 71) dX8_isEven_44 (by decide) (by omega) (fun c44₉ => ?_) (fun c44₉ => absurd c44₉ (by first | omega | (simp only [not_true_eq_false, not_false_eq_true]; done) | (simp; done)))
  refine J.al0 dX8_isEven_71 ?_
  refine gf_X8_42 rfl (x := nI 2) (by decide) wr_s dX8_isEven_72 ?_
  refine J.if_neN (tgt := 91) dX8_isEven_75 (by decide) (by omega) (fun c75₉ => ?_) (fun c75₉ => absurd c75₉ (by first | omega | (simp only [not_true_eq_false, not_false_eq_true]; done) | (simp; done)))
  refine J.iconst dX8_isEven_91 kI_0 ?_
  refine J.zret (ty := .boolean) rfl (by decide) (by decide) (by decide) dX8_isEven_92 ⟨_, rfl, ?_, ?_⟩
  · rfl
  · exact ⟨hMR₉.thr, wr_s, FrM.thr⟩

set_option maxRecDepth 100000 in
set_option maxHeartbeats 4000000 in
theorem c_m_isEven {g : GP} {adr : Nat → Nat} (μ : Mem) {α : A7} (hMR₉ : MR μ α) {i : Nat} (hi1₉ : i < 5) (hfi₉ : aFl (qS α) i = true) {j : Int32}  : CT g yX8_isEven mX8_isEven (RM 60 0 0) (WM g adr μ) [.ref (adr 237), .int (nI i), .int j] (PM g adr ((.inl (some (.int (if evC (aSh (qS α) i) = true then nI 1 else nI 0))))) (fun μ' => MR μ' (α) ∧ μ' 237 6 = nI 0 ∧ FrM μ' μ)) := by
  refine CT.of (l0 := [some (.ref (adr 237)), some (.int (nI i)), some (.int j), none, none]) (by decide +kernel) rfl (Nat.le_of_ble_eq_true rfl) rfl ?_
  refine J.al0 dX8_isEven_0 ?_
  refine J.il1 dX8_isEven_1 ?_
  refine cl_X8_171 rfl (k' := 0) (n' := 0) (c_m_isShelfT _ (by omega)) ⟨⟨by decide, by decide⟩, ⟨rfl, rfl⟩, by decide, by decide⟩ rfl dX8_isEven_2 (fun μ9 h9₉ => ?_)
  rw [h9₉]; clear h9₉
  refine J.if_neN (tgt := 12) dX8_isEven_5 (by decide) (by omega) (fun c5₉ => ?_) (fun c5₉ => absurd c5₉ (by first | omega | (simp only [not_true_eq_false, not_false_eq_true]; done) | (simp; done)))
  refine J.al0 dX8_isEven_12 ?_
  refine J.il1 dX8_isEven_13 ?_
  refine cl_X8_177 rfl (by decide) (k' := 0) (n' := 0) (c_m_isEmptyF _ hMR₉.1 (by omega) hfi₉) ⟨⟨by decide, by decide⟩, ⟨rfl, rfl⟩, by decide, by decide⟩ rfl dX8_isEven_14 (fun μ9 h9₉ => ?_)
  rw [h9₉]; clear h9₉
  refine J.if_eqN (tgt := 24) dX8_isEven_17 (by decide) (by omega) (fun c17₉ => ?_) (fun c17₉ => absurd c17₉ (by first | omega | (simp only [not_true_eq_false, not_false_eq_true]; done) | (simp; done)))
  refine J.iconst dX8_isEven_24 kI_0 ?_
  refine pf_X8_42 rfl (by decide) dX8_isEven_25 ?_
  refine J.iconst dX8_isEven_28 kI_0 ?_
  refine J.is3 dX8_isEven_29 (by decide) rfl ?_
  refine J.iconst dX8_isEven_30 kI_0 ?_
  refine J.is4 dX8_isEven_31 (by decide) rfl ?_
  have lp33_1 : ∀ (fu : Nat) (c n9 : Nat), 32 < c + fu → c ≤ 32 → n9 = cnt (lowB (aSh (qS α) i)) c → J g mX8_isEven (RM 60 0 0) (MQx g (RM 60 0 0) (PM g adr ((.inl (some (.int (if evC (aSh (qS α) i) = true then nI 1 else nI 0))))) (fun μ' => MR μ' (α) ∧ μ' 237 6 = nI 0 ∧ FrM μ' μ))) 0 0 (WM g adr (wr μ 237 6 (nI 0))) 33 [some (.ref (adr 237)), some (.int (nI i)), some (.int j), some (.int (nI n9)), some (.int (nI c))] [] := by
    intro fu
    induction fu with
    | zero => intro c n9 h9₉ hc₉ hc9₉; exact absurd h9₉ (by omega)
    | succ fu ih33 =>
      intro c n9 h9₉ hc₉ hc9₉
      have hcl₉ := cnt_le (lowB (aSh (qS α) i)) c
      refine J.il4 dX8_isEven_33 ?_
      refine J.bipush dX8_isEven_35 kb_32 ?_
      refine J.icmp_geN (tgt := 71) dX8_isEven_37 (by decide) (by omega) (by omega) (fun c37₉ => ?_) (fun c37₉ => ?_)
      · refine J.al0 dX8_isEven_71 ?_
        refine gf_X8_42 rfl (x := nI 0) (by decide) wr_s dX8_isEven_72 ?_
        refine J.if_neN (tgt := 91) dX8_isEven_75 (by decide) (by omega) (fun c75₉ => absurd c75₉ (by first | omega | (simp only [not_true_eq_false, not_false_eq_true]; done) | (simp; done))) (fun c75₉ => ?_)
        refine J.bipush dX8_isEven_78 kb_32 ?_
        refine J.il3 dX8_isEven_80 ?_
        refine J.isubN dX8_isEven_81 (by omega) ?_
        refine J.iconst dX8_isEven_82 kI_2 ?_
        refine J.irem dX8_isEven_83 (by omega) (by omega) (by omega) ?_
        refine J.if_neN (tgt := 91) dX8_isEven_84 (by decide) (by omega) (fun c84₉ => ?_) (fun c84₉ => ?_)
        · refine J.iconst dX8_isEven_91 kI_0 ?_
          refine J.zret (ty := .boolean) rfl (by decide) (by decide) (by decide) dX8_isEven_92 ⟨_, rfl, ?_, ?_⟩
          · first | rw [if_pos (by unfold evC; refine decide_eq_true ?_; rw [show c = 32 by omega] at hc9₉; omega)] | rw [if_neg (by unfold evC; intro q; have q2₉ := of_decide_eq_true q; rw [show c = 32 by omega] at hc9₉; omega)]
          · exact ⟨hMR₉.thr, wr_s, FrM.thr⟩
        · refine J.iconst dX8_isEven_87 kI_1 ?_
          refine J.goto (tgt := 92) dX8_isEven_88 (by decide) ?_
          refine J.zret (ty := .boolean) rfl (by decide) (by decide) (by decide) dX8_isEven_92 ⟨_, rfl, ?_, ?_⟩
          · first | rw [if_pos (by unfold evC; refine decide_eq_true ?_; rw [show c = 32 by omega] at hc9₉; omega)] | rw [if_neg (by unfold evC; intro q; have q2₉ := of_decide_eq_true q; rw [show c = 32 by omega] at hc9₉; omega)]
          · exact ⟨hMR₉.thr, wr_s, FrM.thr⟩
      · refine J.al0 dX8_isEven_40 ?_
        refine gf_X8_42 rfl (x := nI 0) (by decide) wr_s dX8_isEven_41 ?_
        refine J.if_neN (tgt := 71) dX8_isEven_44 (by decide) (by omega) (fun c44₉ => absurd c44₉ (by first | omega | (simp only [not_true_eq_false, not_false_eq_true]; done) | (simp; done))) (fun c44₉ => ?_)
        refine J.il3 dX8_isEven_47 ?_
        refine J.al0 dX8_isEven_48 ?_
        refine J.il1 dX8_isEven_49 ?_
        refine J.il4 dX8_isEven_50 ?_
        refine cl_X8_192 rfl (by decide) (k' := 0) (n' := 0) (c_m_isLowest _ hi1₉ (MS.shr (MS.off hMR₉.1 (by simp only [wr_o (show (238 : Nat) ≠ 237 by decide)])) hi1₉ hfi₉) (hMR₉.1.vs.2.2.2.2 i hi1₉ hfi₉) (by omega)) ⟨⟨by decide, by decide⟩, ⟨rfl, rfl⟩, by decide, by decide⟩ rfl dX8_isEven_52 (fun μ9 h9₉ => ?_)
        rw [h9₉]; clear h9₉
        refine J.if_eqB (tgt := 62) dX8_isEven_55 (by decide) (fun c55₉ => ?_) (fun c55₉ => ?_)
        · refine J.iconst dX8_isEven_62 kI_0 ?_
          refine J.iaddN dX8_isEven_63 ?_
          refine J.is3 dX8_isEven_64 (by decide) rfl ?_
          refine J.ii4 (z := 1) dX8_isEven_65 (by decide) (by decide) rfl ?_
          refine J.goto (tgt := 33) dX8_isEven_68 (by decide) ?_
          exact ih33 (c + 1) (n9 + 0) (by omega) (by omega) (by rw [cnt_1, hc9₉]; first | rw [if_pos (by exact c55₉)] | rw [if_neg (by exact c55₉)])
        · refine J.iconst dX8_isEven_58 kI_1 ?_
          refine J.goto (tgt := 63) dX8_isEven_59 (by decide) ?_
          refine J.iaddN dX8_isEven_63 ?_
          refine J.is3 dX8_isEven_64 (by decide) rfl ?_
          refine J.ii4 (z := 1) dX8_isEven_65 (by decide) (by decide) rfl ?_
          refine J.goto (tgt := 33) dX8_isEven_68 (by decide) ?_
          exact ih33 (c + 1) (n9 + 1) (by omega) (by omega) (by rw [cnt_1, hc9₉]; first | rw [if_pos (by exact c55₉)] | rw [if_neg (by exact c55₉)])
  exact lp33_1 (33) 0 0 (by omega) (by omega) rfl

set_option maxRecDepth 100000 in
set_option maxHeartbeats 4000000 in
theorem c_m_shelfOfX0 {g : GP} {adr : Nat → Nat} (μ : Mem) {α : A7} (hMR₉ : MR μ α) {i : Int32} (hx₉ : ¬ (0 ≤ i ∧ i < nI 5)) {j : Int32} : CT g yX8_shelfOf mX8_shelfOf (RM 60 0 0) (WM g adr μ) [.ref (adr 237), .int i, .int j] (PM g adr ((.inl (some (.int (nI 0))))) (fun μ' => MR μ' (α) ∧ μ' 237 6 = nI 1 ∧ FrM μ' μ)) := by
  refine CT.of (l0 := [some (.ref (adr 237)), some (.int i), some (.int j), none, none, none, none, none]) (by decide +kernel) rfl (Nat.le_of_ble_eq_true rfl) rfl ?_
  refine J.al0 dX8_shelfOf_0 ?_
  refine J.il1 dX8_shelfOf_1 ?_
  refine cl_X8_171 rfl (k' := 0) (n' := 0) (c_m_isShelfF _ hx₉) ⟨⟨by decide, by decide⟩, ⟨rfl, rfl⟩, by decide, by decide⟩ rfl dX8_shelfOf_2 (fun μ9 h9₉ => ?_)
  rw [h9₉]; clear h9₉
  refine J.if_neN (tgt := 12) dX8_shelfOf_5 (by decide) (by omega) (fun c5₉ => absurd c5₉ (by first | omega | (simp only [not_true_eq_false, not_false_eq_true]; done) | (simp; done))) (fun c5₉ => ?_)
  refine J.iconst dX8_shelfOf_8 kI_1 ?_
  refine J.goto (tgt := 38) dX8_shelfOf_9 (by decide) ?_
  refine pf_X8_42 rfl (by decide) dX8_shelfOf_38 ?_
  refine J.al0 dX8_shelfOf_41 ?_
  refine gf_X8_42 rfl (x := nI 1) (by decide) wr_s dX8_shelfOf_42 ?_
  refine J.if_leN (tgt := 50) dX8_shelfOf_45 (by decide) (by omega) (fun c45₉ => absurd c45₉ (by first | omega | (simp only [not_true_eq_false, not_false_eq_true]; done) | (simp; done))) (fun c45₉ => ?_)
  refine J.iconst dX8_shelfOf_48 kI_0 ?_
  refine J.iret rfl (by decide) (by decide) dX8_shelfOf_49 ⟨_, rfl, ?_, ?_⟩
  · rfl
  · exact ⟨hMR₉.thr, wr_s, FrM.thr⟩

set_option maxRecDepth 100000 in
set_option maxHeartbeats 4000000 in
theorem c_m_shelfOfX1 {g : GP} {adr : Nat → Nat} (μ : Mem) {α : A7} (hMR₉ : MR μ α) {i : Nat} (hi1₉ : i < 5) {j : Int32} (hx₉ : j < nI 0 ∨ nI 3 < j) : CT g yX8_shelfOf mX8_shelfOf (RM 60 0 0) (WM g adr μ) [.ref (adr 237), .int (nI i), .int j] (PM g adr ((.inl (some (.int (nI 0))))) (fun μ' => MR μ' (α) ∧ μ' 237 6 = nI 2 ∧ FrM μ' μ)) := by
  refine CT.of (l0 := [some (.ref (adr 237)), some (.int (nI i)), some (.int j), none, none, none, none, none]) (by decide +kernel) rfl (Nat.le_of_ble_eq_true rfl) rfl ?_
  refine J.al0 dX8_shelfOf_0 ?_
  refine J.il1 dX8_shelfOf_1 ?_
  refine cl_X8_171 rfl (k' := 0) (n' := 0) (c_m_isShelfT _ (by omega)) ⟨⟨by decide, by decide⟩, ⟨rfl, rfl⟩, by decide, by decide⟩ rfl dX8_shelfOf_2 (fun μ9 h9₉ => ?_)
  rw [h9₉]; clear h9₉
  refine J.if_neN (tgt := 12) dX8_shelfOf_5 (by decide) (by omega) (fun c5₉ => ?_) (fun c5₉ => absurd c5₉ (by first | omega | (simp only [not_true_eq_false, not_false_eq_true]; done) | (simp; done)))
  refine J.il2 dX8_shelfOf_12 ?_
  refine J.iconst dX8_shelfOf_13 kI_0 ?_
  refine J.iconst dX8_shelfOf_14 kI_3 ?_
  refine cl_X8_93 rfl (k' := 0) (n' := 0) (inF _ (in_rng hx₉)) ⟨⟨by decide, by decide⟩, ⟨rfl, rfl⟩, by decide, by decide⟩ rfl dX8_shelfOf_15 (fun μ9 h9₉ => ?_)
  rw [h9₉]; clear h9₉
  refine J.if_neN (tgt := 25) dX8_shelfOf_18 (by decide) (by omega) (fun c18₉ => absurd c18₉ (by first | omega | (simp only [not_true_eq_false, not_false_eq_true]; done) | (simp; done))) (fun c18₉ => ?_)
  refine J.iconst dX8_shelfOf_21 kI_2 ?_
  refine J.goto (tgt := 38) dX8_shelfOf_22 (by decide) ?_
  refine pf_X8_42 rfl (by decide) dX8_shelfOf_38 ?_
  refine J.al0 dX8_shelfOf_41 ?_
  refine gf_X8_42 rfl (x := nI 2) (by decide) wr_s dX8_shelfOf_42 ?_
  refine J.if_leN (tgt := 50) dX8_shelfOf_45 (by decide) (by omega) (fun c45₉ => absurd c45₉ (by first | omega | (simp only [not_true_eq_false, not_false_eq_true]; done) | (simp; done))) (fun c45₉ => ?_)
  refine J.iconst dX8_shelfOf_48 kI_0 ?_
  refine J.iret rfl (by decide) (by decide) dX8_shelfOf_49 ⟨_, rfl, ?_, ?_⟩
  · rfl
  · exact ⟨hMR₉.thr, wr_s, FrM.thr⟩

set_option maxRecDepth 100000 in
set_option maxHeartbeats 4000000 in
theorem c_m_shelfOfX2 {g : GP} {adr : Nat → Nat} (μ : Mem) {α : A7} (hMR₉ : MR μ α) {i : Nat} (hi1₉ : i < 5) {j : Nat} (hj1₉ : 0 ≤ j) (hj2₉ : j ≤ 3) (hx₉ : ¬ aFl (qS α) i = true) : CT g yX8_shelfOf mX8_shelfOf (RM 60 0 0) (WM g adr μ) [.ref (adr 237), .int (nI i), .int (nI j)] (PM g adr ((.inl (some (.int (nI 0))))) (fun μ' => MR μ' (α) ∧ μ' 237 6 = nI 3 ∧ FrM μ' μ)) := by
  refine CT.of (l0 := [some (.ref (adr 237)), some (.int (nI i)), some (.int (nI j)), none, none, none, none, none]) (by decide +kernel) rfl (Nat.le_of_ble_eq_true rfl) rfl ?_
  refine J.al0 dX8_shelfOf_0 ?_
  refine J.il1 dX8_shelfOf_1 ?_
  refine cl_X8_171 rfl (k' := 0) (n' := 0) (c_m_isShelfT _ (by omega)) ⟨⟨by decide, by decide⟩, ⟨rfl, rfl⟩, by decide, by decide⟩ rfl dX8_shelfOf_2 (fun μ9 h9₉ => ?_)
  rw [h9₉]; clear h9₉
  refine J.if_neN (tgt := 12) dX8_shelfOf_5 (by decide) (by omega) (fun c5₉ => ?_) (fun c5₉ => absurd c5₉ (by first | omega | (simp only [not_true_eq_false, not_false_eq_true]; done) | (simp; done)))
  refine J.il2 dX8_shelfOf_12 ?_
  refine J.iconst dX8_shelfOf_13 kI_0 ?_
  refine J.iconst dX8_shelfOf_14 kI_3 ?_
  refine cl_X8_93 rfl (k' := 0) (n' := 0) (inT _ (by omega) (by omega) (by omega)) ⟨⟨by decide, by decide⟩, ⟨rfl, rfl⟩, by decide, by decide⟩ rfl dX8_shelfOf_15 (fun μ9 h9₉ => ?_)
  rw [h9₉]; clear h9₉
  refine J.if_neN (tgt := 25) dX8_shelfOf_18 (by decide) (by omega) (fun c18₉ => ?_) (fun c18₉ => absurd c18₉ (by first | omega | (simp only [not_true_eq_false, not_false_eq_true]; done) | (simp; done)))
  refine J.al0 dX8_shelfOf_25 ?_
  refine J.il1 dX8_shelfOf_26 ?_
  refine cl_X8_177 rfl (by decide) (k' := 0) (n' := 0) (c_m_isEmptyT _ hMR₉.1 (by omega) hx₉) ⟨⟨by decide, by decide⟩, ⟨rfl, rfl⟩, by decide, by decide⟩ rfl dX8_shelfOf_27 (fun μ9 h9₉ => ?_)
  rw [h9₉]; clear h9₉
  refine J.if_eqN (tgt := 37) dX8_shelfOf_30 (by decide) (by omega) (fun c30₉ => absurd c30₉ (by first | omega | (simp only [not_true_eq_false, not_false_eq_true]; done) | (simp; done))) (fun c30₉ => ?_)
  refine J.iconst dX8_shelfOf_33 kI_3 ?_
  refine J.goto (tgt := 38) dX8_shelfOf_34 (by decide) ?_
  refine pf_X8_42 rfl (by decide) dX8_shelfOf_38 ?_
  refine J.al0 dX8_shelfOf_41 ?_
  refine gf_X8_42 rfl (x := nI 3) (by decide) wr_s dX8_shelfOf_42 ?_
  refine J.if_leN (tgt := 50) dX8_shelfOf_45 (by decide) (by omega) (fun c45₉ => absurd c45₉ (by first | omega | (simp only [not_true_eq_false, not_false_eq_true]; done) | (simp; done))) (fun c45₉ => ?_)
  refine J.iconst dX8_shelfOf_48 kI_0 ?_
  refine J.iret rfl (by decide) (by decide) dX8_shelfOf_49 ⟨_, rfl, ?_, ?_⟩
  · rfl
  · exact ⟨hMR₉.thr, wr_s, FrM.thr⟩

set_option maxRecDepth 100000 in
set_option maxHeartbeats 4000000 in
theorem c_m_shelfOf0 {g : GP} {adr : Nat → Nat} (μ : Mem) {α : A7} (hMR₉ : MR μ α) {i : Nat} (hi1₉ : i < 5) (hfi₉ : aFl (qS α) i = true)  : CT g yX8_shelfOf mX8_shelfOf (RM 60 0 0) (WM g adr μ) [.ref (adr 237), .int (nI i), .int (nI 0)] (PM g adr ((.inl (some (.int (nI (cnt (fun k => decide (aSh (qS α) i k ≠ k)) 32)))))) (fun μ' => MR μ' (α) ∧ μ' 237 6 = nI 0 ∧ FrM μ' μ)) := by
  refine CT.of (l0 := [some (.ref (adr 237)), some (.int (nI i)), some (.int (nI 0)), none, none, none, none, none]) (by decide +kernel) rfl (Nat.le_of_ble_eq_true rfl) rfl ?_
  have hBF₉ := (hMR₉.1.vs.2.2.2.2 i hi1₉ hfi₉)
  refine J.al0 dX8_shelfOf_0 ?_
  refine J.il1 dX8_shelfOf_1 ?_
  refine cl_X8_171 rfl (k' := 0) (n' := 0) (c_m_isShelfT _ (by omega)) ⟨⟨by decide, by decide⟩, ⟨rfl, rfl⟩, by decide, by decide⟩ rfl dX8_shelfOf_2 (fun μ9 h9₉ => ?_)
  rw [h9₉]; clear h9₉
  refine J.if_neN (tgt := 12) dX8_shelfOf_5 (by decide) (by omega) (fun c5₉ => ?_) (fun c5₉ => absurd c5₉ (by first | omega | (simp only [not_true_eq_false, not_false_eq_true]; done) | (simp; done)))
  refine J.il2 dX8_shelfOf_12 ?_
  refine J.iconst dX8_shelfOf_13 kI_0 ?_
  refine J.iconst dX8_shelfOf_14 kI_3 ?_
  refine cl_X8_93 rfl (k' := 0) (n' := 0) (inT _ (by decide) (by decide) (by decide)) ⟨⟨by decide, by decide⟩, ⟨rfl, rfl⟩, by decide, by decide⟩ rfl dX8_shelfOf_15 (fun μ9 h9₉ => ?_)
  rw [h9₉]; clear h9₉
  refine J.if_neN (tgt := 25) dX8_shelfOf_18 (by decide) (by omega) (fun c18₉ => ?_) (fun c18₉ => absurd c18₉ (by first | omega | (simp only [not_true_eq_false, not_false_eq_true]; done) | (simp; done)))
  refine J.al0 dX8_shelfOf_25 ?_
  refine J.il1 dX8_shelfOf_26 ?_
  refine cl_X8_177 rfl (by decide) (k' := 0) (n' := 0) (c_m_isEmptyF _ hMR₉.1 (by omega) hfi₉) ⟨⟨by decide, by decide⟩, ⟨rfl, rfl⟩, by decide, by decide⟩ rfl dX8_shelfOf_27 (fun μ9 h9₉ => ?_)
  rw [h9₉]; clear h9₉
  refine J.if_eqN (tgt := 37) dX8_shelfOf_30 (by decide) (by omega) (fun c30₉ => ?_) (fun c30₉ => absurd c30₉ (by first | omega | (simp only [not_true_eq_false, not_false_eq_true]; done) | (simp; done)))
  refine J.iconst dX8_shelfOf_37 kI_0 ?_
  refine pf_X8_42 rfl (by decide) dX8_shelfOf_38 ?_
  refine J.al0 dX8_shelfOf_41 ?_
  refine gf_X8_42 rfl (x := nI 0) (by decide) wr_s dX8_shelfOf_42 ?_
  refine J.if_leN (tgt := 50) dX8_shelfOf_45 (by decide) (by omega) (fun c45₉ => ?_) (fun c45₉ => absurd c45₉ (by first | omega | (simp only [not_true_eq_false, not_false_eq_true]; done) | (simp; done)))
  refine J.iconst dX8_shelfOf_50 kI_0 ?_
  refine J.is3 dX8_shelfOf_51 (by decide) rfl ?_
  refine J.iconst dX8_shelfOf_52 kI_0 ?_
  refine J.is4 dX8_shelfOf_53 (by decide) rfl ?_
  refine J.iconst dX8_shelfOf_55 kI_0 ?_
  refine J.is5 dX8_shelfOf_56 (by decide) rfl ?_
  refine J.iconst dX8_shelfOf_58 kI_0 ?_
  refine J.is6 dX8_shelfOf_59 (by decide) rfl ?_
  have lp61_1 : ∀ (fu : Nat) (c a b d : Nat), 32 < c + fu → c ≤ 32 → a = cnt (fun k => decide (1 < cyL (aSh (qS α) i) k)) c → b = cnt (fun k => decide (1 < cyL (aSh (qS α) i) k) && lowB (aSh (qS α) i) k) c → d = mx0 (cyL (aSh (qS α) i)) c → d ≤ 32 → J g mX8_shelfOf (RM 60 0 0) (MQx g (RM 60 0 0) (PM g adr ((.inl (some (.int (nI (cnt (fun k => decide (aSh (qS α) i k ≠ k)) 32)))))) (fun μ' => MR μ' (α) ∧ μ' 237 6 = nI 0 ∧ FrM μ' μ))) 0 0 (WM g adr (wr μ 237 6 (nI 0))) 61 [some (.ref (adr 237)), some (.int (nI i)), some (.int (nI 0)), some (.int (nI a)), some (.int (nI b)), some (.int (nI d)), some (.int (nI c)), none] [] := by
    intro fu
    induction fu with
    | zero => intro c a b d h9₉ hc₉ h1c h2c h3c hd₉; exact absurd h9₉ (by omega)
    | succ fu ih61 =>
      intro c a b d h9₉ hc₉ h1c h2c h3c hd₉
      refine J.il6 dX8_shelfOf_61 ?_
      refine J.bipush dX8_shelfOf_63 kb_32 ?_
      refine J.icmp_geN (tgt := 132) dX8_shelfOf_65 (by decide) (by omega) (by omega) (fun c65₉ => ?_) (fun c65₉ => ?_)
      · refine J.il2 dX8_shelfOf_132 ?_
        refine J.if_neN (tgt := 140) dX8_shelfOf_133 (by decide) (by omega) (fun c133₉ => absurd c133₉ (by first | omega | (simp only [not_true_eq_false, not_false_eq_true]; done) | (simp; done))) (fun c133₉ => ?_)
        refine J.il3 dX8_shelfOf_136 ?_
        refine J.goto (tgt := 165) dX8_shelfOf_137 (by decide) ?_
        refine J.iret rfl (by decide) (by decide) dX8_shelfOf_165 ⟨_, rfl, ?_, ?_⟩
        · rw [show c = 32 by omega] at h1c; rw [h1c, cnt_cong (q := fun k => decide (aSh (qS α) i k ≠ k)) (fun k hk₉ => decide_eq_decide.mpr (moved_cy hBF₉ hk₉))]
        · exact ⟨hMR₉.thr, wr_s, FrM.thr⟩
      · refine J.al0 dX8_shelfOf_68 ?_
        refine J.il1 dX8_shelfOf_69 ?_
        refine J.il6 dX8_shelfOf_70 ?_
        have hcy72₉ := cyL_le (aSh (qS α) i) c
        refine cl_X8_189 rfl (by decide) (k' := 0) (n' := 0) (c_m_cycleOf _ hi1₉ (MS.shr (MS.off hMR₉.1 (by simp only [wr_o (show (238 : Nat) ≠ 237 by decide)])) hi1₉ hfi₉) (hMR₉.1.vs.2.2.2.2 i hi1₉ hfi₉) (by omega)) ⟨⟨by decide, by decide⟩, ⟨rfl, rfl⟩, by decide, by decide⟩ rfl dX8_shelfOf_72 (fun μ9 h9₉ => ?_)
        rw [h9₉]; clear h9₉
        refine J.is7 dX8_shelfOf_75 (by decide) rfl ?_
        refine J.il3 dX8_shelfOf_77 ?_
        refine J.il7 dX8_shelfOf_78 ?_
        refine J.iconst dX8_shelfOf_80 kI_1 ?_
        refine J.icmp_leN (tgt := 88) dX8_shelfOf_81 (by decide) (by omega) (by omega) (fun c81₉ => ?_) (fun c81₉ => ?_)
        · refine J.iconst dX8_shelfOf_88 kI_0 ?_
          refine J.iaddN dX8_shelfOf_89 ?_
          refine J.is3 dX8_shelfOf_90 (by decide) rfl ?_
          refine J.il4 dX8_shelfOf_91 ?_
          refine J.il7 dX8_shelfOf_93 ?_
          refine J.iconst dX8_shelfOf_95 kI_1 ?_
          refine J.icmp_leN (tgt := 113) dX8_shelfOf_96 (by decide) (by omega) (by omega) (fun c96₉ => ?_) (fun c96₉ => ?_)
          · refine J.iconst dX8_shelfOf_113 kI_0 ?_
            refine J.iaddN dX8_shelfOf_114 ?_
            refine J.is4 dX8_shelfOf_115 (by decide) rfl ?_
            refine J.il5 dX8_shelfOf_117 ?_
            refine J.il7 dX8_shelfOf_119 ?_
            refine J.maxN t_1277 t_798 t_18 t_maxcode (by omega) (by omega) (by decide) (Nat.le_of_ble_eq_true rfl) (by decide) (by decide) dX8_shelfOf_121 ?_
            refine J.is5 dX8_shelfOf_124 (by decide) rfl ?_
            refine J.ii6 (z := 1) dX8_shelfOf_126 (by decide) (by decide) rfl ?_
            refine J.goto (tgt := 61) dX8_shelfOf_129 (by decide) ?_
            exact J.subR (ih61 (c + 1) (a + 0) (b + 0) (max d (cyL (aSh (qS α) i) c)) (by omega) (by omega) (by rw [cnt_1, h1c]; first | omega | rw [if_pos (decide_eq_true (by omega))] | rw [if_neg (by rw [decide_eq_false (by omega)]; decide)]) (by rw [cnt_1, h2c]; first | omega | rw [if_pos (by rw [decide_eq_true (by omega), c106₉]; rfl)] | rw [if_neg (by rw [decide_eq_false (show ¬ 1 < cyL (aSh (qS α) i) c by omega)]; simp)] | rw [if_neg (by simp only [Bool.and_eq_true]; exact fun q => c106₉ q.2)]) (by rw [h3c]; rfl) (by omega)) ⟨rfl, ⟨rfl, ⟨rfl, ⟨rfl, ⟨rfl, ⟨rfl, ⟨rfl, trivial⟩⟩⟩⟩⟩⟩⟩
          · refine J.al0 dX8_shelfOf_99 ?_
            refine J.il1 dX8_shelfOf_100 ?_
            refine J.il6 dX8_shelfOf_101 ?_
            refine cl_X8_192 rfl (by decide) (k' := 0) (n' := 0) (c_m_isLowest _ hi1₉ (MS.shr (MS.off hMR₉.1 (by simp only [wr_o (show (238 : Nat) ≠ 237 by decide)])) hi1₉ hfi₉) (hMR₉.1.vs.2.2.2.2 i hi1₉ hfi₉) (by omega)) ⟨⟨by decide, by decide⟩, ⟨rfl, rfl⟩, by decide, by decide⟩ rfl dX8_shelfOf_103 (fun μ9 h9₉ => ?_)
            rw [h9₉]; clear h9₉
            refine J.if_eqB (tgt := 113) dX8_shelfOf_106 (by decide) (fun c106₉ => ?_) (fun c106₉ => ?_)
            · refine J.iconst dX8_shelfOf_113 kI_0 ?_
              refine J.iaddN dX8_shelfOf_114 ?_
              refine J.is4 dX8_shelfOf_115 (by decide) rfl ?_
              refine J.il5 dX8_shelfOf_117 ?_
              refine J.il7 dX8_shelfOf_119 ?_
              refine J.maxN t_1277 t_798 t_18 t_maxcode (by omega) (by omega) (by decide) (Nat.le_of_ble_eq_true rfl) (by decide) (by decide) dX8_shelfOf_121 ?_
              refine J.is5 dX8_shelfOf_124 (by decide) rfl ?_
              refine J.ii6 (z := 1) dX8_shelfOf_126 (by decide) (by decide) rfl ?_
              refine J.goto (tgt := 61) dX8_shelfOf_129 (by decide) ?_
              exact J.subR (ih61 (c + 1) (a + 0) (b + 0) (max d (cyL (aSh (qS α) i) c)) (by omega) (by omega) (by rw [cnt_1, h1c]; first | omega | rw [if_pos (decide_eq_true (by omega))] | rw [if_neg (by rw [decide_eq_false (by omega)]; decide)]) (by rw [cnt_1, h2c]; first | omega | rw [if_pos (by rw [decide_eq_true (by omega), c106₉]; rfl)] | rw [if_neg (by rw [decide_eq_false (show ¬ 1 < cyL (aSh (qS α) i) c by omega)]; simp)] | rw [if_neg (by simp only [Bool.and_eq_true]; exact fun q => c106₉ q.2)]) (by rw [h3c]; rfl) (by omega)) ⟨rfl, ⟨rfl, ⟨rfl, ⟨rfl, ⟨rfl, ⟨rfl, ⟨rfl, trivial⟩⟩⟩⟩⟩⟩⟩
            · refine J.iconst dX8_shelfOf_109 kI_1 ?_
              refine J.goto (tgt := 114) dX8_shelfOf_110 (by decide) ?_
              refine J.iaddN dX8_shelfOf_114 ?_
              refine J.is4 dX8_shelfOf_115 (by decide) rfl ?_
              refine J.il5 dX8_shelfOf_117 ?_
              refine J.il7 dX8_shelfOf_119 ?_
              refine J.maxN t_1277 t_798 t_18 t_maxcode (by omega) (by omega) (by decide) (Nat.le_of_ble_eq_true rfl) (by decide) (by decide) dX8_shelfOf_121 ?_
              refine J.is5 dX8_shelfOf_124 (by decide) rfl ?_
              refine J.ii6 (z := 1) dX8_shelfOf_126 (by decide) (by decide) rfl ?_
              refine J.goto (tgt := 61) dX8_shelfOf_129 (by decide) ?_
              exact J.subR (ih61 (c + 1) (a + 0) (b + 1) (max d (cyL (aSh (qS α) i) c)) (by omega) (by omega) (by rw [cnt_1, h1c]; first | omega | rw [if_pos (decide_eq_true (by omega))] | rw [if_neg (by rw [decide_eq_false (by omega)]; decide)]) (by rw [cnt_1, h2c]; first | omega | rw [if_pos (by rw [decide_eq_true (by omega), c106₉]; rfl)] | rw [if_neg (by rw [decide_eq_false (show ¬ 1 < cyL (aSh (qS α) i) c by omega)]; simp)] | rw [if_neg (by simp only [Bool.and_eq_true]; exact fun q => c106₉ q.2)]) (by rw [h3c]; rfl) (by omega)) ⟨rfl, ⟨rfl, ⟨rfl, ⟨rfl, ⟨rfl, ⟨rfl, ⟨rfl, trivial⟩⟩⟩⟩⟩⟩⟩
        · refine J.iconst dX8_shelfOf_84 kI_1 ?_
          refine J.goto (tgt := 89) dX8_shelfOf_85 (by decide) ?_
          refine J.iaddN dX8_shelfOf_89 ?_
          refine J.is3 dX8_shelfOf_90 (by decide) rfl ?_
          refine J.il4 dX8_shelfOf_91 ?_
          refine J.il7 dX8_shelfOf_93 ?_
          refine J.iconst dX8_shelfOf_95 kI_1 ?_
          refine J.icmp_leN (tgt := 113) dX8_shelfOf_96 (by decide) (by omega) (by omega) (fun c96₉ => ?_) (fun c96₉ => ?_)
          · refine J.iconst dX8_shelfOf_113 kI_0 ?_
            refine J.iaddN dX8_shelfOf_114 ?_
            refine J.is4 dX8_shelfOf_115 (by decide) rfl ?_
            refine J.il5 dX8_shelfOf_117 ?_
            refine J.il7 dX8_shelfOf_119 ?_
            refine J.maxN t_1277 t_798 t_18 t_maxcode (by omega) (by omega) (by decide) (Nat.le_of_ble_eq_true rfl) (by decide) (by decide) dX8_shelfOf_121 ?_
            refine J.is5 dX8_shelfOf_124 (by decide) rfl ?_
            refine J.ii6 (z := 1) dX8_shelfOf_126 (by decide) (by decide) rfl ?_
            refine J.goto (tgt := 61) dX8_shelfOf_129 (by decide) ?_
            exact J.subR (ih61 (c + 1) (a + 1) (b + 0) (max d (cyL (aSh (qS α) i) c)) (by omega) (by omega) (by rw [cnt_1, h1c]; first | omega | rw [if_pos (decide_eq_true (by omega))] | rw [if_neg (by rw [decide_eq_false (by omega)]; decide)]) (by rw [cnt_1, h2c]; first | omega | rw [if_pos (by rw [decide_eq_true (by omega), c106₉]; rfl)] | rw [if_neg (by rw [decide_eq_false (show ¬ 1 < cyL (aSh (qS α) i) c by omega)]; simp)] | rw [if_neg (by simp only [Bool.and_eq_true]; exact fun q => c106₉ q.2)]) (by rw [h3c]; rfl) (by omega)) ⟨rfl, ⟨rfl, ⟨rfl, ⟨rfl, ⟨rfl, ⟨rfl, ⟨rfl, trivial⟩⟩⟩⟩⟩⟩⟩
          · refine J.al0 dX8_shelfOf_99 ?_
            refine J.il1 dX8_shelfOf_100 ?_
            refine J.il6 dX8_shelfOf_101 ?_
            refine cl_X8_192 rfl (by decide) (k' := 0) (n' := 0) (c_m_isLowest _ hi1₉ (MS.shr (MS.off hMR₉.1 (by simp only [wr_o (show (238 : Nat) ≠ 237 by decide)])) hi1₉ hfi₉) (hMR₉.1.vs.2.2.2.2 i hi1₉ hfi₉) (by omega)) ⟨⟨by decide, by decide⟩, ⟨rfl, rfl⟩, by decide, by decide⟩ rfl dX8_shelfOf_103 (fun μ9 h9₉ => ?_)
            rw [h9₉]; clear h9₉
            refine J.if_eqB (tgt := 113) dX8_shelfOf_106 (by decide) (fun c106₉ => ?_) (fun c106₉ => ?_)
            · refine J.iconst dX8_shelfOf_113 kI_0 ?_
              refine J.iaddN dX8_shelfOf_114 ?_
              refine J.is4 dX8_shelfOf_115 (by decide) rfl ?_
              refine J.il5 dX8_shelfOf_117 ?_
              refine J.il7 dX8_shelfOf_119 ?_
              refine J.maxN t_1277 t_798 t_18 t_maxcode (by omega) (by omega) (by decide) (Nat.le_of_ble_eq_true rfl) (by decide) (by decide) dX8_shelfOf_121 ?_
              refine J.is5 dX8_shelfOf_124 (by decide) rfl ?_
              refine J.ii6 (z := 1) dX8_shelfOf_126 (by decide) (by decide) rfl ?_
              refine J.goto (tgt := 61) dX8_shelfOf_129 (by decide) ?_
              exact J.subR (ih61 (c + 1) (a + 1) (b + 0) (max d (cyL (aSh (qS α) i) c)) (by omega) (by omega) (by rw [cnt_1, h1c]; first | omega | rw [if_pos (decide_eq_true (by omega))] | rw [if_neg (by rw [decide_eq_false (by omega)]; decide)]) (by rw [cnt_1, h2c]; first | omega | rw [if_pos (by rw [decide_eq_true (by omega), c106₉]; rfl)] | rw [if_neg (by rw [decide_eq_false (show ¬ 1 < cyL (aSh (qS α) i) c by omega)]; simp)] | rw [if_neg (by simp only [Bool.and_eq_true]; exact fun q => c106₉ q.2)]) (by rw [h3c]; rfl) (by omega)) ⟨rfl, ⟨rfl, ⟨rfl, ⟨rfl, ⟨rfl, ⟨rfl, ⟨rfl, trivial⟩⟩⟩⟩⟩⟩⟩
            · refine J.iconst dX8_shelfOf_109 kI_1 ?_
              refine J.goto (tgt := 114) dX8_shelfOf_110 (by decide) ?_
              refine J.iaddN dX8_shelfOf_114 ?_
              refine J.is4 dX8_shelfOf_115 (by decide) rfl ?_
              refine J.il5 dX8_shelfOf_117 ?_
              refine J.il7 dX8_shelfOf_119 ?_
              refine J.maxN t_1277 t_798 t_18 t_maxcode (by omega) (by omega) (by decide) (Nat.le_of_ble_eq_true rfl) (by decide) (by decide) dX8_shelfOf_121 ?_
              refine J.is5 dX8_shelfOf_124 (by decide) rfl ?_
              refine J.ii6 (z := 1) dX8_shelfOf_126 (by decide) (by decide) rfl ?_
              refine J.goto (tgt := 61) dX8_shelfOf_129 (by decide) ?_
              exact J.subR (ih61 (c + 1) (a + 1) (b + 1) (max d (cyL (aSh (qS α) i) c)) (by omega) (by omega) (by rw [cnt_1, h1c]; first | omega | rw [if_pos (decide_eq_true (by omega))] | rw [if_neg (by rw [decide_eq_false (by omega)]; decide)]) (by rw [cnt_1, h2c]; first | omega | rw [if_pos (by rw [decide_eq_true (by omega), c106₉]; rfl)] | rw [if_neg (by rw [decide_eq_false (show ¬ 1 < cyL (aSh (qS α) i) c by omega)]; simp)] | rw [if_neg (by simp only [Bool.and_eq_true]; exact fun q => c106₉ q.2)]) (by rw [h3c]; rfl) (by omega)) ⟨rfl, ⟨rfl, ⟨rfl, ⟨rfl, ⟨rfl, ⟨rfl, ⟨rfl, trivial⟩⟩⟩⟩⟩⟩⟩
  exact lp61_1 (33) 0 0 0 0 (by omega) (by omega) rfl rfl rfl (by omega)

set_option maxRecDepth 100000 in
set_option maxHeartbeats 4000000 in
theorem c_m_shelfOf1 {g : GP} {adr : Nat → Nat} (μ : Mem) {α : A7} (hMR₉ : MR μ α) {i : Nat} (hi1₉ : i < 5) (hfi₉ : aFl (qS α) i = true)  : CT g yX8_shelfOf mX8_shelfOf (RM 60 0 0) (WM g adr μ) [.ref (adr 237), .int (nI i), .int (nI 1)] (PM g adr ((.inl (some (.int (nI (cnt (fun s => lowB (aSh (qS α) i) s && decide (2 ≤ cyL (aSh (qS α) i) s)) 32)))))) (fun μ' => MR μ' (α) ∧ μ' 237 6 = nI 0 ∧ FrM μ' μ)) := by
  refine CT.of (l0 := [some (.ref (adr 237)), some (.int (nI i)), some (.int (nI 1)), none, none, none, none, none]) (by decide +kernel) rfl (Nat.le_of_ble_eq_true rfl) rfl ?_
  have hBF₉ := (hMR₉.1.vs.2.2.2.2 i hi1₉ hfi₉)
  refine J.al0 dX8_shelfOf_0 ?_
  refine J.il1 dX8_shelfOf_1 ?_
  refine cl_X8_171 rfl (k' := 0) (n' := 0) (c_m_isShelfT _ (by omega)) ⟨⟨by decide, by decide⟩, ⟨rfl, rfl⟩, by decide, by decide⟩ rfl dX8_shelfOf_2 (fun μ9 h9₉ => ?_)
  rw [h9₉]; clear h9₉
  refine J.if_neN (tgt := 12) dX8_shelfOf_5 (by decide) (by omega) (fun c5₉ => ?_) (fun c5₉ => absurd c5₉ (by first | omega | (simp only [not_true_eq_false, not_false_eq_true]; done) | (simp; done)))
  refine J.il2 dX8_shelfOf_12 ?_
  refine J.iconst dX8_shelfOf_13 kI_0 ?_
  refine J.iconst dX8_shelfOf_14 kI_3 ?_
  refine cl_X8_93 rfl (k' := 0) (n' := 0) (inT _ (by decide) (by decide) (by decide)) ⟨⟨by decide, by decide⟩, ⟨rfl, rfl⟩, by decide, by decide⟩ rfl dX8_shelfOf_15 (fun μ9 h9₉ => ?_)
  rw [h9₉]; clear h9₉
  refine J.if_neN (tgt := 25) dX8_shelfOf_18 (by decide) (by omega) (fun c18₉ => ?_) (fun c18₉ => absurd c18₉ (by first | omega | (simp only [not_true_eq_false, not_false_eq_true]; done) | (simp; done)))
  refine J.al0 dX8_shelfOf_25 ?_
  refine J.il1 dX8_shelfOf_26 ?_
  refine cl_X8_177 rfl (by decide) (k' := 0) (n' := 0) (c_m_isEmptyF _ hMR₉.1 (by omega) hfi₉) ⟨⟨by decide, by decide⟩, ⟨rfl, rfl⟩, by decide, by decide⟩ rfl dX8_shelfOf_27 (fun μ9 h9₉ => ?_)
  rw [h9₉]; clear h9₉
  refine J.if_eqN (tgt := 37) dX8_shelfOf_30 (by decide) (by omega) (fun c30₉ => ?_) (fun c30₉ => absurd c30₉ (by first | omega | (simp only [not_true_eq_false, not_false_eq_true]; done) | (simp; done)))
  refine J.iconst dX8_shelfOf_37 kI_0 ?_
  refine pf_X8_42 rfl (by decide) dX8_shelfOf_38 ?_
  refine J.al0 dX8_shelfOf_41 ?_
  refine gf_X8_42 rfl (x := nI 0) (by decide) wr_s dX8_shelfOf_42 ?_
  refine J.if_leN (tgt := 50) dX8_shelfOf_45 (by decide) (by omega) (fun c45₉ => ?_) (fun c45₉ => absurd c45₉ (by first | omega | (simp only [not_true_eq_false, not_false_eq_true]; done) | (simp; done)))
  refine J.iconst dX8_shelfOf_50 kI_0 ?_
  refine J.is3 dX8_shelfOf_51 (by decide) rfl ?_
  refine J.iconst dX8_shelfOf_52 kI_0 ?_
  refine J.is4 dX8_shelfOf_53 (by decide) rfl ?_
  refine J.iconst dX8_shelfOf_55 kI_0 ?_
  refine J.is5 dX8_shelfOf_56 (by decide) rfl ?_
  refine J.iconst dX8_shelfOf_58 kI_0 ?_
  refine J.is6 dX8_shelfOf_59 (by decide) rfl ?_
  have lp61_1 : ∀ (fu : Nat) (c a b d : Nat), 32 < c + fu → c ≤ 32 → a = cnt (fun k => decide (1 < cyL (aSh (qS α) i) k)) c → b = cnt (fun k => decide (1 < cyL (aSh (qS α) i) k) && lowB (aSh (qS α) i) k) c → d = mx0 (cyL (aSh (qS α) i)) c → d ≤ 32 → J g mX8_shelfOf (RM 60 0 0) (MQx g (RM 60 0 0) (PM g adr ((.inl (some (.int (nI (cnt (fun s => lowB (aSh (qS α) i) s && decide (2 ≤ cyL (aSh (qS α) i) s)) 32)))))) (fun μ' => MR μ' (α) ∧ μ' 237 6 = nI 0 ∧ FrM μ' μ))) 0 0 (WM g adr (wr μ 237 6 (nI 0))) 61 [some (.ref (adr 237)), some (.int (nI i)), some (.int (nI 1)), some (.int (nI a)), some (.int (nI b)), some (.int (nI d)), some (.int (nI c)), none] [] := by
    intro fu
    induction fu with
    | zero => intro c a b d h9₉ hc₉ h1c h2c h3c hd₉; exact absurd h9₉ (by omega)
    | succ fu ih61 =>
      intro c a b d h9₉ hc₉ h1c h2c h3c hd₉
      refine J.il6 dX8_shelfOf_61 ?_
      refine J.bipush dX8_shelfOf_63 kb_32 ?_
      refine J.icmp_geN (tgt := 132) dX8_shelfOf_65 (by decide) (by omega) (by omega) (fun c65₉ => ?_) (fun c65₉ => ?_)
      · refine J.il2 dX8_shelfOf_132 ?_
        refine J.if_neN (tgt := 140) dX8_shelfOf_133 (by decide) (by omega) (fun c133₉ => ?_) (fun c133₉ => absurd c133₉ (by first | omega | (simp only [not_true_eq_false, not_false_eq_true]; done) | (simp; done)))
        refine J.il2 dX8_shelfOf_140 ?_
        refine J.iconst dX8_shelfOf_141 kI_1 ?_
        refine J.icmp_neN (tgt := 150) dX8_shelfOf_142 (by decide) (by omega) (by omega) (fun c142₉ => absurd c142₉ (by first | omega | (simp only [not_true_eq_false, not_false_eq_true]; done) | (simp; done))) (fun c142₉ => ?_)
        refine J.il4 dX8_shelfOf_145 ?_
        refine J.goto (tgt := 165) dX8_shelfOf_147 (by decide) ?_
        refine J.iret rfl (by decide) (by decide) dX8_shelfOf_165 ⟨_, rfl, ?_, ?_⟩
        · rw [show c = 32 by omega] at h2c; rw [h2c]; exact congrArg (fun z => (Sum.inl (some (Value.int (nI z))) : Sum (Option Value) String)) (cnt_cong (fun k _ => Bool.and_comm _ _))
        · exact ⟨hMR₉.thr, wr_s, FrM.thr⟩
      · refine J.al0 dX8_shelfOf_68 ?_
        refine J.il1 dX8_shelfOf_69 ?_
        refine J.il6 dX8_shelfOf_70 ?_
        have hcy72₉ := cyL_le (aSh (qS α) i) c
        refine cl_X8_189 rfl (by decide) (k' := 0) (n' := 0) (c_m_cycleOf _ hi1₉ (MS.shr (MS.off hMR₉.1 (by simp only [wr_o (show (238 : Nat) ≠ 237 by decide)])) hi1₉ hfi₉) (hMR₉.1.vs.2.2.2.2 i hi1₉ hfi₉) (by omega)) ⟨⟨by decide, by decide⟩, ⟨rfl, rfl⟩, by decide, by decide⟩ rfl dX8_shelfOf_72 (fun μ9 h9₉ => ?_)
        rw [h9₉]; clear h9₉
        refine J.is7 dX8_shelfOf_75 (by decide) rfl ?_
        refine J.il3 dX8_shelfOf_77 ?_
        refine J.il7 dX8_shelfOf_78 ?_
        refine J.iconst dX8_shelfOf_80 kI_1 ?_
        refine J.icmp_leN (tgt := 88) dX8_shelfOf_81 (by decide) (by omega) (by omega) (fun c81₉ => ?_) (fun c81₉ => ?_)
        · refine J.iconst dX8_shelfOf_88 kI_0 ?_
          refine J.iaddN dX8_shelfOf_89 ?_
          refine J.is3 dX8_shelfOf_90 (by decide) rfl ?_
          refine J.il4 dX8_shelfOf_91 ?_
          refine J.il7 dX8_shelfOf_93 ?_
          refine J.iconst dX8_shelfOf_95 kI_1 ?_
          refine J.icmp_leN (tgt := 113) dX8_shelfOf_96 (by decide) (by omega) (by omega) (fun c96₉ => ?_) (fun c96₉ => ?_)
          · refine J.iconst dX8_shelfOf_113 kI_0 ?_
            refine J.iaddN dX8_shelfOf_114 ?_
            refine J.is4 dX8_shelfOf_115 (by decide) rfl ?_
            refine J.il5 dX8_shelfOf_117 ?_
            refine J.il7 dX8_shelfOf_119 ?_
            refine J.maxN t_1277 t_798 t_18 t_maxcode (by omega) (by omega) (by decide) (Nat.le_of_ble_eq_true rfl) (by decide) (by decide) dX8_shelfOf_121 ?_
            refine J.is5 dX8_shelfOf_124 (by decide) rfl ?_
            refine J.ii6 (z := 1) dX8_shelfOf_126 (by decide) (by decide) rfl ?_
            refine J.goto (tgt := 61) dX8_shelfOf_129 (by decide) ?_
            exact J.subR (ih61 (c + 1) (a + 0) (b + 0) (max d (cyL (aSh (qS α) i) c)) (by omega) (by omega) (by rw [cnt_1, h1c]; first | omega | rw [if_pos (decide_eq_true (by omega))] | rw [if_neg (by rw [decide_eq_false (by omega)]; decide)]) (by rw [cnt_1, h2c]; first | omega | rw [if_pos (by rw [decide_eq_true (by omega), c106₉]; rfl)] | rw [if_neg (by rw [decide_eq_false (show ¬ 1 < cyL (aSh (qS α) i) c by omega)]; simp)] | rw [if_neg (by simp only [Bool.and_eq_true]; exact fun q => c106₉ q.2)]) (by rw [h3c]; rfl) (by omega)) ⟨rfl, ⟨rfl, ⟨rfl, ⟨rfl, ⟨rfl, ⟨rfl, ⟨rfl, trivial⟩⟩⟩⟩⟩⟩⟩
          · refine J.al0 dX8_shelfOf_99 ?_
            refine J.il1 dX8_shelfOf_100 ?_
            refine J.il6 dX8_shelfOf_101 ?_
            refine cl_X8_192 rfl (by decide) (k' := 0) (n' := 0) (c_m_isLowest _ hi1₉ (MS.shr (MS.off hMR₉.1 (by simp only [wr_o (show (238 : Nat) ≠ 237 by decide)])) hi1₉ hfi₉) (hMR₉.1.vs.2.2.2.2 i hi1₉ hfi₉) (by omega)) ⟨⟨by decide, by decide⟩, ⟨rfl, rfl⟩, by decide, by decide⟩ rfl dX8_shelfOf_103 (fun μ9 h9₉ => ?_)
            rw [h9₉]; clear h9₉
            refine J.if_eqB (tgt := 113) dX8_shelfOf_106 (by decide) (fun c106₉ => ?_) (fun c106₉ => ?_)
            · refine J.iconst dX8_shelfOf_113 kI_0 ?_
              refine J.iaddN dX8_shelfOf_114 ?_
              refine J.is4 dX8_shelfOf_115 (by decide) rfl ?_
              refine J.il5 dX8_shelfOf_117 ?_
              refine J.il7 dX8_shelfOf_119 ?_
              refine J.maxN t_1277 t_798 t_18 t_maxcode (by omega) (by omega) (by decide) (Nat.le_of_ble_eq_true rfl) (by decide) (by decide) dX8_shelfOf_121 ?_
              refine J.is5 dX8_shelfOf_124 (by decide) rfl ?_
              refine J.ii6 (z := 1) dX8_shelfOf_126 (by decide) (by decide) rfl ?_
              refine J.goto (tgt := 61) dX8_shelfOf_129 (by decide) ?_
              exact J.subR (ih61 (c + 1) (a + 0) (b + 0) (max d (cyL (aSh (qS α) i) c)) (by omega) (by omega) (by rw [cnt_1, h1c]; first | omega | rw [if_pos (decide_eq_true (by omega))] | rw [if_neg (by rw [decide_eq_false (by omega)]; decide)]) (by rw [cnt_1, h2c]; first | omega | rw [if_pos (by rw [decide_eq_true (by omega), c106₉]; rfl)] | rw [if_neg (by rw [decide_eq_false (show ¬ 1 < cyL (aSh (qS α) i) c by omega)]; simp)] | rw [if_neg (by simp only [Bool.and_eq_true]; exact fun q => c106₉ q.2)]) (by rw [h3c]; rfl) (by omega)) ⟨rfl, ⟨rfl, ⟨rfl, ⟨rfl, ⟨rfl, ⟨rfl, ⟨rfl, trivial⟩⟩⟩⟩⟩⟩⟩
            · refine J.iconst dX8_shelfOf_109 kI_1 ?_
              refine J.goto (tgt := 114) dX8_shelfOf_110 (by decide) ?_
              refine J.iaddN dX8_shelfOf_114 ?_
              refine J.is4 dX8_shelfOf_115 (by decide) rfl ?_
              refine J.il5 dX8_shelfOf_117 ?_
              refine J.il7 dX8_shelfOf_119 ?_
              refine J.maxN t_1277 t_798 t_18 t_maxcode (by omega) (by omega) (by decide) (Nat.le_of_ble_eq_true rfl) (by decide) (by decide) dX8_shelfOf_121 ?_
              refine J.is5 dX8_shelfOf_124 (by decide) rfl ?_
              refine J.ii6 (z := 1) dX8_shelfOf_126 (by decide) (by decide) rfl ?_
              refine J.goto (tgt := 61) dX8_shelfOf_129 (by decide) ?_
              exact J.subR (ih61 (c + 1) (a + 0) (b + 1) (max d (cyL (aSh (qS α) i) c)) (by omega) (by omega) (by rw [cnt_1, h1c]; first | omega | rw [if_pos (decide_eq_true (by omega))] | rw [if_neg (by rw [decide_eq_false (by omega)]; decide)]) (by rw [cnt_1, h2c]; first | omega | rw [if_pos (by rw [decide_eq_true (by omega), c106₉]; rfl)] | rw [if_neg (by rw [decide_eq_false (show ¬ 1 < cyL (aSh (qS α) i) c by omega)]; simp)] | rw [if_neg (by simp only [Bool.and_eq_true]; exact fun q => c106₉ q.2)]) (by rw [h3c]; rfl) (by omega)) ⟨rfl, ⟨rfl, ⟨rfl, ⟨rfl, ⟨rfl, ⟨rfl, ⟨rfl, trivial⟩⟩⟩⟩⟩⟩⟩
        · refine J.iconst dX8_shelfOf_84 kI_1 ?_
          refine J.goto (tgt := 89) dX8_shelfOf_85 (by decide) ?_
          refine J.iaddN dX8_shelfOf_89 ?_
          refine J.is3 dX8_shelfOf_90 (by decide) rfl ?_
          refine J.il4 dX8_shelfOf_91 ?_
          refine J.il7 dX8_shelfOf_93 ?_
          refine J.iconst dX8_shelfOf_95 kI_1 ?_
          refine J.icmp_leN (tgt := 113) dX8_shelfOf_96 (by decide) (by omega) (by omega) (fun c96₉ => ?_) (fun c96₉ => ?_)
          · refine J.iconst dX8_shelfOf_113 kI_0 ?_
            refine J.iaddN dX8_shelfOf_114 ?_
            refine J.is4 dX8_shelfOf_115 (by decide) rfl ?_
            refine J.il5 dX8_shelfOf_117 ?_
            refine J.il7 dX8_shelfOf_119 ?_
            refine J.maxN t_1277 t_798 t_18 t_maxcode (by omega) (by omega) (by decide) (Nat.le_of_ble_eq_true rfl) (by decide) (by decide) dX8_shelfOf_121 ?_
            refine J.is5 dX8_shelfOf_124 (by decide) rfl ?_
            refine J.ii6 (z := 1) dX8_shelfOf_126 (by decide) (by decide) rfl ?_
            refine J.goto (tgt := 61) dX8_shelfOf_129 (by decide) ?_
            exact J.subR (ih61 (c + 1) (a + 1) (b + 0) (max d (cyL (aSh (qS α) i) c)) (by omega) (by omega) (by rw [cnt_1, h1c]; first | omega | rw [if_pos (decide_eq_true (by omega))] | rw [if_neg (by rw [decide_eq_false (by omega)]; decide)]) (by rw [cnt_1, h2c]; first | omega | rw [if_pos (by rw [decide_eq_true (by omega), c106₉]; rfl)] | rw [if_neg (by rw [decide_eq_false (show ¬ 1 < cyL (aSh (qS α) i) c by omega)]; simp)] | rw [if_neg (by simp only [Bool.and_eq_true]; exact fun q => c106₉ q.2)]) (by rw [h3c]; rfl) (by omega)) ⟨rfl, ⟨rfl, ⟨rfl, ⟨rfl, ⟨rfl, ⟨rfl, ⟨rfl, trivial⟩⟩⟩⟩⟩⟩⟩
          · refine J.al0 dX8_shelfOf_99 ?_
            refine J.il1 dX8_shelfOf_100 ?_
            refine J.il6 dX8_shelfOf_101 ?_
            refine cl_X8_192 rfl (by decide) (k' := 0) (n' := 0) (c_m_isLowest _ hi1₉ (MS.shr (MS.off hMR₉.1 (by simp only [wr_o (show (238 : Nat) ≠ 237 by decide)])) hi1₉ hfi₉) (hMR₉.1.vs.2.2.2.2 i hi1₉ hfi₉) (by omega)) ⟨⟨by decide, by decide⟩, ⟨rfl, rfl⟩, by decide, by decide⟩ rfl dX8_shelfOf_103 (fun μ9 h9₉ => ?_)
            rw [h9₉]; clear h9₉
            refine J.if_eqB (tgt := 113) dX8_shelfOf_106 (by decide) (fun c106₉ => ?_) (fun c106₉ => ?_)
            · refine J.iconst dX8_shelfOf_113 kI_0 ?_
              refine J.iaddN dX8_shelfOf_114 ?_
              refine J.is4 dX8_shelfOf_115 (by decide) rfl ?_
              refine J.il5 dX8_shelfOf_117 ?_
              refine J.il7 dX8_shelfOf_119 ?_
              refine J.maxN t_1277 t_798 t_18 t_maxcode (by omega) (by omega) (by decide) (Nat.le_of_ble_eq_true rfl) (by decide) (by decide) dX8_shelfOf_121 ?_
              refine J.is5 dX8_shelfOf_124 (by decide) rfl ?_
              refine J.ii6 (z := 1) dX8_shelfOf_126 (by decide) (by decide) rfl ?_
              refine J.goto (tgt := 61) dX8_shelfOf_129 (by decide) ?_
              exact J.subR (ih61 (c + 1) (a + 1) (b + 0) (max d (cyL (aSh (qS α) i) c)) (by omega) (by omega) (by rw [cnt_1, h1c]; first | omega | rw [if_pos (decide_eq_true (by omega))] | rw [if_neg (by rw [decide_eq_false (by omega)]; decide)]) (by rw [cnt_1, h2c]; first | omega | rw [if_pos (by rw [decide_eq_true (by omega), c106₉]; rfl)] | rw [if_neg (by rw [decide_eq_false (show ¬ 1 < cyL (aSh (qS α) i) c by omega)]; simp)] | rw [if_neg (by simp only [Bool.and_eq_true]; exact fun q => c106₉ q.2)]) (by rw [h3c]; rfl) (by omega)) ⟨rfl, ⟨rfl, ⟨rfl, ⟨rfl, ⟨rfl, ⟨rfl, ⟨rfl, trivial⟩⟩⟩⟩⟩⟩⟩
            · refine J.iconst dX8_shelfOf_109 kI_1 ?_
              refine J.goto (tgt := 114) dX8_shelfOf_110 (by decide) ?_
              refine J.iaddN dX8_shelfOf_114 ?_
              refine J.is4 dX8_shelfOf_115 (by decide) rfl ?_
              refine J.il5 dX8_shelfOf_117 ?_
              refine J.il7 dX8_shelfOf_119 ?_
              refine J.maxN t_1277 t_798 t_18 t_maxcode (by omega) (by omega) (by decide) (Nat.le_of_ble_eq_true rfl) (by decide) (by decide) dX8_shelfOf_121 ?_
              refine J.is5 dX8_shelfOf_124 (by decide) rfl ?_
              refine J.ii6 (z := 1) dX8_shelfOf_126 (by decide) (by decide) rfl ?_
              refine J.goto (tgt := 61) dX8_shelfOf_129 (by decide) ?_
              exact J.subR (ih61 (c + 1) (a + 1) (b + 1) (max d (cyL (aSh (qS α) i) c)) (by omega) (by omega) (by rw [cnt_1, h1c]; first | omega | rw [if_pos (decide_eq_true (by omega))] | rw [if_neg (by rw [decide_eq_false (by omega)]; decide)]) (by rw [cnt_1, h2c]; first | omega | rw [if_pos (by rw [decide_eq_true (by omega), c106₉]; rfl)] | rw [if_neg (by rw [decide_eq_false (show ¬ 1 < cyL (aSh (qS α) i) c by omega)]; simp)] | rw [if_neg (by simp only [Bool.and_eq_true]; exact fun q => c106₉ q.2)]) (by rw [h3c]; rfl) (by omega)) ⟨rfl, ⟨rfl, ⟨rfl, ⟨rfl, ⟨rfl, ⟨rfl, ⟨rfl, trivial⟩⟩⟩⟩⟩⟩⟩
  exact lp61_1 (33) 0 0 0 0 (by omega) (by omega) rfl rfl rfl (by omega)

set_option maxRecDepth 100000 in
set_option maxHeartbeats 4000000 in
theorem c_m_shelfOf2 {g : GP} {adr : Nat → Nat} (μ : Mem) {α : A7} (hMR₉ : MR μ α) {i : Nat} (hi1₉ : i < 5) (hfi₉ : aFl (qS α) i = true)  : CT g yX8_shelfOf mX8_shelfOf (RM 60 0 0) (WM g adr μ) [.ref (adr 237), .int (nI i), .int (nI 2)] (PM g adr ((.inl (some (.int (nI (mxU (cyL (aSh (qS α) i)) 32)))))) (fun μ' => MR μ' (α) ∧ μ' 237 6 = nI 0 ∧ FrM μ' μ)) := by
  refine CT.of (l0 := [some (.ref (adr 237)), some (.int (nI i)), some (.int (nI 2)), none, none, none, none, none]) (by decide +kernel) rfl (Nat.le_of_ble_eq_true rfl) rfl ?_
  have hBF₉ := (hMR₉.1.vs.2.2.2.2 i hi1₉ hfi₉)
  refine J.al0 dX8_shelfOf_0 ?_
  refine J.il1 dX8_shelfOf_1 ?_
  refine cl_X8_171 rfl (k' := 0) (n' := 0) (c_m_isShelfT _ (by omega)) ⟨⟨by decide, by decide⟩, ⟨rfl, rfl⟩, by decide, by decide⟩ rfl dX8_shelfOf_2 (fun μ9 h9₉ => ?_)
  rw [h9₉]; clear h9₉
  refine J.if_neN (tgt := 12) dX8_shelfOf_5 (by decide) (by omega) (fun c5₉ => ?_) (fun c5₉ => absurd c5₉ (by first | omega | (simp only [not_true_eq_false, not_false_eq_true]; done) | (simp; done)))
  refine J.il2 dX8_shelfOf_12 ?_
  refine J.iconst dX8_shelfOf_13 kI_0 ?_
  refine J.iconst dX8_shelfOf_14 kI_3 ?_
  refine cl_X8_93 rfl (k' := 0) (n' := 0) (inT _ (by decide) (by decide) (by decide)) ⟨⟨by decide, by decide⟩, ⟨rfl, rfl⟩, by decide, by decide⟩ rfl dX8_shelfOf_15 (fun μ9 h9₉ => ?_)
  rw [h9₉]; clear h9₉
  refine J.if_neN (tgt := 25) dX8_shelfOf_18 (by decide) (by omega) (fun c18₉ => ?_) (fun c18₉ => absurd c18₉ (by first | omega | (simp only [not_true_eq_false, not_false_eq_true]; done) | (simp; done)))
  refine J.al0 dX8_shelfOf_25 ?_
  refine J.il1 dX8_shelfOf_26 ?_
  refine cl_X8_177 rfl (by decide) (k' := 0) (n' := 0) (c_m_isEmptyF _ hMR₉.1 (by omega) hfi₉) ⟨⟨by decide, by decide⟩, ⟨rfl, rfl⟩, by decide, by decide⟩ rfl dX8_shelfOf_27 (fun μ9 h9₉ => ?_)
  rw [h9₉]; clear h9₉
  refine J.if_eqN (tgt := 37) dX8_shelfOf_30 (by decide) (by omega) (fun c30₉ => ?_) (fun c30₉ => absurd c30₉ (by first | omega | (simp only [not_true_eq_false, not_false_eq_true]; done) | (simp; done)))
  refine J.iconst dX8_shelfOf_37 kI_0 ?_
  refine pf_X8_42 rfl (by decide) dX8_shelfOf_38 ?_
  refine J.al0 dX8_shelfOf_41 ?_
  refine gf_X8_42 rfl (x := nI 0) (by decide) wr_s dX8_shelfOf_42 ?_
  refine J.if_leN (tgt := 50) dX8_shelfOf_45 (by decide) (by omega) (fun c45₉ => ?_) (fun c45₉ => absurd c45₉ (by first | omega | (simp only [not_true_eq_false, not_false_eq_true]; done) | (simp; done)))
  refine J.iconst dX8_shelfOf_50 kI_0 ?_
  refine J.is3 dX8_shelfOf_51 (by decide) rfl ?_
  refine J.iconst dX8_shelfOf_52 kI_0 ?_
  refine J.is4 dX8_shelfOf_53 (by decide) rfl ?_
  refine J.iconst dX8_shelfOf_55 kI_0 ?_
  refine J.is5 dX8_shelfOf_56 (by decide) rfl ?_
  refine J.iconst dX8_shelfOf_58 kI_0 ?_
  refine J.is6 dX8_shelfOf_59 (by decide) rfl ?_
  have lp61_1 : ∀ (fu : Nat) (c a b d : Nat), 32 < c + fu → c ≤ 32 → a = cnt (fun k => decide (1 < cyL (aSh (qS α) i) k)) c → b = cnt (fun k => decide (1 < cyL (aSh (qS α) i) k) && lowB (aSh (qS α) i) k) c → d = mx0 (cyL (aSh (qS α) i)) c → d ≤ 32 → J g mX8_shelfOf (RM 60 0 0) (MQx g (RM 60 0 0) (PM g adr ((.inl (some (.int (nI (mxU (cyL (aSh (qS α) i)) 32)))))) (fun μ' => MR μ' (α) ∧ μ' 237 6 = nI 0 ∧ FrM μ' μ))) 0 0 (WM g adr (wr μ 237 6 (nI 0))) 61 [some (.ref (adr 237)), some (.int (nI i)), some (.int (nI 2)), some (.int (nI a)), some (.int (nI b)), some (.int (nI d)), some (.int (nI c)), none] [] := by
    intro fu
    induction fu with
    | zero => intro c a b d h9₉ hc₉ h1c h2c h3c hd₉; exact absurd h9₉ (by omega)
    | succ fu ih61 =>
      intro c a b d h9₉ hc₉ h1c h2c h3c hd₉
      refine J.il6 dX8_shelfOf_61 ?_
      refine J.bipush dX8_shelfOf_63 kb_32 ?_
      refine J.icmp_geN (tgt := 132) dX8_shelfOf_65 (by decide) (by omega) (by omega) (fun c65₉ => ?_) (fun c65₉ => ?_)
      · refine J.il2 dX8_shelfOf_132 ?_
        refine J.if_neN (tgt := 140) dX8_shelfOf_133 (by decide) (by omega) (fun c133₉ => ?_) (fun c133₉ => absurd c133₉ (by first | omega | (simp only [not_true_eq_false, not_false_eq_true]; done) | (simp; done)))
        refine J.il2 dX8_shelfOf_140 ?_
        refine J.iconst dX8_shelfOf_141 kI_1 ?_
        refine J.icmp_neN (tgt := 150) dX8_shelfOf_142 (by decide) (by omega) (by omega) (fun c142₉ => ?_) (fun c142₉ => absurd c142₉ (by first | omega | (simp only [not_true_eq_false, not_false_eq_true]; done) | (simp; done)))
        refine J.il2 dX8_shelfOf_150 ?_
        refine J.iconst dX8_shelfOf_151 kI_2 ?_
        refine J.icmp_neN (tgt := 160) dX8_shelfOf_152 (by decide) (by omega) (by omega) (fun c152₉ => absurd c152₉ (by first | omega | (simp only [not_true_eq_false, not_false_eq_true]; done) | (simp; done))) (fun c152₉ => ?_)
        refine J.il5 dX8_shelfOf_155 ?_
        refine J.goto (tgt := 165) dX8_shelfOf_157 (by decide) ?_
        refine J.iret rfl (by decide) (by decide) dX8_shelfOf_165 ⟨_, rfl, ?_, ?_⟩
        · rw [show c = 32 by omega] at h3c; rw [h3c, mx_eq (fun k => (cyL_le _ k).1) 31]
        · exact ⟨hMR₉.thr, wr_s, FrM.thr⟩
      · refine J.al0 dX8_shelfOf_68 ?_
        refine J.il1 dX8_shelfOf_69 ?_
        refine J.il6 dX8_shelfOf_70 ?_
        have hcy72₉ := cyL_le (aSh (qS α) i) c
        refine cl_X8_189 rfl (by decide) (k' := 0) (n' := 0) (c_m_cycleOf _ hi1₉ (MS.shr (MS.off hMR₉.1 (by simp only [wr_o (show (238 : Nat) ≠ 237 by decide)])) hi1₉ hfi₉) (hMR₉.1.vs.2.2.2.2 i hi1₉ hfi₉) (by omega)) ⟨⟨by decide, by decide⟩, ⟨rfl, rfl⟩, by decide, by decide⟩ rfl dX8_shelfOf_72 (fun μ9 h9₉ => ?_)
        rw [h9₉]; clear h9₉
        refine J.is7 dX8_shelfOf_75 (by decide) rfl ?_
        refine J.il3 dX8_shelfOf_77 ?_
        refine J.il7 dX8_shelfOf_78 ?_
        refine J.iconst dX8_shelfOf_80 kI_1 ?_
        refine J.icmp_leN (tgt := 88) dX8_shelfOf_81 (by decide) (by omega) (by omega) (fun c81₉ => ?_) (fun c81₉ => ?_)
        · refine J.iconst dX8_shelfOf_88 kI_0 ?_
          refine J.iaddN dX8_shelfOf_89 ?_
          refine J.is3 dX8_shelfOf_90 (by decide) rfl ?_
          refine J.il4 dX8_shelfOf_91 ?_
          refine J.il7 dX8_shelfOf_93 ?_
          refine J.iconst dX8_shelfOf_95 kI_1 ?_
          refine J.icmp_leN (tgt := 113) dX8_shelfOf_96 (by decide) (by omega) (by omega) (fun c96₉ => ?_) (fun c96₉ => ?_)
          · refine J.iconst dX8_shelfOf_113 kI_0 ?_
            refine J.iaddN dX8_shelfOf_114 ?_
            refine J.is4 dX8_shelfOf_115 (by decide) rfl ?_
            refine J.il5 dX8_shelfOf_117 ?_
            refine J.il7 dX8_shelfOf_119 ?_
            refine J.maxN t_1277 t_798 t_18 t_maxcode (by omega) (by omega) (by decide) (Nat.le_of_ble_eq_true rfl) (by decide) (by decide) dX8_shelfOf_121 ?_
            refine J.is5 dX8_shelfOf_124 (by decide) rfl ?_
            refine J.ii6 (z := 1) dX8_shelfOf_126 (by decide) (by decide) rfl ?_
            refine J.goto (tgt := 61) dX8_shelfOf_129 (by decide) ?_
            exact J.subR (ih61 (c + 1) (a + 0) (b + 0) (max d (cyL (aSh (qS α) i) c)) (by omega) (by omega) (by rw [cnt_1, h1c]; first | omega | rw [if_pos (decide_eq_true (by omega))] | rw [if_neg (by rw [decide_eq_false (by omega)]; decide)]) (by rw [cnt_1, h2c]; first | omega | rw [if_pos (by rw [decide_eq_true (by omega), c106₉]; rfl)] | rw [if_neg (by rw [decide_eq_false (show ¬ 1 < cyL (aSh (qS α) i) c by omega)]; simp)] | rw [if_neg (by simp only [Bool.and_eq_true]; exact fun q => c106₉ q.2)]) (by rw [h3c]; rfl) (by omega)) ⟨rfl, ⟨rfl, ⟨rfl, ⟨rfl, ⟨rfl, ⟨rfl, ⟨rfl, trivial⟩⟩⟩⟩⟩⟩⟩
          · refine J.al0 dX8_shelfOf_99 ?_
            refine J.il1 dX8_shelfOf_100 ?_
            refine J.il6 dX8_shelfOf_101 ?_
            refine cl_X8_192 rfl (by decide) (k' := 0) (n' := 0) (c_m_isLowest _ hi1₉ (MS.shr (MS.off hMR₉.1 (by simp only [wr_o (show (238 : Nat) ≠ 237 by decide)])) hi1₉ hfi₉) (hMR₉.1.vs.2.2.2.2 i hi1₉ hfi₉) (by omega)) ⟨⟨by decide, by decide⟩, ⟨rfl, rfl⟩, by decide, by decide⟩ rfl dX8_shelfOf_103 (fun μ9 h9₉ => ?_)
            rw [h9₉]; clear h9₉
            refine J.if_eqB (tgt := 113) dX8_shelfOf_106 (by decide) (fun c106₉ => ?_) (fun c106₉ => ?_)
            · refine J.iconst dX8_shelfOf_113 kI_0 ?_
              refine J.iaddN dX8_shelfOf_114 ?_
              refine J.is4 dX8_shelfOf_115 (by decide) rfl ?_
              refine J.il5 dX8_shelfOf_117 ?_
              refine J.il7 dX8_shelfOf_119 ?_
              refine J.maxN t_1277 t_798 t_18 t_maxcode (by omega) (by omega) (by decide) (Nat.le_of_ble_eq_true rfl) (by decide) (by decide) dX8_shelfOf_121 ?_
              refine J.is5 dX8_shelfOf_124 (by decide) rfl ?_
              refine J.ii6 (z := 1) dX8_shelfOf_126 (by decide) (by decide) rfl ?_
              refine J.goto (tgt := 61) dX8_shelfOf_129 (by decide) ?_
              exact J.subR (ih61 (c + 1) (a + 0) (b + 0) (max d (cyL (aSh (qS α) i) c)) (by omega) (by omega) (by rw [cnt_1, h1c]; first | omega | rw [if_pos (decide_eq_true (by omega))] | rw [if_neg (by rw [decide_eq_false (by omega)]; decide)]) (by rw [cnt_1, h2c]; first | omega | rw [if_pos (by rw [decide_eq_true (by omega), c106₉]; rfl)] | rw [if_neg (by rw [decide_eq_false (show ¬ 1 < cyL (aSh (qS α) i) c by omega)]; simp)] | rw [if_neg (by simp only [Bool.and_eq_true]; exact fun q => c106₉ q.2)]) (by rw [h3c]; rfl) (by omega)) ⟨rfl, ⟨rfl, ⟨rfl, ⟨rfl, ⟨rfl, ⟨rfl, ⟨rfl, trivial⟩⟩⟩⟩⟩⟩⟩
            · refine J.iconst dX8_shelfOf_109 kI_1 ?_
              refine J.goto (tgt := 114) dX8_shelfOf_110 (by decide) ?_
              refine J.iaddN dX8_shelfOf_114 ?_
              refine J.is4 dX8_shelfOf_115 (by decide) rfl ?_
              refine J.il5 dX8_shelfOf_117 ?_
              refine J.il7 dX8_shelfOf_119 ?_
              refine J.maxN t_1277 t_798 t_18 t_maxcode (by omega) (by omega) (by decide) (Nat.le_of_ble_eq_true rfl) (by decide) (by decide) dX8_shelfOf_121 ?_
              refine J.is5 dX8_shelfOf_124 (by decide) rfl ?_
              refine J.ii6 (z := 1) dX8_shelfOf_126 (by decide) (by decide) rfl ?_
              refine J.goto (tgt := 61) dX8_shelfOf_129 (by decide) ?_
              exact J.subR (ih61 (c + 1) (a + 0) (b + 1) (max d (cyL (aSh (qS α) i) c)) (by omega) (by omega) (by rw [cnt_1, h1c]; first | omega | rw [if_pos (decide_eq_true (by omega))] | rw [if_neg (by rw [decide_eq_false (by omega)]; decide)]) (by rw [cnt_1, h2c]; first | omega | rw [if_pos (by rw [decide_eq_true (by omega), c106₉]; rfl)] | rw [if_neg (by rw [decide_eq_false (show ¬ 1 < cyL (aSh (qS α) i) c by omega)]; simp)] | rw [if_neg (by simp only [Bool.and_eq_true]; exact fun q => c106₉ q.2)]) (by rw [h3c]; rfl) (by omega)) ⟨rfl, ⟨rfl, ⟨rfl, ⟨rfl, ⟨rfl, ⟨rfl, ⟨rfl, trivial⟩⟩⟩⟩⟩⟩⟩
        · refine J.iconst dX8_shelfOf_84 kI_1 ?_
          refine J.goto (tgt := 89) dX8_shelfOf_85 (by decide) ?_
          refine J.iaddN dX8_shelfOf_89 ?_
          refine J.is3 dX8_shelfOf_90 (by decide) rfl ?_
          refine J.il4 dX8_shelfOf_91 ?_
          refine J.il7 dX8_shelfOf_93 ?_
          refine J.iconst dX8_shelfOf_95 kI_1 ?_
          refine J.icmp_leN (tgt := 113) dX8_shelfOf_96 (by decide) (by omega) (by omega) (fun c96₉ => ?_) (fun c96₉ => ?_)
          · refine J.iconst dX8_shelfOf_113 kI_0 ?_
            refine J.iaddN dX8_shelfOf_114 ?_
            refine J.is4 dX8_shelfOf_115 (by decide) rfl ?_
            refine J.il5 dX8_shelfOf_117 ?_
            refine J.il7 dX8_shelfOf_119 ?_
            refine J.maxN t_1277 t_798 t_18 t_maxcode (by omega) (by omega) (by decide) (Nat.le_of_ble_eq_true rfl) (by decide) (by decide) dX8_shelfOf_121 ?_
            refine J.is5 dX8_shelfOf_124 (by decide) rfl ?_
            refine J.ii6 (z := 1) dX8_shelfOf_126 (by decide) (by decide) rfl ?_
            refine J.goto (tgt := 61) dX8_shelfOf_129 (by decide) ?_
            exact J.subR (ih61 (c + 1) (a + 1) (b + 0) (max d (cyL (aSh (qS α) i) c)) (by omega) (by omega) (by rw [cnt_1, h1c]; first | omega | rw [if_pos (decide_eq_true (by omega))] | rw [if_neg (by rw [decide_eq_false (by omega)]; decide)]) (by rw [cnt_1, h2c]; first | omega | rw [if_pos (by rw [decide_eq_true (by omega), c106₉]; rfl)] | rw [if_neg (by rw [decide_eq_false (show ¬ 1 < cyL (aSh (qS α) i) c by omega)]; simp)] | rw [if_neg (by simp only [Bool.and_eq_true]; exact fun q => c106₉ q.2)]) (by rw [h3c]; rfl) (by omega)) ⟨rfl, ⟨rfl, ⟨rfl, ⟨rfl, ⟨rfl, ⟨rfl, ⟨rfl, trivial⟩⟩⟩⟩⟩⟩⟩
          · refine J.al0 dX8_shelfOf_99 ?_
            refine J.il1 dX8_shelfOf_100 ?_
            refine J.il6 dX8_shelfOf_101 ?_
            refine cl_X8_192 rfl (by decide) (k' := 0) (n' := 0) (c_m_isLowest _ hi1₉ (MS.shr (MS.off hMR₉.1 (by simp only [wr_o (show (238 : Nat) ≠ 237 by decide)])) hi1₉ hfi₉) (hMR₉.1.vs.2.2.2.2 i hi1₉ hfi₉) (by omega)) ⟨⟨by decide, by decide⟩, ⟨rfl, rfl⟩, by decide, by decide⟩ rfl dX8_shelfOf_103 (fun μ9 h9₉ => ?_)
            rw [h9₉]; clear h9₉
            refine J.if_eqB (tgt := 113) dX8_shelfOf_106 (by decide) (fun c106₉ => ?_) (fun c106₉ => ?_)
            · refine J.iconst dX8_shelfOf_113 kI_0 ?_
              refine J.iaddN dX8_shelfOf_114 ?_
              refine J.is4 dX8_shelfOf_115 (by decide) rfl ?_
              refine J.il5 dX8_shelfOf_117 ?_
              refine J.il7 dX8_shelfOf_119 ?_
              refine J.maxN t_1277 t_798 t_18 t_maxcode (by omega) (by omega) (by decide) (Nat.le_of_ble_eq_true rfl) (by decide) (by decide) dX8_shelfOf_121 ?_
              refine J.is5 dX8_shelfOf_124 (by decide) rfl ?_
              refine J.ii6 (z := 1) dX8_shelfOf_126 (by decide) (by decide) rfl ?_
              refine J.goto (tgt := 61) dX8_shelfOf_129 (by decide) ?_
              exact J.subR (ih61 (c + 1) (a + 1) (b + 0) (max d (cyL (aSh (qS α) i) c)) (by omega) (by omega) (by rw [cnt_1, h1c]; first | omega | rw [if_pos (decide_eq_true (by omega))] | rw [if_neg (by rw [decide_eq_false (by omega)]; decide)]) (by rw [cnt_1, h2c]; first | omega | rw [if_pos (by rw [decide_eq_true (by omega), c106₉]; rfl)] | rw [if_neg (by rw [decide_eq_false (show ¬ 1 < cyL (aSh (qS α) i) c by omega)]; simp)] | rw [if_neg (by simp only [Bool.and_eq_true]; exact fun q => c106₉ q.2)]) (by rw [h3c]; rfl) (by omega)) ⟨rfl, ⟨rfl, ⟨rfl, ⟨rfl, ⟨rfl, ⟨rfl, ⟨rfl, trivial⟩⟩⟩⟩⟩⟩⟩
            · refine J.iconst dX8_shelfOf_109 kI_1 ?_
              refine J.goto (tgt := 114) dX8_shelfOf_110 (by decide) ?_
              refine J.iaddN dX8_shelfOf_114 ?_
              refine J.is4 dX8_shelfOf_115 (by decide) rfl ?_
              refine J.il5 dX8_shelfOf_117 ?_
              refine J.il7 dX8_shelfOf_119 ?_
              refine J.maxN t_1277 t_798 t_18 t_maxcode (by omega) (by omega) (by decide) (Nat.le_of_ble_eq_true rfl) (by decide) (by decide) dX8_shelfOf_121 ?_
              refine J.is5 dX8_shelfOf_124 (by decide) rfl ?_
              refine J.ii6 (z := 1) dX8_shelfOf_126 (by decide) (by decide) rfl ?_
              refine J.goto (tgt := 61) dX8_shelfOf_129 (by decide) ?_
              exact J.subR (ih61 (c + 1) (a + 1) (b + 1) (max d (cyL (aSh (qS α) i) c)) (by omega) (by omega) (by rw [cnt_1, h1c]; first | omega | rw [if_pos (decide_eq_true (by omega))] | rw [if_neg (by rw [decide_eq_false (by omega)]; decide)]) (by rw [cnt_1, h2c]; first | omega | rw [if_pos (by rw [decide_eq_true (by omega), c106₉]; rfl)] | rw [if_neg (by rw [decide_eq_false (show ¬ 1 < cyL (aSh (qS α) i) c by omega)]; simp)] | rw [if_neg (by simp only [Bool.and_eq_true]; exact fun q => c106₉ q.2)]) (by rw [h3c]; rfl) (by omega)) ⟨rfl, ⟨rfl, ⟨rfl, ⟨rfl, ⟨rfl, ⟨rfl, ⟨rfl, trivial⟩⟩⟩⟩⟩⟩⟩
  exact lp61_1 (33) 0 0 0 0 (by omega) (by omega) rfl rfl rfl (by omega)
