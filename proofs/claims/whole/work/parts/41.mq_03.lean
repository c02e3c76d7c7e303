/-! ===== printed: the model: what is asked ===== -/
set_option maxRecDepth 100000 in
set_option maxHeartbeats 4000000 in
theorem c_m_cycleX1 {g : GP} {adr : Nat → Nat} (μ : Mem) {α : A7} (hMR₉ : MR μ α) {i : Nat} (hi1₉ : i < 5) {j : Int32} (hx₉ : ¬ (0 ≤ j ∧ j < nI 32)) : CT g yX8_cycle mX8_cycle (RM 60 0 0) (WM g adr μ) [.ref (adr 237), .int (nI i), .int j] (PM g adr ((.inl (some (.int (nI 0))))) (fun μ' => MR μ' (α) ∧ μ' 237 6 = nI 1 ∧ FrM μ' μ)) := by
  refine CT.of (l0 := [some (.ref (adr 237)), some (.int (nI i)), some (.int j)]) (by decide +kernel) rfl (Nat.le_of_ble_eq_true rfl) rfl ?_
  refine J.al0 dX8_cycle_0 ?_
  refine J.il1 dX8_cycle_1 ?_
  refine cl_X8_171 rfl (k' := 0) (n' := 0) (c_m_isShelfT _ (by omega)) ⟨⟨by decide, by decide⟩, ⟨rfl, rfl⟩, by decide, by decide⟩ rfl dX8_cycle_2 (fun μ9 h9₉ => ?_)
  rw [h9₉]; clear h9₉
  refine J.if_eqN (tgt := 15) dX8_cycle_5 (by decide) (by omega) (fun c5₉ => absurd c5₉ (by first | omega | (simp only [not_true_eq_false, not_false_eq_true]; done) | (simp; done))) (fun c5₉ => ?_)
  refine J.il2 dX8_cycle_8 ?_
  refine cl_X8_115 rfl (k' := 0) (n' := 0) (c_m_isSlotF _ hx₉) ⟨⟨by decide, by decide⟩, ⟨rfl, rfl⟩, by decide, by decide⟩ rfl dX8_cycle_9 (fun μ9 h9₉ => ?_)
  rw [h9₉]; clear h9₉
  refine J.if_neN (tgt := 19) dX8_cycle_12 (by decide) (by omega) (fun c12₉ => absurd c12₉ (by first | omega | (simp only [not_true_eq_false, not_false_eq_true]; done) | (simp; done))) (fun c12₉ => ?_)
  refine J.iconst dX8_cycle_15 kI_1 ?_
  refine J.goto (tgt := 32) dX8_cycle_16 (by decide) ?_
  refine pf_X8_42 rfl (by decide) dX8_cycle_32 ?_
  refine J.al0 dX8_cycle_35 ?_
  refine gf_X8_42 rfl (x := nI 1) (by decide) wr_s dX8_cycle_36 ?_
  refine J.if_leN (tgt := 46) dX8_cycle_39 (by decide) (by omega) (fun c39₉ => absurd c39₉ (by first | omega | (simp only [not_true_eq_false, not_false_eq_true]; done) | (simp; done))) (fun c39₉ => ?_)
  refine J.iconst dX8_cycle_42 kI_0 ?_
  refine J.goto (tgt := 52) dX8_cycle_43 (by decide) ?_
  refine J.iret rfl (by decide) (by decide) dX8_cycle_52 ⟨_, rfl, ?_, ?_⟩
  · rfl
  · exact ⟨hMR₉.thr, wr_s, FrM.thr⟩

set_option maxRecDepth 100000 in
set_option maxHeartbeats 4000000 in
theorem c_m_cycleX2 {g : GP} {adr : Nat → Nat} (μ : Mem) {α : A7} (hMR₉ : MR μ α) {i : Nat} (hi1₉ : i < 5) {j : Nat} (hj1₉ : j < 32) (hx₉ : ¬ aFl (qS α) i = true) : CT g yX8_cycle mX8_cycle (RM 60 0 0) (WM g adr μ) [.ref (adr 237), .int (nI i), .int (nI j)] (PM g adr ((.inl (some (.int (nI 0))))) (fun μ' => MR μ' (α) ∧ μ' 237 6 = nI 2 ∧ FrM μ' μ)) := by
  refine CT.of (l0 := [some (.ref (adr 237)), some (.int (nI i)), some (.int (nI j))]) (by decide +kernel) rfl (Nat.le_of_ble_eq_true rfl) rfl ?_
  refine J.al0 dX8_cycle_0 ?_
  refine J.il1 dX8_cycle_1 ?_
  refine cl_X8_171 rfl (k' := 0) (n' := 0) (c_m_isShelfT _ (by omega)) ⟨⟨by decide, by decide⟩, ⟨rfl, rfl⟩, by decide, by decide⟩ rfl dX8_cycle_2 (fun μ9 h9₉ => ?_)
  rw [h9₉]; clear h9₉
  refine J.if_eqN (tgt := 15) dX8_cycle_5 (by decide) (by omega) (fun c5₉ => absurd c5₉ (by first | omega | (simp only [not_true_eq_false, not_false_eq_true]; done) | (simp; done))) (fun c5₉ => ?_)
  refine J.il2 dX8_cycle_8 ?_
  refine cl_X8_115 rfl (k' := 0) (n' := 0) (c_m_isSlotT _ (by omega)) ⟨⟨by decide, by decide⟩, ⟨rfl, rfl⟩, by decide, by decide⟩ rfl dX8_cycle_9 (fun μ9 h9₉ => ?_)
  rw [h9₉]; clear h9₉
  refine J.if_neN (tgt := 19) dX8_cycle_12 (by decide) (by omega) (fun c12₉ => ?_) (fun c12₉ => absurd c12₉ (by first | omega | (simp only [not_true_eq_false, not_false_eq_true]; done) | (simp; done)))
  refine J.al0 dX8_cycle_19 ?_
  refine J.il1 dX8_cycle_20 ?_
  refine cl_X8_177 rfl (by decide) (k' := 0) (n' := 0) (c_m_isEmptyT _ hMR₉.1 (by omega) hx₉) ⟨⟨by decide, by decide⟩, ⟨rfl, rfl⟩, by decide, by decide⟩ rfl dX8_cycle_21 (fun μ9 h9₉ => ?_)
  rw [h9₉]; clear h9₉
  refine J.if_eqN (tgt := 31) dX8_cycle_24 (by decide) (by omega) (fun c24₉ => absurd c24₉ (by first | omega | (simp only [not_true_eq_false, not_false_eq_true]; done) | (simp; done))) (fun c24₉ => ?_)
  refine J.iconst dX8_cycle_27 kI_2 ?_
  refine J.goto (tgt := 32) dX8_cycle_28 (by decide) ?_
  refine pf_X8_42 rfl (by decide) dX8_cycle_32 ?_
  refine J.al0 dX8_cycle_35 ?_
  refine gf_X8_42 rfl (x := nI 2) (by decide) wr_s dX8_cycle_36 ?_
  refine J.if_leN (tgt := 46) dX8_cycle_39 (by decide) (by omega) (fun c39₉ => absurd c39₉ (by first | omega | (simp only [not_true_eq_false, not_false_eq_true]; done) | (simp; done))) (fun c39₉ => ?_)
  refine J.iconst dX8_cycle_42 kI_0 ?_
  refine J.goto (tgt := 52) dX8_cycle_43 (by decide) ?_
  refine J.iret rfl (by decide) (by decide) dX8_cycle_52 ⟨_, rfl, ?_, ?_⟩
  · rfl
  · exact ⟨hMR₉.thr, wr_s, FrM.thr⟩

set_option maxRecDepth 100000 in
set_option maxHeartbeats 4000000 in
theorem c_m_cycle {g : GP} {adr : Nat → Nat} (μ : Mem) {α : A7} (hMR₉ : MR μ α) {i : Nat} (hi1₉ : i < 5) {j : Nat} (hj1₉ : j < 32) (hfi₉ : aFl (qS α) i = true)  : CT g yX8_cycle mX8_cycle (RM 60 0 0) (WM g adr μ) [.ref (adr 237), .int (nI i), .int (nI j)] (PM g adr ((.inl (some (.int (nI (cyL (aSh (qS α) i) j)))))) (fun μ' => MR μ' (α) ∧ μ' 237 6 = nI 0 ∧ FrM μ' μ)) := by
  refine CT.of (l0 := [some (.ref (adr 237)), some (.int (nI i)), some (.int (nI j))]) (by decide +kernel) rfl (Nat.le_of_ble_eq_true rfl) rfl ?_
  refine J.al0 dX8_cycle_0 ?_
  refine J.il1 dX8_cycle_1 ?_
  refine cl_X8_171 rfl (k' := 0) (n' := 0) (c_m_isShelfT _ (by omega)) ⟨⟨by decide, by decide⟩, ⟨rfl, rfl⟩, by decide, by decide⟩ rfl dX8_cycle_2 (fun μ9 h9₉ => ?_)
  rw [h9₉]; clear h9₉
  refine J.if_eqN (tgt := 15) dX8_cycle_5 (by decide) (by omega) (fun c5₉ => absurd c5₉ (by first | omega | (simp only [not_true_eq_false, not_false_eq_true]; done) | (simp; done))) (fun c5₉ => ?_)
  refine J.il2 dX8_cycle_8 ?_
  refine cl_X8_115 rfl (k' := 0) (n' := 0) (c_m_isSlotT _ (by omega)) ⟨⟨by decide, by decide⟩, ⟨rfl, rfl⟩, by decide, by decide⟩ rfl dX8_cycle_9 (fun μ9 h9₉ => ?_)
  rw [h9₉]; clear h9₉
  refine J.if_neN (tgt := 19) dX8_cycle_12 (by decide) (by omega) (fun c12₉ => ?_) (fun c12₉ => absurd c12₉ (by first | omega | (simp only [not_true_eq_false, not_false_eq_true]; done) | (simp; done)))
  refine J.al0 dX8_cycle_19 ?_
  refine J.il1 dX8_cycle_20 ?_
  refine cl_X8_177 rfl (by decide) (k' := 0) (n' := 0) (c_m_isEmptyF _ hMR₉.1 (by omega) hfi₉) ⟨⟨by decide, by decide⟩, ⟨rfl, rfl⟩, by decide, by decide⟩ rfl dX8_cycle_21 (fun μ9 h9₉ => ?_)
  rw [h9₉]; clear h9₉
  refine J.if_eqN (tgt := 31) dX8_cycle_24 (by decide) (by omega) (fun c24₉ => ?_) (fun c24₉ => absurd c24₉ (by first | omega | (simp only [not_true_eq_false, not_false_eq_true]; done) | (simp; done)))
  refine J.iconst dX8_cycle_31 kI_0 ?_
  refine pf_X8_42 rfl (by decide) dX8_cycle_32 ?_
  refine J.al0 dX8_cycle_35 ?_
  refine gf_X8_42 rfl (x := nI 0) (by decide) wr_s dX8_cycle_36 ?_
  refine J.if_leN (tgt := 46) dX8_cycle_39 (by decide) (by omega) (fun c39₉ => ?_) (fun c39₉ => absurd c39₉ (by first | omega | (simp only [not_true_eq_false, not_false_eq_true]; done) | (simp; done)))
  refine J.al0 dX8_cycle_46 ?_
  refine J.il1 dX8_cycle_47 ?_
  refine J.il2 dX8_cycle_48 ?_
  have hcy49₉ := cyL_le (aSh (qS α) i) j
  refine cl_X8_189 rfl (by decide) (k' := 0) (n' := 0) (c_m_cycleOf _ hi1₉ (MS.shr (MS.off hMR₉.1 (by simp only [wr_o (show (238 : Nat) ≠ 237 by decide)])) hi1₉ hfi₉) (hMR₉.1.vs.2.2.2.2 i hi1₉ hfi₉) (by omega)) ⟨⟨by decide, by decide⟩, ⟨rfl, rfl⟩, by decide, by decide⟩ rfl dX8_cycle_49 (fun μ9 h9₉ => ?_)
  rw [h9₉]; clear h9₉
  refine J.iret rfl (by decide) (by decide) dX8_cycle_52 ⟨_, rfl, ?_, ?_⟩
  · rfl
  · exact ⟨hMR₉.thr, wr_s, FrM.thr⟩

set_option maxRecDepth 100000 in
set_option maxHeartbeats 4000000 in
theorem c_m_orderAgainX0 {g : GP} {adr : Nat → Nat} (μ : Mem) {α : A7} (hMR₉ : MR μ α) {i : Int32} (hx₉ : ¬ (0 ≤ i ∧ i < nI 5)) : CT g yX8_orderAgain mX8_orderAgain (RM 60 0 0) (WM g adr μ) [.ref (adr 237), .int i] (PM g adr ((.inl (some (.int (nI 0))))) (fun μ' => MR μ' (α) ∧ μ' 237 6 = nI 1 ∧ FrM μ' μ)) := by
  refine CT.of (l0 := [some (.ref (adr 237)), some (.int i)]) (by decide +kernel) rfl (Nat.le_of_ble_eq_true rfl) rfl ?_
  refine J.al0 dX8_orderAgain_0 ?_
  refine J.il1 dX8_orderAgain_1 ?_
  refine cl_X8_171 rfl (k' := 0) (n' := 0) (c_m_isShelfF _ hx₉) ⟨⟨by decide, by decide⟩, ⟨rfl, rfl⟩, by decide, by decide⟩ rfl dX8_orderAgain_2 (fun μ9 h9₉ => ?_)
  rw [h9₉]; clear h9₉
  refine J.if_neN (tgt := 12) dX8_orderAgain_5 (by decide) (by omega) (fun c5₉ => absurd c5₉ (by first | omega | (simp only [not_true_eq_false, not_false_eq_true]; done) | (simp; done))) (fun c5₉ => ?_)
  refine J.iconst dX8_orderAgain_8 kI_1 ?_
  refine J.goto (tgt := 25) dX8_orderAgain_9 (by decide) ?_
  refine pf_X8_42 rfl (by decide) dX8_orderAgain_25 ?_
  refine J.al0 dX8_orderAgain_28 ?_
  refine gf_X8_42 rfl (x := nI 1) (by decide) wr_s dX8_orderAgain_29 ?_
  refine J.if_leN (tgt := 39) dX8_orderAgain_32 (by decide) (by omega) (fun c32₉ => absurd c32₉ (by first | omega | (simp only [not_true_eq_false, not_false_eq_true]; done) | (simp; done))) (fun c32₉ => ?_)
  refine J.iconst dX8_orderAgain_35 kI_0 ?_
  refine J.goto (tgt := 44) dX8_orderAgain_36 (by decide) ?_
  refine J.iret rfl (by decide) (by decide) dX8_orderAgain_44 ⟨_, rfl, ?_, ?_⟩
  · rfl
  · exact ⟨hMR₉.thr, wr_s, FrM.thr⟩

set_option maxRecDepth 100000 in
set_option maxHeartbeats 4000000 in
theorem c_m_orderAgainX1 {g : GP} {adr : Nat → Nat} (μ : Mem) {α : A7} (hMR₉ : MR μ α) {i : Nat} (hi1₉ : i < 5) (hx₉ : ¬ aFl (qS α) i = true) : CT g yX8_orderAgain mX8_orderAgain (RM 60 0 0) (WM g adr μ) [.ref (adr 237), .int (nI i)] (PM g adr ((.inl (some (.int (nI 0))))) (fun μ' => MR μ' (α) ∧ μ' 237 6 = nI 2 ∧ FrM μ' μ)) := by
  refine CT.of (l0 := [some (.ref (adr 237)), some (.int (nI i))]) (by decide +kernel) rfl (Nat.le_of_ble_eq_true rfl) rfl ?_
  refine J.al0 dX8_orderAgain_0 ?_
  refine J.il1 dX8_orderAgain_1 ?_
  refine cl_X8_171 rfl (k' := 0) (n' := 0) (c_m_isShelfT _ (by omega)) ⟨⟨by decide, by decide⟩, ⟨rfl, rfl⟩, by decide, by decide⟩ rfl dX8_orderAgain_2 (fun μ9 h9₉ => ?_)
  rw [h9₉]; clear h9₉
  refine J.if_neN (tgt := 12) dX8_orderAgain_5 (by decide) (by omega) (fun c5₉ => ?_) (fun c5₉ => absurd c5₉ (by first | omega | (simp only [not_true_eq_false, not_false_eq_true]; done) | (simp; done)))
  refine J.al0 dX8_orderAgain_12 ?_
  refine J.il1 dX8_orderAgain_13 ?_
  refine cl_X8_177 rfl (by decide) (k' := 0) (n' := 0) (c_m_isEmptyT _ hMR₉.1 (by omega) hx₉) ⟨⟨by decide, by decide⟩, ⟨rfl, rfl⟩, by decide, by decide⟩ rfl dX8_orderAgain_14 (fun μ9 h9₉ => ?_)
  rw [h9₉]; clear h9₉
  refine J.if_eqN (tgt := 24) dX8_orderAgain_17 (by decide) (by omega) (fun c17₉ => absurd c17₉ (by first | omega | (simp only [not_true_eq_false, not_false_eq_true]; done) | (simp; done))) (fun c17₉ => ?_)
  refine J.iconst dX8_orderAgain_20 kI_2 ?_
  refine J.goto (tgt := 25) dX8_orderAgain_21 (by decide) ?_
  refine pf_X8_42 rfl (by decide) dX8_orderAgain_25 ?_
  refine J.al0 dX8_orderAgain_28 ?_
  refine gf_X8_42 rfl (x := nI 2) (by decide) wr_s dX8_orderAgain_29 ?_
  refine J.if_leN (tgt := 39) dX8_orderAgain_32 (by decide) (by omega) (fun c32₉ => absurd c32₉ (by first | omega | (simp only [not_true_eq_false, not_false_eq_true]; done) | (simp; done))) (fun c32₉ => ?_)
  refine J.iconst dX8_orderAgain_35 kI_0 ?_
  refine J.goto (tgt := 44) dX8_orderAgain_36 (by decide) ?_
  refine J.iret rfl (by decide) (by decide) dX8_orderAgain_44 ⟨_, rfl, ?_, ?_⟩
  · rfl
  · exact ⟨hMR₉.thr, wr_s, FrM.thr⟩

set_option maxRecDepth 100000 in
set_option maxHeartbeats 4000000 in
theorem c_m_orderAgain {g : GP} {adr : Nat → Nat} (μ : Mem) {α : A7} (hMR₉ : MR μ α) {i : Nat} (hi1₉ : i < 5) (hfi₉ : aFl (qS α) i = true)  : CT g yX8_orderAgain mX8_orderAgain (RM 60 0 0) (WM g adr μ) [.ref (adr 237), .int (nI i)] (PM g adr ((.inl (some (.int (nI (ordL (aSh (qS α) i) 32)))))) (fun μ' => MR μ' (α) ∧ μ' 237 6 = nI 0 ∧ FrM μ' μ)) := by
  refine CT.of (l0 := [some (.ref (adr 237)), some (.int (nI i))]) (by decide +kernel) rfl (Nat.le_of_ble_eq_true rfl) rfl ?_
  refine J.al0 dX8_orderAgain_0 ?_
  refine J.il1 dX8_orderAgain_1 ?_
  refine cl_X8_171 rfl (k' := 0) (n' := 0) (c_m_isShelfT _ (by omega)) ⟨⟨by decide, by decide⟩, ⟨rfl, rfl⟩, by decide, by decide⟩ rfl dX8_orderAgain_2 (fun μ9 h9₉ => ?_)
  rw [h9₉]; clear h9₉
  refine J.if_neN (tgt := 12) dX8_orderAgain_5 (by decide) (by omega) (fun c5₉ => ?_) (fun c5₉ => absurd c5₉ (by first | omega | (simp only [not_true_eq_false, not_false_eq_true]; done) | (simp; done)))
  refine J.al0 dX8_orderAgain_12 ?_
  refine J.il1 dX8_orderAgain_13 ?_
  refine cl_X8_177 rfl (by decide) (k' := 0) (n' := 0) (c_m_isEmptyF _ hMR₉.1 (by omega) hfi₉) ⟨⟨by decide, by decide⟩, ⟨rfl, rfl⟩, by decide, by decide⟩ rfl dX8_orderAgain_14 (fun μ9 h9₉ => ?_)
  rw [h9₉]; clear h9₉
  refine J.if_eqN (tgt := 24) dX8_orderAgain_17 (by decide) (by omega) (fun c17₉ => ?_) (fun c17₉ => absurd c17₉ (by first | omega | (simp only [not_true_eq_false, not_false_eq_true]; done) | (simp; done)))
  refine J.iconst dX8_orderAgain_24 kI_0 ?_
  refine pf_X8_42 rfl (by decide) dX8_orderAgain_25 ?_
  refine J.al0 dX8_orderAgain_28 ?_
  refine gf_X8_42 rfl (x := nI 0) (by decide) wr_s dX8_orderAgain_29 ?_
  refine J.if_leN (tgt := 39) dX8_orderAgain_32 (by decide) (by omega) (fun c32₉ => ?_) (fun c32₉ => absurd c32₉ (by first | omega | (simp only [not_true_eq_false, not_false_eq_true]; done) | (simp; done)))
  refine J.al0 dX8_orderAgain_39 ?_
  refine J.il1 dX8_orderAgain_40 ?_
  refine cl_X8_201 rfl (by decide) (k' := 0) (n' := 0) (c_m_order _ hi1₉ (MS.shr (MS.off hMR₉.1 (by simp only [wr_o (show (238 : Nat) ≠ 237 by decide)])) hi1₉ hfi₉) (hMR₉.1.vs.2.2.2.2 i hi1₉ hfi₉)) ⟨⟨by decide, by decide⟩, ⟨rfl, rfl⟩, by decide, by decide⟩ rfl dX8_orderAgain_41 (fun μ9 h9₉ => ?_)
  rw [h9₉]; clear h9₉
  refine J.iret rfl (by decide) (by decide) dX8_orderAgain_44 ⟨_, rfl, ?_, ?_⟩
  · rfl
  · exact ⟨hMR₉.thr, wr_s, FrM.thr⟩

set_option maxRecDepth 100000 in
set_option maxHeartbeats 4000000 in
theorem c_m_commutesX0 {g : GP} {adr : Nat → Nat} (μ : Mem) {α : A7} (hMR₉ : MR μ α) {i : Int32} (hx₉ : ¬ (0 ≤ i ∧ i < nI 5)) {j : Int32} : CT g yX8_commutes mX8_commutes (RM 60 0 0) (WM g adr μ) [.ref (adr 237), .int i, .int j] (PM g adr ((.inl (some (.int (nI 0))))) (fun μ' => MR μ' (α) ∧ μ' 237 6 = nI 1 ∧ FrM μ' μ)) := by
  refine CT.of (l0 := [some (.ref (adr 237)), some (.int i), some (.int j), none, none]) (by decide +kernel) rfl (Nat.le_of_ble_eq_true rfl) rfl ?_
  refine J.al0 dX8_commutes_0 ?_
  refine J.il1 dX8_commutes_1 ?_
  refine cl_X8_171 rfl (k' := 0) (n' := 0) (c_m_isShelfF _ hx₉) ⟨⟨by decide, by decide⟩, ⟨rfl, rfl⟩, by decide, by decide⟩ rfl dX8_commutes_2 (fun μ9 h9₉ => ?_)
  rw [h9₉]; clear h9₉
  refine J.if_eqN (tgt := 15) dX8_commutes_5 (by decide) (by omega) (fun c5₉ => ?_) (fun c5₉ => absurd c5₉ (by first | omega | (simp only [not_true_eq_false, not_false_eq_true]; done) | (simp; done)))
  refine J.iconst dX8_commutes_15 kI_1 ?_
  refine J.goto (tgt := 40) dX8_commutes_16 (by decide) ?_
  refine pf_X8_42 rfl (by decide) dX8_commutes_40 ?_
  refine J.al0 dX8_commutes_43 ?_
  refine gf_X8_42 rfl (x := nI 1) (by decide) wr_s dX8_commutes_44 ?_
  refine J.if_neN (tgt := 54) dX8_commutes_47 (by decide) (by omega) (fun c47₉ => ?_) (fun c47₉ => absurd c47₉ (by first | omega | (simp only [not_true_eq_false, not_false_eq_true]; done) | (simp; done)))
  refine J.iconst dX8_commutes_54 kI_0 ?_
  refine J.is3 dX8_commutes_55 (by decide) rfl ?_
  refine J.iconst dX8_commutes_56 kI_0 ?_
  refine J.is4 dX8_commutes_57 (by decide) rfl ?_
  refine J.il4 dX8_commutes_59 ?_
  refine J.bipush dX8_commutes_61 kb_32 ?_
  refine J.icmp_geN (tgt := 109) dX8_commutes_63 (by decide) (by omega) (by omega) (fun c63₉ => absurd c63₉ (by first | omega | (simp only [not_true_eq_false, not_false_eq_true]; done) | (simp; done))) (fun c63₉ => ?_)
  refine J.il3 dX8_commutes_66 ?_
  refine J.if_eqN (tgt := 109) dX8_commutes_67 (by decide) (by omega) (fun c67₉ => ?_) (fun c67₉ => absurd c67₉ (by first | omega | (simp only [not_true_eq_false, not_false_eq_true]; done) | (simp; done)))
  refine J.il3 dX8_commutes_109 ?_
  refine J.zret (ty := .boolean) rfl (by decide) (by decide) (by decide) dX8_commutes_110 ⟨_, rfl, ?_, ?_⟩
  · rfl
  · exact ⟨hMR₉.thr, wr_s, FrM.thr⟩

set_option maxRecDepth 100000 in
set_option maxHeartbeats 4000000 in
theorem c_m_commutesX1 {g : GP} {adr : Nat → Nat} (μ : Mem) {α : A7} (hMR₉ : MR μ α) {i : Nat} (hi1₉ : i < 5) {j : Int32} (hx₉ : ¬ (0 ≤ j ∧ j < nI 5)) : CT g yX8_commutes mX8_commutes (RM 60 0 0) (WM g adr μ) [.ref (adr 237), .int (nI i), .int j] (PM g adr ((.inl (some (.int (nI 0))))) (fun μ' => MR μ' (α) ∧ μ' 237 6 = nI 1 ∧ FrM μ' μ)) := by
  refine CT.of (l0 := [some (.ref (adr 237)), some (.int (nI i)), some (.int j), none, none]) (by decide +kernel) rfl (Nat.le_of_ble_eq_true rfl) rfl ?_
  refine J.al0 dX8_commutes_0 ?_
  refine J.il1 dX8_commutes_1 ?_
  refine cl_X8_171 rfl (k' := 0) (n' := 0) (c_m_isShelfT _ (by omega)) ⟨⟨by decide, by decide⟩, ⟨rfl, rfl⟩, by decide, by decide⟩ rfl dX8_commutes_2 (fun μ9 h9₉ => ?_)
  rw [h9₉]; clear h9₉
  refine J.if_eqN (tgt := 15) dX8_commutes_5 (by decide) (by omega) (fun c5₉ => absurd c5₉ (by first | omega | (simp only [not_true_eq_false, not_false_eq_true]; done) | (simp; done))) (fun c5₉ => ?_)
  refine J.il2 dX8_commutes_8 ?_
  refine cl_X8_171 rfl (k' := 0) (n' := 0) (c_m_isShelfF _ hx₉) ⟨⟨by decide, by decide⟩, ⟨rfl, rfl⟩, by decide, by decide⟩ rfl dX8_commutes_9 (fun μ9 h9₉ => ?_)
  rw [h9₉]; clear h9₉
  refine J.if_neN (tgt := 19) dX8_commutes_12 (by decide) (by omega) (fun c12₉ => absurd c12₉ (by first | omega | (simp only [not_true_eq_false, not_false_eq_true]; done) | (simp; done))) (fun c12₉ => ?_)
  refine J.iconst dX8_commutes_15 kI_1 ?_
  refine J.goto (tgt := 40) dX8_commutes_16 (by decide) ?_
  refine pf_X8_42 rfl (by decide) dX8_commutes_40 ?_
  refine J.al0 dX8_commutes_43 ?_
  refine gf_X8_42 rfl (x := nI 1) (by decide) wr_s dX8_commutes_44 ?_
  refine J.if_neN (tgt := 54) dX8_commutes_47 (by decide) (by omega) (fun c47₉ => ?_) (fun c47₉ => absurd c47₉ (by first | omega | (simp only [not_true_eq_false, not_false_eq_true]; done) | (simp; done)))
  refine J.iconst dX8_commutes_54 kI_0 ?_
  refine J.is3 dX8_commutes_55 (by decide) rfl ?_
  refine J.iconst dX8_commutes_56 kI_0 ?_
  refine J.is4 dX8_commutes_57 (by decide) rfl ?_
  refine J.il4 dX8_commutes_59 ?_
  refine J.bipush dX8_commutes_61 kb_32 ?_
  refine J.icmp_geN (tgt := 109) dX8_commutes_63 (by decide) (by omega) (by omega) (fun c63₉ => absurd c63₉ (by first | omega | (simp only [not_true_eq_false, not_false_eq_true]; done) | (simp; done))) (fun c63₉ => ?_)
  refine J.il3 dX8_commutes_66 ?_
  refine J.if_eqN (tgt := 109) dX8_commutes_67 (by decide) (by omega) (fun c67₉ => ?_) (fun c67₉ => absurd c67₉ (by first | omega | (simp only [not_true_eq_false, not_false_eq_true]; done) | (simp; done)))
  refine J.il3 dX8_commutes_109 ?_
  refine J.zret (ty := .boolean) rfl (by decide) (by decide) (by decide) dX8_commutes_110 ⟨_, rfl, ?_, ?_⟩
  · rfl
  · exact ⟨hMR₉.thr, wr_s, FrM.thr⟩

set_option maxRecDepth 100000 in
set_option maxHeartbeats 4000000 in
theorem c_m_commutesX2 {g : GP} {adr : Nat → Nat} (μ : Mem) {α : A7} (hMR₉ : MR μ α) {i : Nat} (hi1₉ : i < 5) {j : Nat} (hj1₉ : j < 5) (hx₉ : ¬ aFl (qS α) i = true) : CT g yX8_commutes mX8_commutes (RM 60 0 0) (WM g adr μ) [.ref (adr 237), .int (nI i), .int (nI j)] (PM g adr ((.inl (some (.int (nI 0))))) (fun μ' => MR μ' (α) ∧ μ' 237 6 = nI 2 ∧ FrM μ' μ)) := by
  refine CT.of (l0 := [some (.ref (adr 237)), some (.int (nI i)), some (.int (nI j)), none, none]) (by decide +kernel) rfl (Nat.le_of_ble_eq_true rfl) rfl ?_
  refine J.al0 dX8_commutes_0 ?_
  refine J.il1 dX8_commutes_1 ?_
  refine cl_X8_171 rfl (k' := 0) (n' := 0) (c_m_isShelfT _ (by omega)) ⟨⟨by decide, by decide⟩, ⟨rfl, rfl⟩, by decide, by decide⟩ rfl dX8_commutes_2 (fun μ9 h9₉ => ?_)
  rw [h9₉]; clear h9₉
  refine J.if_eqN (tgt := 15) dX8_commutes_5 (by decide) (by omega) (fun c5₉ => absurd c5₉ (by first | omega | (simp only [not_true_eq_false, not_false_eq_true]; done) | (simp; done))) (fun c5₉ => ?_)
  refine J.il2 dX8_commutes_8 ?_
  refine cl_X8_171 rfl (k' := 0) (n' := 0) (c_m_isShelfT _ (by omega)) ⟨⟨by decide, by decide⟩, ⟨rfl, rfl⟩, by decide, by decide⟩ rfl dX8_commutes_9 (fun μ9 h9₉ => ?_)
  rw [h9₉]; clear h9₉
  refine J.if_neN (tgt := 19) dX8_commutes_12 (by decide) (by omega) (fun c12₉ => ?_) (fun c12₉ => absurd c12₉ (by first | omega | (simp only [not_true_eq_false, not_false_eq_true]; done) | (simp; done)))
  refine J.al0 dX8_commutes_19 ?_
  refine J.il1 dX8_commutes_20 ?_
  refine cl_X8_177 rfl (by decide) (k' := 0) (n' := 0) (c_m_isEmptyT _ hMR₉.1 (by omega) hx₉) ⟨⟨by decide, by decide⟩, ⟨rfl, rfl⟩, by decide, by decide⟩ rfl dX8_commutes_21 (fun μ9 h9₉ => ?_)
  rw [h9₉]; clear h9₉
  refine J.if_neN (tgt := 35) dX8_commutes_24 (by decide) (by omega) (fun c24₉ => ?_) (fun c24₉ => absurd c24₉ (by first | omega | (simp only [not_true_eq_false, not_false_eq_true]; done) | (simp; done)))
  refine J.iconst dX8_commutes_35 kI_2 ?_
  refine J.goto (tgt := 40) dX8_commutes_36 (by decide) ?_
  refine pf_X8_42 rfl (by decide) dX8_commutes_40 ?_
  refine J.al0 dX8_commutes_43 ?_
  refine gf_X8_42 rfl (x := nI 2) (by decide) wr_s dX8_commutes_44 ?_
  refine J.if_neN (tgt := 54) dX8_commutes_47 (by decide) (by omega) (fun c47₉ => ?_) (fun c47₉ => absurd c47₉ (by first | omega | (simp only [not_true_eq_false, not_false_eq_true]; done) | (simp; done)))
  refine J.iconst dX8_commutes_54 kI_0 ?_
  refine J.is3 dX8_commutes_55 (by decide) rfl ?_
  refine J.iconst dX8_commutes_56 kI_0 ?_
  refine J.is4 dX8_commutes_57 (by decide) rfl ?_
  refine J.il4 dX8_commutes_59 ?_
  refine J.bipush dX8_commutes_61 kb_32 ?_
  refine J.icmp_geN (tgt := 109) dX8_commutes_63 (by decide) (by omega) (by omega) (fun c63₉ => absurd c63₉ (by first | omega | (simp only [not_true_eq_false, not_false_eq_true]; done) | (simp; done))) (fun c63₉ => ?_)
  refine J.il3 dX8_commutes_66 ?_
  refine J.if_eqN (tgt := 109) dX8_commutes_67 (by decide) (by omega) (fun c67₉ => ?_) (fun c67₉ => absurd c67₉ (by first | omega | (simp only [not_true_eq_false, not_false_eq_true]; done) | (simp; done)))
  refine J.il3 dX8_commutes_109 ?_
  refine J.zret (ty := .boolean) rfl (by decide) (by decide) (by decide) dX8_commutes_110 ⟨_, rfl, ?_, ?_⟩
  · rfl
  · exact ⟨hMR₉.thr, wr_s, FrM.thr⟩

set_option maxRecDepth 100000 in
set_option maxHeartbeats 4000000 in
theorem c_m_commutesX3 {g : GP} {adr : Nat → Nat} (μ : Mem) {α : A7} (hMR₉ : MR μ α) {i : Nat} (hi1₉ : i < 5) {j : Nat} (hj1₉ : j < 5) (hfi₉ : aFl (qS α) i = true) (hx₉ : ¬ aFl (qS α) j = true) : CT g yX8_commutes mX8_commutes (RM 60 0 0) (WM g adr μ) [.ref (adr 237), .int (nI i), .int (nI j)] (PM g adr ((.inl (some (.int (nI 0))))) (fun μ' => MR μ' (α) ∧ μ' 237 6 = nI 2 ∧ FrM μ' μ)) := by
  refine CT.of (l0 := [some (.ref (adr 237)), some (.int (nI i)), some (.int (nI j)), none, none]) (by decide +kernel) rfl (Nat.le_of_ble_eq_true rfl) rfl ?_
  refine J.al0 dX8_commutes_0 ?_
  refine J.il1 dX8_commutes_1 ?_
  refine cl_X8_171 rfl (k' := 0) (n' := 0) (c_m_isShelfT _ (by omega)) ⟨⟨by decide, by decide⟩, ⟨rfl, rfl⟩, by decide, by decide⟩ rfl dX8_commutes_2 (fun μ9 h9₉ => ?_)
  rw [h9₉]; clear h9₉
  refine J.if_eqN (tgt := 15) dX8_commutes_5 (by decide) (by omega) (fun c5₉ => absurd c5₉ (by first | omega | (simp only [not_true_eq_false, not_false_eq_true]; done) | (simp; done))) (fun c5₉ => ?_)
  refine J.il2 dX8_commutes_8 ?_
  refine cl_X8_171 rfl (k' := 0) (n' := 0) (c_m_isShelfT _ (by omega)) ⟨⟨by decide, by decide⟩, ⟨rfl, rfl⟩, by decide, by decide⟩ rfl dX8_commutes_9 (fun μ9 h9₉ => ?_)
  rw [h9₉]; clear h9₉
  refine J.if_neN (tgt := 19) dX8_commutes_12 (by decide) (by omega) (fun c12₉ => ?_) (fun c12₉ => absurd c12₉ (by first | omega | (simp only [not_true_eq_false, not_false_eq_true]; done) | (simp; done)))
  refine J.al0 dX8_commutes_19 ?_
  refine J.il1 dX8_commutes_20 ?_
  refine cl_X8_177 rfl (by decide) (k' := 0) (n' := 0) (c_m_isEmptyF _ hMR₉.1 (by omega) hfi₉) ⟨⟨by decide, by decide⟩, ⟨rfl, rfl⟩, by decide, by decide⟩ rfl dX8_commutes_21 (fun μ9 h9₉ => ?_)
  rw [h9₉]; clear h9₉
  refine J.if_neN (tgt := 35) dX8_commutes_24 (by decide) (by omega) (fun c24₉ => absurd c24₉ (by first | omega | (simp only [not_true_eq_false, not_false_eq_true]; done) | (simp; done))) (fun c24₉ => ?_)
  refine J.al0 dX8_commutes_27 ?_
  refine J.il2 dX8_commutes_28 ?_
  refine cl_X8_177 rfl (by decide) (k' := 0) (n' := 0) (c_m_isEmptyT _ hMR₉.1 (by omega) hx₉) ⟨⟨by decide, by decide⟩, ⟨rfl, rfl⟩, by decide, by decide⟩ rfl dX8_commutes_29 (fun μ9 h9₉ => ?_)
  rw [h9₉]; clear h9₉
  refine J.if_eqN (tgt := 39) dX8_commutes_32 (by decide) (by omega) (fun c32₉ => absurd c32₉ (by first | omega | (simp only [not_true_eq_false, not_false_eq_true]; done) | (simp; done))) (fun c32₉ => ?_)
  refine J.iconst dX8_commutes_35 kI_2 ?_
  refine J.goto (tgt := 40) dX8_commutes_36 (by decide) ?_
  refine pf_X8_42 rfl (by decide) dX8_commutes_40 ?_
  refine J.al0 dX8_commutes_43 ?_
  refine gf_X8_42 rfl (x := nI 2) (by decide) wr_s dX8_commutes_44 ?_
  refine J.if_neN (tgt := 54) dX8_commutes_47 (by decide) (by omega) (fun c47₉ => ?_) (fun c47₉ => absurd c47₉ (by first | omega | (simp only [not_true_eq_false, not_false_eq_true]; done) | (simp; done)))
  refine J.iconst dX8_commutes_54 kI_0 ?_
  refine J.is3 dX8_commutes_55 (by decide) rfl ?_
  refine J.iconst dX8_commutes_56 kI_0 ?_
  refine J.is4 dX8_commutes_57 (by decide) rfl ?_
  refine J.il4 dX8_commutes_59 ?_
  refine J.bipush dX8_commutes_61 kb_32 ?_
  refine J.icmp_geN (tgt := 109) dX8_commutes_63 (by decide) (by omega) (by omega) (fun c63₉ => absurd c63₉ (by first | omega | (simp only [not_true_eq_false, not_false_eq_true]; done) | (simp; done))) (fun c63₉ => ?_)
  refine J.il3 dX8_commutes_66 ?_
  refine J.if_eqN (tgt := 109) dX8_commutes_67 (by decide) (by omega) (fun c67₉ => ?_) (fun c67₉ => absurd c67₉ (by first | omega | (simp only [not_true_eq_false, not_false_eq_true]; done) | (simp; done)))
  refine J.il3 dX8_commutes_109 ?_
  refine J.zret (ty := .boolean) rfl (by decide) (by decide) (by decide) dX8_commutes_110 ⟨_, rfl, ?_, ?_⟩
  · rfl
  · exact ⟨hMR₉.thr, wr_s, FrM.thr⟩
