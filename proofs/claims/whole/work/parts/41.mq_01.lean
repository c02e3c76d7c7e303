/-! ===== printed: the model: what is asked ===== -/

set_option maxRecDepth 100000 in
set_option maxHeartbeats 4000000 in
theorem c_m_atX0 {g : GP} {adr : Nat → Nat} (μ : Mem) {α : A7} (hMR₉ : MR μ α) {i : Int32} (hx₉ : ¬ (0 ≤ i ∧ i < nI 32)) : CT g yX8_at mX8_at (RM 60 0 0) (WM g adr μ) [.ref (adr 237), .int i] (PM g adr ((.inl (some (.int (nI 0))))) (fun μ' => MR μ' (α) ∧ μ' 237 6 = nI 1 ∧ FrM μ' μ)) := by
  refine CT.of (l0 := [some (.ref (adr 237)), some (.int i)]) (by decide +kernel) rfl (Nat.le_of_ble_eq_true rfl) rfl ?_
  refine J.al0 dX8_at_0 ?_
  refine J.il1 dX8_at_1 ?_
  refine cl_X8_115 rfl (k' := 0) (n' := 0) (c_m_isSlotF _ hx₉) ⟨⟨by decide, by decide⟩, ⟨rfl, rfl⟩, by decide, by decide⟩ rfl dX8_at_2 (fun μ9 h9₉ => ?_)
  rw [h9₉]; clear h9₉
  refine J.if_eqN (tgt := 12) dX8_at_5 (by decide) (by omega) (fun c5₉ => ?_) (fun c5₉ => absurd c5₉ (by first | omega | (simp only [not_true_eq_false, not_false_eq_true]; done) | (simp; done)))
  refine J.iconst dX8_at_12 kI_1 ?_
  refine pf_X8_42 rfl (by decide) dX8_at_13 ?_
  refine J.al0 dX8_at_16 ?_
  refine gf_X8_42 rfl (x := nI 1) (by decide) wr_s dX8_at_17 ?_
  refine J.if_leN (tgt := 27) dX8_at_20 (by decide) (by omega) (fun c20₉ => absurd c20₉ (by first | omega | (simp only [not_true_eq_false, not_false_eq_true]; done) | (simp; done))) (fun c20₉ => ?_)
  refine J.iconst dX8_at_23 kI_0 ?_
  refine J.goto (tgt := 36) dX8_at_24 (by decide) ?_
  refine J.iret rfl (by decide) (by decide) dX8_at_36 ⟨_, rfl, ?_, ?_⟩
  · rfl
  · exact ⟨hMR₉.thr, wr_s, FrM.thr⟩

set_option maxRecDepth 100000 in
set_option maxHeartbeats 4000000 in
theorem c_m_at {g : GP} {adr : Nat → Nat} (μ : Mem) {α : A7} (hMR₉ : MR μ α) {i : Nat} (hi1₉ : i < 32)  : CT g yX8_at mX8_at (RM 60 0 0) (WM g adr μ) [.ref (adr 237), .int (nI i)] (PM g adr ((.inl (some (.int (nI (aAt (qS α) i)))))) (fun μ' => MR μ' (α) ∧ μ' 237 6 = nI 0 ∧ FrM μ' μ)) := by
  refine CT.of (l0 := [some (.ref (adr 237)), some (.int (nI i))]) (by decide +kernel) rfl (Nat.le_of_ble_eq_true rfl) rfl ?_
  refine J.al0 dX8_at_0 ?_
  refine J.il1 dX8_at_1 ?_
  refine cl_X8_115 rfl (k' := 0) (n' := 0) (c_m_isSlotT _ (by omega)) ⟨⟨by decide, by decide⟩, ⟨rfl, rfl⟩, by decide, by decide⟩ rfl dX8_at_2 (fun μ9 h9₉ => ?_)
  rw [h9₉]; clear h9₉
  refine J.if_eqN (tgt := 12) dX8_at_5 (by decide) (by omega) (fun c5₉ => absurd c5₉ (by first | omega | (simp only [not_true_eq_false, not_false_eq_true]; done) | (simp; done))) (fun c5₉ => ?_)
  refine J.iconst dX8_at_8 kI_0 ?_
  refine J.goto (tgt := 13) dX8_at_9 (by decide) ?_
  refine pf_X8_42 rfl (by decide) dX8_at_13 ?_
  refine J.al0 dX8_at_16 ?_
  refine gf_X8_42 rfl (x := nI 0) (by decide) wr_s dX8_at_17 ?_
  refine J.if_leN (tgt := 27) dX8_at_20 (by decide) (by omega) (fun c20₉ => ?_) (fun c20₉ => absurd c20₉ (by first | omega | (simp only [not_true_eq_false, not_false_eq_true]; done) | (simp; done)))
  refine J.al0 dX8_at_27 ?_
  refine gf_X8_9 rfl (o2 := 238) (by decide) rfl dX8_at_28 ?_
  refine J.bipush dX8_at_31 kb_8 ?_
  refine J.il1 dX8_at_33 ?_
  refine J.iaddN dX8_at_34 ?_
  have hba₉ := hMR₉.1.vs.1.1 i (by omega)
  refine J.iald (N := 352) (x := nI (aAt (qS α) i)) (by decide) (by decide) (by decide) (by omega) (by rw [wr_n (by omega)]; exact (hMR₉.1.rAt (by omega))) dX8_at_35 ?_
  refine J.iret rfl (by decide) (by decide) dX8_at_36 ⟨_, rfl, ?_, ?_⟩
  · rfl
  · exact ⟨hMR₉.thr, wr_s, FrM.thr⟩

set_option maxRecDepth 100000 in
set_option maxHeartbeats 4000000 in
theorem c_m_whereX0 {g : GP} {adr : Nat → Nat} (μ : Mem) {α : A7} (hMR₉ : MR μ α) {i : Int32} (hx₉ : ¬ (0 ≤ i ∧ i < nI 32)) : CT g yX8_where mX8_where (RM 60 0 0) (WM g adr μ) [.ref (adr 237), .int i] (PM g adr ((.inl (some (.int (nI 0))))) (fun μ' => MR μ' (α) ∧ μ' 237 6 = nI 1 ∧ FrM μ' μ)) := by
  refine CT.of (l0 := [some (.ref (adr 237)), some (.int i)]) (by decide +kernel) rfl (Nat.le_of_ble_eq_true rfl) rfl ?_
  refine J.al0 dX8_where_0 ?_
  refine J.il1 dX8_where_1 ?_
  refine cl_X8_115 rfl (k' := 0) (n' := 0) (c_m_isSlotF _ hx₉) ⟨⟨by decide, by decide⟩, ⟨rfl, rfl⟩, by decide, by decide⟩ rfl dX8_where_2 (fun μ9 h9₉ => ?_)
  rw [h9₉]; clear h9₉
  refine J.if_eqN (tgt := 12) dX8_where_5 (by decide) (by omega) (fun c5₉ => ?_) (fun c5₉ => absurd c5₉ (by first | omega | (simp only [not_true_eq_false, not_false_eq_true]; done) | (simp; done)))
  refine J.iconst dX8_where_12 kI_1 ?_
  refine pf_X8_42 rfl (by decide) dX8_where_13 ?_
  refine J.al0 dX8_where_16 ?_
  refine gf_X8_42 rfl (x := nI 1) (by decide) wr_s dX8_where_17 ?_
  refine J.if_leN (tgt := 27) dX8_where_20 (by decide) (by omega) (fun c20₉ => absurd c20₉ (by first | omega | (simp only [not_true_eq_false, not_false_eq_true]; done) | (simp; done))) (fun c20₉ => ?_)
  refine J.iconst dX8_where_23 kI_0 ?_
  refine J.goto (tgt := 32) dX8_where_24 (by decide) ?_
  refine J.iret rfl (by decide) (by decide) dX8_where_32 ⟨_, rfl, ?_, ?_⟩
  · rfl
  · exact ⟨hMR₉.thr, wr_s, FrM.thr⟩

set_option maxRecDepth 100000 in
set_option maxHeartbeats 4000000 in
theorem c_m_where {g : GP} {adr : Nat → Nat} (μ : Mem) {α : A7} (hMR₉ : MR μ α) {i : Nat} (hi1₉ : i < 32)  : CT g yX8_where mX8_where (RM 60 0 0) (WM g adr μ) [.ref (adr 237), .int (nI i)] (PM g adr ((.inl (some (.int (nI (pinv (aAt (qS α)) i)))))) (fun μ' => MR μ' (α) ∧ μ' 237 6 = nI 0 ∧ FrM μ' μ)) := by
  refine CT.of (l0 := [some (.ref (adr 237)), some (.int (nI i))]) (by decide +kernel) rfl (Nat.le_of_ble_eq_true rfl) rfl ?_
  refine J.al0 dX8_where_0 ?_
  refine J.il1 dX8_where_1 ?_
  refine cl_X8_115 rfl (k' := 0) (n' := 0) (c_m_isSlotT _ (by omega)) ⟨⟨by decide, by decide⟩, ⟨rfl, rfl⟩, by decide, by decide⟩ rfl dX8_where_2 (fun μ9 h9₉ => ?_)
  rw [h9₉]; clear h9₉
  refine J.if_eqN (tgt := 12) dX8_where_5 (by decide) (by omega) (fun c5₉ => absurd c5₉ (by first | omega | (simp only [not_true_eq_false, not_false_eq_true]; done) | (simp; done))) (fun c5₉ => ?_)
  refine J.iconst dX8_where_8 kI_0 ?_
  refine J.goto (tgt := 13) dX8_where_9 (by decide) ?_
  refine pf_X8_42 rfl (by decide) dX8_where_13 ?_
  refine J.al0 dX8_where_16 ?_
  refine gf_X8_42 rfl (x := nI 0) (by decide) wr_s dX8_where_17 ?_
  refine J.if_leN (tgt := 27) dX8_where_20 (by decide) (by omega) (fun c20₉ => ?_) (fun c20₉ => absurd c20₉ (by first | omega | (simp only [not_true_eq_false, not_false_eq_true]; done) | (simp; done)))
  refine J.al0 dX8_where_27 ?_
  refine J.il1 dX8_where_28 ?_
  refine cl_X8_119 rfl (by decide) (k' := 0) (n' := 0) (c_m_slotOf _ (MS.off hMR₉.1 (by simp only [wr_o (show (238 : Nat) ≠ 237 by decide)])) (by omega)) ⟨⟨by decide, by decide⟩, ⟨rfl, rfl⟩, by decide, by decide⟩ rfl dX8_where_29 (fun μ9 h9₉ => ?_)
  rw [h9₉]; clear h9₉
  refine J.iret rfl (by decide) (by decide) dX8_where_32 ⟨_, rfl, ?_, ?_⟩
  · rfl
  · exact ⟨hMR₉.thr, wr_s, FrM.thr⟩

set_option maxRecDepth 100000 in
set_option maxHeartbeats 4000000 in
theorem c_m_colourX0 {g : GP} {adr : Nat → Nat} (μ : Mem) {α : A7} (hMR₉ : MR μ α) {i : Int32} (hx₉ : ¬ (0 ≤ i ∧ i < nI 32)) : CT g yX8_colour mX8_colour (RM 60 0 0) (WM g adr μ) [.ref (adr 237), .int i] (PM g adr ((.inl (some (.int (nI 0))))) (fun μ' => MR μ' (α) ∧ μ' 237 6 = nI 1 ∧ FrM μ' μ)) := by
  refine CT.of (l0 := [some (.ref (adr 237)), some (.int i)]) (by decide +kernel) rfl (Nat.le_of_ble_eq_true rfl) rfl ?_
  refine J.al0 dX8_colour_0 ?_
  refine J.il1 dX8_colour_1 ?_
  refine cl_X8_115 rfl (k' := 0) (n' := 0) (c_m_isSlotF _ hx₉) ⟨⟨by decide, by decide⟩, ⟨rfl, rfl⟩, by decide, by decide⟩ rfl dX8_colour_2 (fun μ9 h9₉ => ?_)
  rw [h9₉]; clear h9₉
  refine J.if_eqN (tgt := 12) dX8_colour_5 (by decide) (by omega) (fun c5₉ => ?_) (fun c5₉ => absurd c5₉ (by first | omega | (simp only [not_true_eq_false, not_false_eq_true]; done) | (simp; done)))
  refine J.iconst dX8_colour_12 kI_1 ?_
  refine pf_X8_42 rfl (by decide) dX8_colour_13 ?_
  refine J.al0 dX8_colour_16 ?_
  refine gf_X8_42 rfl (x := nI 1) (by decide) wr_s dX8_colour_17 ?_
  refine J.if_leN (tgt := 27) dX8_colour_20 (by decide) (by omega) (fun c20₉ => absurd c20₉ (by first | omega | (simp only [not_true_eq_false, not_false_eq_true]; done) | (simp; done))) (fun c20₉ => ?_)
  refine J.iconst dX8_colour_23 kI_0 ?_
  refine J.goto (tgt := 32) dX8_colour_24 (by decide) ?_
  refine J.iret rfl (by decide) (by decide) dX8_colour_32 ⟨_, rfl, ?_, ?_⟩
  · rfl
  · exact ⟨hMR₉.thr, wr_s, FrM.thr⟩

set_option maxRecDepth 100000 in
set_option maxHeartbeats 4000000 in
theorem c_m_colour {g : GP} {adr : Nat → Nat} (μ : Mem) {α : A7} (hMR₉ : MR μ α) {i : Nat} (hi1₉ : i < 32)  : CT g yX8_colour mX8_colour (RM 60 0 0) (WM g adr μ) [.ref (adr 237), .int (nI i)] (PM g adr ((.inl (some (.int (nI (aCol (qS α) (aAt (qS α) i))))))) (fun μ' => MR μ' (α) ∧ μ' 237 6 = nI 0 ∧ FrM μ' μ)) := by
  refine CT.of (l0 := [some (.ref (adr 237)), some (.int (nI i))]) (by decide +kernel) rfl (Nat.le_of_ble_eq_true rfl) rfl ?_
  refine J.al0 dX8_colour_0 ?_
  refine J.il1 dX8_colour_1 ?_
  refine cl_X8_115 rfl (k' := 0) (n' := 0) (c_m_isSlotT _ (by omega)) ⟨⟨by decide, by decide⟩, ⟨rfl, rfl⟩, by decide, by decide⟩ rfl dX8_colour_2 (fun μ9 h9₉ => ?_)
  rw [h9₉]; clear h9₉
  refine J.if_eqN (tgt := 12) dX8_colour_5 (by decide) (by omega) (fun c5₉ => absurd c5₉ (by first | omega | (simp only [not_true_eq_false, not_false_eq_true]; done) | (simp; done))) (fun c5₉ => ?_)
  refine J.iconst dX8_colour_8 kI_0 ?_
  refine J.goto (tgt := 13) dX8_colour_9 (by decide) ?_
  refine pf_X8_42 rfl (by decide) dX8_colour_13 ?_
  refine J.al0 dX8_colour_16 ?_
  refine gf_X8_42 rfl (x := nI 0) (by decide) wr_s dX8_colour_17 ?_
  refine J.if_leN (tgt := 27) dX8_colour_20 (by decide) (by omega) (fun c20₉ => ?_) (fun c20₉ => absurd c20₉ (by first | omega | (simp only [not_true_eq_false, not_false_eq_true]; done) | (simp; done)))
  refine J.al0 dX8_colour_27 ?_
  refine J.il1 dX8_colour_28 ?_
  refine cl_X8_122 rfl (by decide) (k' := 0) (n' := 0) (c_m_colourIn _ (MS.off hMR₉.1 (by simp only [wr_o (show (238 : Nat) ≠ 237 by decide)])) (by omega)) ⟨⟨by decide, by decide⟩, ⟨rfl, rfl⟩, by decide, by decide⟩ rfl dX8_colour_29 (fun μ9 h9₉ => ?_)
  rw [h9₉]; clear h9₉
  refine J.iret rfl (by decide) (by decide) dX8_colour_32 ⟨_, rfl, ?_, ?_⟩
  · rfl
  · exact ⟨hMR₉.thr, wr_s, FrM.thr⟩

set_option maxRecDepth 100000 in
set_option maxHeartbeats 4000000 in
theorem c_m_isDoneX0 {g : GP} {adr : Nat → Nat} (μ : Mem) {α : A7} (hMR₉ : MR μ α) {i : Int32} (hx₉ : ¬ (0 ≤ i ∧ i < nI 4)) : CT g yX8_isDone mX8_isDone (RM 60 0 0) (WM g adr μ) [.ref (adr 237), .int i] (PM g adr ((.inl (some (.int (nI 0))))) (fun μ' => MR μ' (α) ∧ μ' 237 6 = nI 1 ∧ FrM μ' μ)) := by
  refine CT.of (l0 := [some (.ref (adr 237)), some (.int i)]) (by decide +kernel) rfl (Nat.le_of_ble_eq_true rfl) rfl ?_
  refine J.al0 dX8_isDone_0 ?_
  refine J.il1 dX8_isDone_1 ?_
  refine J.iconst dX8_isDone_2 kI_0 ?_
  refine J.iconst dX8_isDone_3 kI_3 ?_
  refine cl_X8_93 rfl (k' := 0) (n' := 0) (inF _ (in_idx (by decide) hx₉)) ⟨⟨by decide, by decide⟩, ⟨rfl, rfl⟩, by decide, by decide⟩ rfl dX8_isDone_4 (fun μ9 h9₉ => ?_)
  rw [h9₉]; clear h9₉
  refine J.if_eqN (tgt := 14) dX8_isDone_7 (by decide) (by omega) (fun c7₉ => ?_) (fun c7₉ => absurd c7₉ (by first | omega | (simp only [not_true_eq_false, not_false_eq_true]; done) | (simp; done)))
  refine J.iconst dX8_isDone_14 kI_1 ?_
  refine pf_X8_42 rfl (by decide) dX8_isDone_15 ?_
  refine J.al0 dX8_isDone_18 ?_
  refine gf_X8_42 rfl (x := nI 1) (by decide) wr_s dX8_isDone_19 ?_
  refine J.if_neN (tgt := 37) dX8_isDone_22 (by decide) (by omega) (fun c22₉ => ?_) (fun c22₉ => absurd c22₉ (by first | omega | (simp only [not_true_eq_false, not_false_eq_true]; done) | (simp; done)))
  refine J.iconst dX8_isDone_37 kI_0 ?_
  refine J.zret (ty := .boolean) rfl (by decide) (by decide) (by decide) dX8_isDone_38 ⟨_, rfl, ?_, ?_⟩
  · rfl
  · exact ⟨hMR₉.thr, wr_s, FrM.thr⟩

set_option maxRecDepth 100000 in
set_option maxHeartbeats 4000000 in
theorem c_m_isDone {g : GP} {adr : Nat → Nat} (μ : Mem) {α : A7} (hMR₉ : MR μ α) {i : Nat} (hi1₉ : i < 4)  : CT g yX8_isDone mX8_isDone (RM 60 0 0) (WM g adr μ) [.ref (adr 237), .int (nI i)] (PM g adr ((.inl (some (.int (if oneB (fun s => aCol (qS α) (aAt (qS α) s)) i = true then nI 1 else nI 0))))) (fun μ' => MR μ' (α) ∧ μ' 237 6 = nI 0 ∧ FrM μ' μ)) := by
  refine CT.of (l0 := [some (.ref (adr 237)), some (.int (nI i))]) (by decide +kernel) rfl (Nat.le_of_ble_eq_true rfl) rfl ?_
  refine J.al0 dX8_isDone_0 ?_
  refine J.il1 dX8_isDone_1 ?_
  refine J.iconst dX8_isDone_2 kI_0 ?_
  refine J.iconst dX8_isDone_3 kI_3 ?_
  refine cl_X8_93 rfl (k' := 0) (n' := 0) (inT _ (by omega) (by omega) (by omega)) ⟨⟨by decide, by decide⟩, ⟨rfl, rfl⟩, by decide, by decide⟩ rfl dX8_isDone_4 (fun μ9 h9₉ => ?_)
  rw [h9₉]; clear h9₉
  refine J.if_eqN (tgt := 14) dX8_isDone_7 (by decide) (by omega) (fun c7₉ => absurd c7₉ (by first | omega | (simp only [not_true_eq_false, not_false_eq_true]; done) | (simp; done))) (fun c7₉ => ?_)
  refine J.iconst dX8_isDone_10 kI_0 ?_
  refine J.goto (tgt := 15) dX8_isDone_11 (by decide) ?_
  refine pf_X8_42 rfl (by decide) dX8_isDone_15 ?_
  refine J.al0 dX8_isDone_18 ?_
  refine gf_X8_42 rfl (x := nI 0) (by decide) wr_s dX8_isDone_19 ?_
  refine J.if_neN (tgt := 37) dX8_isDone_22 (by decide) (by omega) (fun c22₉ => absurd c22₉ (by first | omega | (simp only [not_true_eq_false, not_false_eq_true]; done) | (simp; done))) (fun c22₉ => ?_)
  refine J.al0 dX8_isDone_25 ?_
  refine J.il1 dX8_isDone_26 ?_
  refine cl_X8_125 rfl (by decide) (k' := 0) (n' := 0) (c_m_isOne _ (MS.off hMR₉.1 (by simp only [wr_o (show (238 : Nat) ≠ 237 by decide)])) (by omega)) ⟨⟨by decide, by decide⟩, ⟨rfl, rfl⟩, by decide, by decide⟩ rfl dX8_isDone_27 (fun μ9 h9₉ => ?_)
  rw [h9₉]; clear h9₉
  refine J.if_eqB (tgt := 37) dX8_isDone_30 (by decide) (fun c30₉ => ?_) (fun c30₉ => ?_)
  · refine J.iconst dX8_isDone_37 kI_0 ?_
    refine J.zret (ty := .boolean) rfl (by decide) (by decide) (by decide) dX8_isDone_38 ⟨_, rfl, ?_, ?_⟩
    · first | rw [if_pos c30₉] | rw [if_neg c30₉]
    · exact ⟨hMR₉.thr, wr_s, FrM.thr⟩
  · refine J.iconst dX8_isDone_33 kI_1 ?_
    refine J.goto (tgt := 38) dX8_isDone_34 (by decide) ?_
    refine J.zret (ty := .boolean) rfl (by decide) (by decide) (by decide) dX8_isDone_38 ⟨_, rfl, ?_, ?_⟩
    · first | rw [if_pos c30₉] | rw [if_neg c30₉]
    · exact ⟨hMR₉.thr, wr_s, FrM.thr⟩

set_option maxRecDepth 100000 in
set_option maxHeartbeats 4000000 in
theorem c_m_seams {g : GP} {adr : Nat → Nat} (μ : Mem) {α : A7} (hMR₉ : MR μ α)  : CT g yX8_seams mX8_seams (RM 60 0 0) (WM g adr μ) [.ref (adr 237)] (PM g adr ((.inl (some (.int (nI (sumU (seam1 (fun s => aCol (qS α) (aAt (qS α) s))) 32)))))) (fun μ' => MR μ' (α) ∧ μ' 237 6 = nI 0 ∧ FrM μ' μ)) := by
  refine CT.of (l0 := [some (.ref (adr 237))]) (by decide +kernel) rfl (Nat.le_of_ble_eq_true rfl) rfl ?_
  refine J.al0 dX8_seams_0 ?_
  refine J.iconst dX8_seams_1 kI_0 ?_
  refine pf_X8_42 rfl (by decide) dX8_seams_2 ?_
  refine J.al0 dX8_seams_5 ?_
  refine cl_X8_128 rfl (by decide) (k' := 0) (n' := 0) (c_m_seamMany _ (MS.off hMR₉.1 (by simp only [wr_o (show (238 : Nat) ≠ 237 by decide)]))) ⟨⟨by decide, by decide⟩, ⟨rfl, rfl⟩, by decide, by decide⟩ rfl dX8_seams_6 (fun μ9 h9₉ => ?_)
  rw [h9₉]; clear h9₉
  refine J.iret rfl (by decide) (by decide) dX8_seams_9 ⟨_, rfl, ?_, ?_⟩
  · rfl
  · exact ⟨hMR₉.thr, wr_s, FrM.thr⟩

set_option maxRecDepth 100000 in
set_option maxHeartbeats 4000000 in
theorem c_m_fewestX0 {g : GP} {adr : Nat → Nat} (μ : Mem) {α : A7} (hMR₉ : MR μ α) {i : Int32} (hx₉ : ¬ (0 ≤ i ∧ i < nI 32)) {j : Int32} : CT g yX8_fewest mX8_fewest (RM 60 0 0) (WM g adr μ) [.ref (adr 237), .int i, .int j] (PM g adr ((.inl (some (.int (nI 0))))) (fun μ' => MR μ' (α) ∧ μ' 237 6 = nI 1 ∧ FrM μ' μ)) := by
  refine CT.of (l0 := [some (.ref (adr 237)), some (.int i), some (.int j)]) (by decide +kernel) rfl (Nat.le_of_ble_eq_true rfl) rfl ?_
  refine J.al0 dX8_fewest_0 ?_
  refine J.il1 dX8_fewest_1 ?_
  refine cl_X8_115 rfl (k' := 0) (n' := 0) (c_m_isSlotF _ hx₉) ⟨⟨by decide, by decide⟩, ⟨rfl, rfl⟩, by decide, by decide⟩ rfl dX8_fewest_2 (fun μ9 h9₉ => ?_)
  rw [h9₉]; clear h9₉
  refine J.if_eqN (tgt := 19) dX8_fewest_5 (by decide) (by omega) (fun c5₉ => ?_) (fun c5₉ => absurd c5₉ (by first | omega | (simp only [not_true_eq_false, not_false_eq_true]; done) | (simp; done)))
  refine J.iconst dX8_fewest_19 kI_1 ?_
  refine pf_X8_42 rfl (by decide) dX8_fewest_20 ?_
  refine J.al0 dX8_fewest_23 ?_
  refine gf_X8_42 rfl (x := nI 1) (by decide) wr_s dX8_fewest_24 ?_
  refine J.if_leN (tgt := 34) dX8_fewest_27 (by decide) (by omega) (fun c27₉ => absurd c27₉ (by first | omega | (simp only [not_true_eq_false, not_false_eq_true]; done) | (simp; done))) (fun c27₉ => ?_)
  refine J.iconst dX8_fewest_30 kI_0 ?_
  refine J.goto (tgt := 39) dX8_fewest_31 (by decide) ?_
  refine J.iret rfl (by decide) (by decide) dX8_fewest_39 ⟨_, rfl, ?_, ?_⟩
  · rfl
  · exact ⟨hMR₉.thr, wr_s, FrM.thr⟩
