/-! ===== printed: the model: what is asked ===== -/
set_option maxRecDepth 100000 in
set_option maxHeartbeats 4000000 in
theorem c_m_fewestX1 {g : GP} {adr : Nat → Nat} (μ : Mem) {α : A7} (hMR₉ : MR μ α) {i : Nat} (hi1₉ : i < 32) {j : Int32} (hx₉ : ¬ (0 ≤ j ∧ j < nI 32)) : CT g yX8_fewest mX8_fewest (RM 60 0 0) (WM g adr μ) [.ref (adr 237), .int (nI i), .int j] (PM g adr ((.inl (some (.int (nI 0))))) (fun μ' => MR μ' (α) ∧ μ' 237 6 = nI 1 ∧ FrM μ' μ)) := by
  refine CT.of (l0 := [some (.ref (adr 237)), some (.int (nI i)), some (.int j)]) (by decide +kernel) rfl (Nat.le_of_ble_eq_true rfl) rfl ?_
  refine J.al0 dX8_fewest_0 ?_
  refine J.il1 dX8_fewest_1 ?_
  refine cl_X8_115 rfl (k' := 0) (n' := 0) (c_m_isSlotT _ (by omega)) ⟨⟨by decide, by decide⟩, ⟨rfl, rfl⟩, by decide, by decide⟩ rfl dX8_fewest_2 (fun μ9 h9₉ => ?_)
  rw [h9₉]; clear h9₉
  refine J.if_eqN (tgt := 19) dX8_fewest_5 (by decide) (by omega) (fun c5₉ => absurd c5₉ (by first | omega | (simp only [not_true_eq_false, not_false_eq_true]; done) | (simp; done))) (fun c5₉ => ?_)
  refine J.il2 dX8_fewest_8 ?_
  refine cl_X8_115 rfl (k' := 0) (n' := 0) (c_m_isSlotF _ hx₉) ⟨⟨by decide, by decide⟩, ⟨rfl, rfl⟩, by decide, by decide⟩ rfl dX8_fewest_9 (fun μ9 h9₉ => ?_)
  rw [h9₉]; clear h9₉
  refine J.if_eqN (tgt := 19) dX8_fewest_12 (by decide) (by omega) (fun c12₉ => ?_) (fun c12₉ => absurd c12₉ (by first | omega | (simp only [not_true_eq_false, not_false_eq_true]; done) | (simp; done)))
  refine J.iconst dX8_fewest_19 kI_1 ?_
  refine pf_X8_42 rfl (by decide) dX8_fewest_20 ?_
  refine J.al0 dX8_fewest_23 ?_
  refine gf_X8_42 rfl (x := nI 1) (by decide) wr_s dX8_fewest_24 ?_
  refine J.if_leN (tgt := 34) dX8_fewest_27 (by decide) (by omega) (fun c27₉ => absurd c27₉ (by first | omega | (simp only [not_true_eq_false, not_false_eq_true]; done) | (simp; done))) (fun c27₉ => ?_)
  refine J.iconst dX8_fewest_30 kI_0 ?_
  refine J.goto (tgt := 39) dX8_fewest_31 (by decide) ?_
  refine J.iret rfl (by decide) (by decide) dX8_fewest_39 ⟨_, rfl, ?_, ?_⟩
  · rfl
  · exact ⟨hMR₉.thr, wr_s, FrM.thr⟩

set_option maxRecDepth 100000 in
set_option maxHeartbeats 4000000 in
theorem c_m_fewest {g : GP} {adr : Nat → Nat} (μ : Mem) {α : A7} (hMR₉ : MR μ α) {i : Nat} (hi1₉ : i < 32) {j : Nat} (hj1₉ : j < 32)  : CT g yX8_fewest mX8_fewest (RM 60 0 0) (WM g adr μ) [.ref (adr 237), .int (nI i), .int (nI j)] (PM g adr ((.inl (some (.int (nI (apart i j)))))) (fun μ' => MR μ' (α) ∧ μ' 237 6 = nI 0 ∧ FrM μ' μ)) := by
  refine CT.of (l0 := [some (.ref (adr 237)), some (.int (nI i)), some (.int (nI j))]) (by decide +kernel) rfl (Nat.le_of_ble_eq_true rfl) rfl ?_
  refine J.al0 dX8_fewest_0 ?_
  refine J.il1 dX8_fewest_1 ?_
  refine cl_X8_115 rfl (k' := 0) (n' := 0) (c_m_isSlotT _ (by omega)) ⟨⟨by decide, by decide⟩, ⟨rfl, rfl⟩, by decide, by decide⟩ rfl dX8_fewest_2 (fun μ9 h9₉ => ?_)
  rw [h9₉]; clear h9₉
  refine J.if_eqN (tgt := 19) dX8_fewest_5 (by decide) (by omega) (fun c5₉ => absurd c5₉ (by first | omega | (simp only [not_true_eq_false, not_false_eq_true]; done) | (simp; done))) (fun c5₉ => ?_)
  refine J.il2 dX8_fewest_8 ?_
  refine cl_X8_115 rfl (k' := 0) (n' := 0) (c_m_isSlotT _ (by omega)) ⟨⟨by decide, by decide⟩, ⟨rfl, rfl⟩, by decide, by decide⟩ rfl dX8_fewest_9 (fun μ9 h9₉ => ?_)
  rw [h9₉]; clear h9₉
  refine J.if_eqN (tgt := 19) dX8_fewest_12 (by decide) (by omega) (fun c12₉ => absurd c12₉ (by first | omega | (simp only [not_true_eq_false, not_false_eq_true]; done) | (simp; done))) (fun c12₉ => ?_)
  refine J.iconst dX8_fewest_15 kI_0 ?_
  refine J.goto (tgt := 20) dX8_fewest_16 (by decide) ?_
  refine pf_X8_42 rfl (by decide) dX8_fewest_20 ?_
  refine J.al0 dX8_fewest_23 ?_
  refine gf_X8_42 rfl (x := nI 0) (by decide) wr_s dX8_fewest_24 ?_
  refine J.if_leN (tgt := 34) dX8_fewest_27 (by decide) (by omega) (fun c27₉ => ?_) (fun c27₉ => absurd c27₉ (by first | omega | (simp only [not_true_eq_false, not_false_eq_true]; done) | (simp; done)))
  refine J.il1 dX8_fewest_34 ?_
  refine J.il2 dX8_fewest_35 ?_
  refine cl_X8_131 rfl (k' := 0) (n' := 0) (c_m_apart _ hi1₉ hj1₉) ⟨⟨by decide, by decide⟩, ⟨rfl, rfl⟩, by decide, by decide⟩ rfl dX8_fewest_36 (fun μ9 h9₉ => ?_)
  rw [h9₉]; clear h9₉
  refine J.iret rfl (by decide) (by decide) dX8_fewest_39 ⟨_, rfl, ?_, ?_⟩
  · rfl
  · exact ⟨hMR₉.thr, wr_s, FrM.thr⟩

set_option maxRecDepth 100000 in
set_option maxHeartbeats 4000000 in
theorem c_m_logOfX0 {g : GP} {adr : Nat → Nat} (μ : Mem) {α : A7} (hMR₉ : MR μ α) {i : Int32} (hx₉ : ¬ (0 ≤ i ∧ i < nI (aLn (qS α)))) {j : Int32} : CT g yX8_logOf mX8_logOf (RM 60 0 0) (WM g adr μ) [.ref (adr 237), .int i, .int j] (PM g adr ((.inl (some (.int (nI 0))))) (fun μ' => MR μ' (α) ∧ μ' 237 6 = nI 1 ∧ FrM μ' μ)) := by
  refine CT.of (l0 := [some (.ref (adr 237)), some (.int i), some (.int j)]) (by decide +kernel) rfl (Nat.le_of_ble_eq_true rfl) rfl ?_
  have hln₉ := hMR₉.1.ln
  refine J.al0 dX8_logOf_0 ?_
  refine J.il1 dX8_logOf_1 ?_
  refine J.iconst dX8_logOf_2 kI_0 ?_
  refine J.al0 dX8_logOf_3 ?_
  refine gf_X8_9 rfl (o2 := 238) (by decide) rfl dX8_logOf_4 ?_
  refine J.iconst dX8_logOf_7 kI_0 ?_
  refine J.iald (N := 352) (x := nI (aLn (qS α))) (by decide) (by decide) (by decide) (by omega) hMR₉.1.rLn dX8_logOf_8 ?_
  refine J.iconst dX8_logOf_9 kI_1 ?_
  refine J.isub dX8_logOf_10 rfl ?_
  refine cl_X8_93 rfl (k' := 0) (n' := 0) (inF _ (in_len (by omega) hx₉)) ⟨⟨by decide, by decide⟩, ⟨rfl, rfl⟩, by decide, by decide⟩ rfl dX8_logOf_11 (fun μ9 h9₉ => ?_)
  rw [h9₉]; clear h9₉
  refine J.if_neN (tgt := 21) dX8_logOf_14 (by decide) (by omega) (fun c14₉ => absurd c14₉ (by first | omega | (simp only [not_true_eq_false, not_false_eq_true]; done) | (simp; done))) (fun c14₉ => ?_)
  refine J.iconst dX8_logOf_17 kI_1 ?_
  refine J.goto (tgt := 35) dX8_logOf_18 (by decide) ?_
  refine pf_X8_42 rfl (by decide) dX8_logOf_35 ?_
  refine J.al0 dX8_logOf_38 ?_
  refine gf_X8_42 rfl (x := nI 1) (by decide) wr_s dX8_logOf_39 ?_
  refine J.if_leN (tgt := 49) dX8_logOf_42 (by decide) (by omega) (fun c42₉ => absurd c42₉ (by first | omega | (simp only [not_true_eq_false, not_false_eq_true]; done) | (simp; done))) (fun c42₉ => ?_)
  refine J.iconst dX8_logOf_45 kI_0 ?_
  refine J.goto (tgt := 62) dX8_logOf_46 (by decide) ?_
  refine J.iret rfl (by decide) (by decide) dX8_logOf_62 ⟨_, rfl, ?_, ?_⟩
  · rfl
  · exact ⟨hMR₉.thr, wr_s, FrM.thr⟩

set_option maxRecDepth 100000 in
set_option maxHeartbeats 4000000 in
theorem c_m_logOfX1 {g : GP} {adr : Nat → Nat} (μ : Mem) {α : A7} (hMR₉ : MR μ α) {i : Nat} (hi1₉ : i < aLn (qS α)) {j : Int32} (hx₉ : j < nI 0 ∨ nI 2 < j) : CT g yX8_logOf mX8_logOf (RM 60 0 0) (WM g adr μ) [.ref (adr 237), .int (nI i), .int j] (PM g adr ((.inl (some (.int (nI 0))))) (fun μ' => MR μ' (α) ∧ μ' 237 6 = nI 2 ∧ FrM μ' μ)) := by
  refine CT.of (l0 := [some (.ref (adr 237)), some (.int (nI i)), some (.int j)]) (by decide +kernel) rfl (Nat.le_of_ble_eq_true rfl) rfl ?_
  have hln₉ := hMR₉.1.ln
  refine J.al0 dX8_logOf_0 ?_
  refine J.il1 dX8_logOf_1 ?_
  refine J.iconst dX8_logOf_2 kI_0 ?_
  refine J.al0 dX8_logOf_3 ?_
  refine gf_X8_9 rfl (o2 := 238) (by decide) rfl dX8_logOf_4 ?_
  refine J.iconst dX8_logOf_7 kI_0 ?_
  refine J.iald (N := 352) (x := nI (aLn (qS α))) (by decide) (by decide) (by decide) (by omega) hMR₉.1.rLn dX8_logOf_8 ?_
  refine J.iconst dX8_logOf_9 kI_1 ?_
  refine J.isubN dX8_logOf_10 (by omega) ?_
  refine cl_X8_93 rfl (k' := 0) (n' := 0) (inT _ (by omega) (by omega) (by omega)) ⟨⟨by decide, by decide⟩, ⟨rfl, rfl⟩, by decide, by decide⟩ rfl dX8_logOf_11 (fun μ9 h9₉ => ?_)
  rw [h9₉]; clear h9₉
  refine J.if_neN (tgt := 21) dX8_logOf_14 (by decide) (by omega) (fun c14₉ => ?_) (fun c14₉ => absurd c14₉ (by first | omega | (simp only [not_true_eq_false, not_false_eq_true]; done) | (simp; done)))
  refine J.il2 dX8_logOf_21 ?_
  refine J.iconst dX8_logOf_22 kI_0 ?_
  refine J.iconst dX8_logOf_23 kI_2 ?_
  refine cl_X8_93 rfl (k' := 0) (n' := 0) (inF _ (in_rng hx₉)) ⟨⟨by decide, by decide⟩, ⟨rfl, rfl⟩, by decide, by decide⟩ rfl dX8_logOf_24 (fun μ9 h9₉ => ?_)
  rw [h9₉]; clear h9₉
  refine J.if_neN (tgt := 34) dX8_logOf_27 (by decide) (by omega) (fun c27₉ => absurd c27₉ (by first | omega | (simp only [not_true_eq_false, not_false_eq_true]; done) | (simp; done))) (fun c27₉ => ?_)
  refine J.iconst dX8_logOf_30 kI_2 ?_
  refine J.goto (tgt := 35) dX8_logOf_31 (by decide) ?_
  refine pf_X8_42 rfl (by decide) dX8_logOf_35 ?_
  refine J.al0 dX8_logOf_38 ?_
  refine gf_X8_42 rfl (x := nI 2) (by decide) wr_s dX8_logOf_39 ?_
  refine J.if_leN (tgt := 49) dX8_logOf_42 (by decide) (by omega) (fun c42₉ => absurd c42₉ (by first | omega | (simp only [not_true_eq_false, not_false_eq_true]; done) | (simp; done))) (fun c42₉ => ?_)
  refine J.iconst dX8_logOf_45 kI_0 ?_
  refine J.goto (tgt := 62) dX8_logOf_46 (by decide) ?_
  refine J.iret rfl (by decide) (by decide) dX8_logOf_62 ⟨_, rfl, ?_, ?_⟩
  · rfl
  · exact ⟨hMR₉.thr, wr_s, FrM.thr⟩

set_option maxRecDepth 100000 in
set_option maxHeartbeats 4000000 in
theorem c_m_logOf {g : GP} {adr : Nat → Nat} (μ : Mem) {α : A7} (hMR₉ : MR μ α) {i : Nat} (hi1₉ : i < aLn (qS α)) {j : Nat} (hj1₉ : 0 ≤ j) (hj2₉ : j ≤ 2)  : CT g yX8_logOf mX8_logOf (RM 60 0 0) (WM g adr μ) [.ref (adr 237), .int (nI i), .int (nI j)] (PM g adr ((.inl (some (.int (nI (aLg (qS α) (i * 3 + j))))))) (fun μ' => MR μ' (α) ∧ μ' 237 6 = nI 0 ∧ FrM μ' μ)) := by
  refine CT.of (l0 := [some (.ref (adr 237)), some (.int (nI i)), some (.int (nI j))]) (by decide +kernel) rfl (Nat.le_of_ble_eq_true rfl) rfl ?_
  have hln₉ := hMR₉.1.ln
  refine J.al0 dX8_logOf_0 ?_
  refine J.il1 dX8_logOf_1 ?_
  refine J.iconst dX8_logOf_2 kI_0 ?_
  refine J.al0 dX8_logOf_3 ?_
  refine gf_X8_9 rfl (o2 := 238) (by decide) rfl dX8_logOf_4 ?_
  refine J.iconst dX8_logOf_7 kI_0 ?_
  refine J.iald (N := 352) (x := nI (aLn (qS α))) (by decide) (by decide) (by decide) (by omega) hMR₉.1.rLn dX8_logOf_8 ?_
  refine J.iconst dX8_logOf_9 kI_1 ?_
  refine J.isubN dX8_logOf_10 (by omega) ?_
  refine cl_X8_93 rfl (k' := 0) (n' := 0) (inT _ (by omega) (by omega) (by omega)) ⟨⟨by decide, by decide⟩, ⟨rfl, rfl⟩, by decide, by decide⟩ rfl dX8_logOf_11 (fun μ9 h9₉ => ?_)
  rw [h9₉]; clear h9₉
  refine J.if_neN (tgt := 21) dX8_logOf_14 (by decide) (by omega) (fun c14₉ => ?_) (fun c14₉ => absurd c14₉ (by first | omega | (simp only [not_true_eq_false, not_false_eq_true]; done) | (simp; done)))
  refine J.il2 dX8_logOf_21 ?_
  refine J.iconst dX8_logOf_22 kI_0 ?_
  refine J.iconst dX8_logOf_23 kI_2 ?_
  refine cl_X8_93 rfl (k' := 0) (n' := 0) (inT _ (by omega) (by omega) (by omega)) ⟨⟨by decide, by decide⟩, ⟨rfl, rfl⟩, by decide, by decide⟩ rfl dX8_logOf_24 (fun μ9 h9₉ => ?_)
  rw [h9₉]; clear h9₉
  refine J.if_neN (tgt := 34) dX8_logOf_27 (by decide) (by omega) (fun c27₉ => ?_) (fun c27₉ => absurd c27₉ (by first | omega | (simp only [not_true_eq_false, not_false_eq_true]; done) | (simp; done)))
  refine J.iconst dX8_logOf_34 kI_0 ?_
  refine pf_X8_42 rfl (by decide) dX8_logOf_35 ?_
  refine J.al0 dX8_logOf_38 ?_
  refine gf_X8_42 rfl (x := nI 0) (by decide) wr_s dX8_logOf_39 ?_
  refine J.if_leN (tgt := 49) dX8_logOf_42 (by decide) (by omega) (fun c42₉ => ?_) (fun c42₉ => absurd c42₉ (by first | omega | (simp only [not_true_eq_false, not_false_eq_true]; done) | (simp; done)))
  refine J.al0 dX8_logOf_49 ?_
  refine gf_X8_9 rfl (o2 := 238) (by decide) rfl dX8_logOf_50 ?_
  refine J.bipush dX8_logOf_53 kb_72 ?_
  refine J.iconst dX8_logOf_55 kI_3 ?_
  refine J.il1 dX8_logOf_56 ?_
  refine J.imulN dX8_logOf_57 ?_
  refine J.iaddN dX8_logOf_58 ?_
  refine J.il2 dX8_logOf_59 ?_
  refine J.iaddN dX8_logOf_60 ?_
  refine J.iald (N := 352) (x := nI (aLg (qS α) (i * 3 + j))) (by decide) (by decide) (by decide) (by omega) (by rw [wr_n (by omega)]; exact (by have h9₉ := hMR₉.1.rLg (k := i * 3 + j) (by omega); rw [show 72 + 3 * i + j = 72 + (i * 3 + j) by omega]; exact h9₉)) dX8_logOf_61 ?_
  refine J.iret rfl (by decide) (by decide) dX8_logOf_62 ⟨_, rfl, ?_, ?_⟩
  · rfl
  · exact ⟨hMR₉.thr, wr_s, FrM.thr⟩

set_option maxRecDepth 100000 in
set_option maxHeartbeats 4000000 in
theorem c_m_goesToX0 {g : GP} {adr : Nat → Nat} (μ : Mem) {α : A7} (hMR₉ : MR μ α) {i : Int32} (hx₉ : ¬ (0 ≤ i ∧ i < nI 5)) {j : Int32} : CT g yX8_goesTo mX8_goesTo (RM 60 0 0) (WM g adr μ) [.ref (adr 237), .int i, .int j] (PM g adr ((.inl (some (.int (nI 0))))) (fun μ' => MR μ' (α) ∧ μ' 237 6 = nI 1 ∧ FrM μ' μ)) := by
  refine CT.of (l0 := [some (.ref (adr 237)), some (.int i), some (.int j)]) (by decide +kernel) rfl (Nat.le_of_ble_eq_true rfl) rfl ?_
  refine J.al0 dX8_goesTo_0 ?_
  refine J.il1 dX8_goesTo_1 ?_
  refine cl_X8_171 rfl (k' := 0) (n' := 0) (c_m_isShelfF _ hx₉) ⟨⟨by decide, by decide⟩, ⟨rfl, rfl⟩, by decide, by decide⟩ rfl dX8_goesTo_2 (fun μ9 h9₉ => ?_)
  rw [h9₉]; clear h9₉
  refine J.if_eqN (tgt := 15) dX8_goesTo_5 (by decide) (by omega) (fun c5₉ => ?_) (fun c5₉ => absurd c5₉ (by first | omega | (simp only [not_true_eq_false, not_false_eq_true]; done) | (simp; done)))
  refine J.iconst dX8_goesTo_15 kI_1 ?_
  refine J.goto (tgt := 32) dX8_goesTo_16 (by decide) ?_
  refine pf_X8_42 rfl (by decide) dX8_goesTo_32 ?_
  refine J.al0 dX8_goesTo_35 ?_
  refine gf_X8_42 rfl (x := nI 1) (by decide) wr_s dX8_goesTo_36 ?_
  refine J.if_leN (tgt := 46) dX8_goesTo_39 (by decide) (by omega) (fun c39₉ => absurd c39₉ (by first | omega | (simp only [not_true_eq_false, not_false_eq_true]; done) | (simp; done))) (fun c39₉ => ?_)
  refine J.iconst dX8_goesTo_42 kI_0 ?_
  refine J.goto (tgt := 52) dX8_goesTo_43 (by decide) ?_
  refine J.iret rfl (by decide) (by decide) dX8_goesTo_52 ⟨_, rfl, ?_, ?_⟩
  · rfl
  · exact ⟨hMR₉.thr, wr_s, FrM.thr⟩

set_option maxRecDepth 100000 in
set_option maxHeartbeats 4000000 in
theorem c_m_goesToX1 {g : GP} {adr : Nat → Nat} (μ : Mem) {α : A7} (hMR₉ : MR μ α) {i : Nat} (hi1₉ : i < 5) {j : Int32} (hx₉ : ¬ (0 ≤ j ∧ j < nI 32)) : CT g yX8_goesTo mX8_goesTo (RM 60 0 0) (WM g adr μ) [.ref (adr 237), .int (nI i), .int j] (PM g adr ((.inl (some (.int (nI 0))))) (fun μ' => MR μ' (α) ∧ μ' 237 6 = nI 1 ∧ FrM μ' μ)) := by
  refine CT.of (l0 := [some (.ref (adr 237)), some (.int (nI i)), some (.int j)]) (by decide +kernel) rfl (Nat.le_of_ble_eq_true rfl) rfl ?_
  refine J.al0 dX8_goesTo_0 ?_
  refine J.il1 dX8_goesTo_1 ?_
  refine cl_X8_171 rfl (k' := 0) (n' := 0) (c_m_isShelfT _ (by omega)) ⟨⟨by decide, by decide⟩, ⟨rfl, rfl⟩, by decide, by decide⟩ rfl dX8_goesTo_2 (fun μ9 h9₉ => ?_)
  rw [h9₉]; clear h9₉
  refine J.if_eqN (tgt := 15) dX8_goesTo_5 (by decide) (by omega) (fun c5₉ => absurd c5₉ (by first | omega | (simp only [not_true_eq_false, not_false_eq_true]; done) | (simp; done))) (fun c5₉ => ?_)
  refine J.il2 dX8_goesTo_8 ?_
  refine cl_X8_115 rfl (k' := 0) (n' := 0) (c_m_isSlotF _ hx₉) ⟨⟨by decide, by decide⟩, ⟨rfl, rfl⟩, by decide, by decide⟩ rfl dX8_goesTo_9 (fun μ9 h9₉ => ?_)
  rw [h9₉]; clear h9₉
  refine J.if_neN (tgt := 19) dX8_goesTo_12 (by decide) (by omega) (fun c12₉ => absurd c12₉ (by first | omega | (simp only [not_true_eq_false, not_false_eq_true]; done) | (simp; done))) (fun c12₉ => ?_)
  refine J.iconst dX8_goesTo_15 kI_1 ?_
  refine J.goto (tgt := 32) dX8_goesTo_16 (by decide) ?_
  refine pf_X8_42 rfl (by decide) dX8_goesTo_32 ?_
  refine J.al0 dX8_goesTo_35 ?_
  refine gf_X8_42 rfl (x := nI 1) (by decide) wr_s dX8_goesTo_36 ?_
  refine J.if_leN (tgt := 46) dX8_goesTo_39 (by decide) (by omega) (fun c39₉ => absurd c39₉ (by first | omega | (simp only [not_true_eq_false, not_false_eq_true]; done) | (simp; done))) (fun c39₉ => ?_)
  refine J.iconst dX8_goesTo_42 kI_0 ?_
  refine J.goto (tgt := 52) dX8_goesTo_43 (by decide) ?_
  refine J.iret rfl (by decide) (by decide) dX8_goesTo_52 ⟨_, rfl, ?_, ?_⟩
  · rfl
  · exact ⟨hMR₉.thr, wr_s, FrM.thr⟩

set_option maxRecDepth 100000 in
set_option maxHeartbeats 4000000 in
theorem c_m_goesToX2 {g : GP} {adr : Nat → Nat} (μ : Mem) {α : A7} (hMR₉ : MR μ α) {i : Nat} (hi1₉ : i < 5) {j : Nat} (hj1₉ : j < 32) (hx₉ : ¬ aFl (qS α) i = true) : CT g yX8_goesTo mX8_goesTo (RM 60 0 0) (WM g adr μ) [.ref (adr 237), .int (nI i), .int (nI j)] (PM g adr ((.inl (some (.int (nI 0))))) (fun μ' => MR μ' (α) ∧ μ' 237 6 = nI 2 ∧ FrM μ' μ)) := by
  refine CT.of (l0 := [some (.ref (adr 237)), some (.int (nI i)), some (.int (nI j))]) (by decide +kernel) rfl (Nat.le_of_ble_eq_true rfl) rfl ?_
  refine J.al0 dX8_goesTo_0 ?_
  refine J.il1 dX8_goesTo_1 ?_
  refine cl_X8_171 rfl (k' := 0) (n' := 0) (c_m_isShelfT _ (by omega)) ⟨⟨by decide, by decide⟩, ⟨rfl, rfl⟩, by decide, by decide⟩ rfl dX8_goesTo_2 (fun μ9 h9₉ => ?_)
  rw [h9₉]; clear h9₉
  refine J.if_eqN (tgt := 15) dX8_goesTo_5 (by decide) (by omega) (fun c5₉ => absurd c5₉ (by first | omega | (simp only [not_true_eq_false, not_false_eq_true]; done) | (simp; done))) (fun c5₉ => ?_)
  refine J.il2 dX8_goesTo_8 ?_
  refine cl_X8_115 rfl (k' := 0) (n' := 0) (c_m_isSlotT _ (by omega)) ⟨⟨by decide, by decide⟩, ⟨rfl, rfl⟩, by decide, by decide⟩ rfl dX8_goesTo_9 (fun μ9 h9₉ => ?_)
  rw [h9₉]; clear h9₉
  refine J.if_neN (tgt := 19) dX8_goesTo_12 (by decide) (by omega) (fun c12₉ => ?_) (fun c12₉ => absurd c12₉ (by first | omega | (simp only [not_true_eq_false, not_false_eq_true]; done) | (simp; done)))
  refine J.al0 dX8_goesTo_19 ?_
  refine J.il1 dX8_goesTo_20 ?_
  refine cl_X8_177 rfl (by decide) (k' := 0) (n' := 0) (c_m_isEmptyT _ hMR₉.1 (by omega) hx₉) ⟨⟨by decide, by decide⟩, ⟨rfl, rfl⟩, by decide, by decide⟩ rfl dX8_goesTo_21 (fun μ9 h9₉ => ?_)
  rw [h9₉]; clear h9₉
  refine J.if_eqN (tgt := 31) dX8_goesTo_24 (by decide) (by omega) (fun c24₉ => absurd c24₉ (by first | omega | (simp only [not_true_eq_false, not_false_eq_true]; done) | (simp; done))) (fun c24₉ => ?_)
  refine J.iconst dX8_goesTo_27 kI_2 ?_
  refine J.goto (tgt := 32) dX8_goesTo_28 (by decide) ?_
  refine pf_X8_42 rfl (by decide) dX8_goesTo_32 ?_
  refine J.al0 dX8_goesTo_35 ?_
  refine gf_X8_42 rfl (x := nI 2) (by decide) wr_s dX8_goesTo_36 ?_
  refine J.if_leN (tgt := 46) dX8_goesTo_39 (by decide) (by omega) (fun c39₉ => absurd c39₉ (by first | omega | (simp only [not_true_eq_false, not_false_eq_true]; done) | (simp; done))) (fun c39₉ => ?_)
  refine J.iconst dX8_goesTo_42 kI_0 ?_
  refine J.goto (tgt := 52) dX8_goesTo_43 (by decide) ?_
  refine J.iret rfl (by decide) (by decide) dX8_goesTo_52 ⟨_, rfl, ?_, ?_⟩
  · rfl
  · exact ⟨hMR₉.thr, wr_s, FrM.thr⟩

set_option maxRecDepth 100000 in
set_option maxHeartbeats 4000000 in
theorem c_m_goesTo {g : GP} {adr : Nat → Nat} (μ : Mem) {α : A7} (hMR₉ : MR μ α) {i : Nat} (hi1₉ : i < 5) {j : Nat} (hj1₉ : j < 32) (hfi₉ : aFl (qS α) i = true)  : CT g yX8_goesTo mX8_goesTo (RM 60 0 0) (WM g adr μ) [.ref (adr 237), .int (nI i), .int (nI j)] (PM g adr ((.inl (some (.int (nI (aSh (qS α) i j)))))) (fun μ' => MR μ' (α) ∧ μ' 237 6 = nI 0 ∧ FrM μ' μ)) := by
  refine CT.of (l0 := [some (.ref (adr 237)), some (.int (nI i)), some (.int (nI j))]) (by decide +kernel) rfl (Nat.le_of_ble_eq_true rfl) rfl ?_
  refine J.al0 dX8_goesTo_0 ?_
  refine J.il1 dX8_goesTo_1 ?_
  refine cl_X8_171 rfl (k' := 0) (n' := 0) (c_m_isShelfT _ (by omega)) ⟨⟨by decide, by decide⟩, ⟨rfl, rfl⟩, by decide, by decide⟩ rfl dX8_goesTo_2 (fun μ9 h9₉ => ?_)
  rw [h9₉]; clear h9₉
  refine J.if_eqN (tgt := 15) dX8_goesTo_5 (by decide) (by omega) (fun c5₉ => absurd c5₉ (by first | omega | (simp only [not_true_eq_false, not_false_eq_true]; done) | (simp; done))) (fun c5₉ => ?_)
  refine J.il2 dX8_goesTo_8 ?_
  refine cl_X8_115 rfl (k' := 0) (n' := 0) (c_m_isSlotT _ (by omega)) ⟨⟨by decide, by decide⟩, ⟨rfl, rfl⟩, by decide, by decide⟩ rfl dX8_goesTo_9 (fun μ9 h9₉ => ?_)
  rw [h9₉]; clear h9₉
  refine J.if_neN (tgt := 19) dX8_goesTo_12 (by decide) (by omega) (fun c12₉ => ?_) (fun c12₉ => absurd c12₉ (by first | omega | (simp only [not_true_eq_false, not_false_eq_true]; done) | (simp; done)))
  refine J.al0 dX8_goesTo_19 ?_
  refine J.il1 dX8_goesTo_20 ?_
  refine cl_X8_177 rfl (by decide) (k' := 0) (n' := 0) (c_m_isEmptyF _ hMR₉.1 (by omega) hfi₉) ⟨⟨by decide, by decide⟩, ⟨rfl, rfl⟩, by decide, by decide⟩ rfl dX8_goesTo_21 (fun μ9 h9₉ => ?_)
  rw [h9₉]; clear h9₉
  refine J.if_eqN (tgt := 31) dX8_goesTo_24 (by decide) (by omega) (fun c24₉ => ?_) (fun c24₉ => absurd c24₉ (by first | omega | (simp only [not_true_eq_false, not_false_eq_true]; done) | (simp; done)))
  refine J.iconst dX8_goesTo_31 kI_0 ?_
  refine pf_X8_42 rfl (by decide) dX8_goesTo_32 ?_
  refine J.al0 dX8_goesTo_35 ?_
  refine gf_X8_42 rfl (x := nI 0) (by decide) wr_s dX8_goesTo_36 ?_
  refine J.if_leN (tgt := 46) dX8_goesTo_39 (by decide) (by omega) (fun c39₉ => ?_) (fun c39₉ => absurd c39₉ (by first | omega | (simp only [not_true_eq_false, not_false_eq_true]; done) | (simp; done)))
  refine J.al0 dX8_goesTo_46 ?_
  refine J.il1 dX8_goesTo_47 ?_
  refine J.il2 dX8_goesTo_48 ?_
  have hBix := hMR₉.1.vs.2.2.2.2 i hi1₉ hfi₉
  refine cl_X8_183 rfl (by decide) (k' := 0) (n' := 0) (c_m_goes _ hi1₉ (MS.shr (MS.off hMR₉.1 (by simp only [wr_o (show (238 : Nat) ≠ 237 by decide)])) hi1₉ hfi₉) (by omega)) ⟨⟨by decide, by decide⟩, ⟨rfl, rfl⟩, by decide, by decide⟩ rfl dX8_goesTo_49 (fun μ9 h9₉ => ?_)
  rw [h9₉]; clear h9₉
  have hgb49₉ := hBix.1 j (by omega)
  refine J.iret rfl (by decide) (by decide) dX8_goesTo_52 ⟨_, rfl, ?_, ?_⟩
  · rfl
  · exact ⟨hMR₉.thr, wr_s, FrM.thr⟩

set_option maxRecDepth 100000 in
set_option maxHeartbeats 4000000 in
theorem c_m_cycleX0 {g : GP} {adr : Nat → Nat} (μ : Mem) {α : A7} (hMR₉ : MR μ α) {i : Int32} (hx₉ : ¬ (0 ≤ i ∧ i < nI 5)) {j : Int32} : CT g yX8_cycle mX8_cycle (RM 60 0 0) (WM g adr μ) [.ref (adr 237), .int i, .int j] (PM g adr ((.inl (some (.int (nI 0))))) (fun μ' => MR μ' (α) ∧ μ' 237 6 = nI 1 ∧ FrM μ' μ)) := by
  refine CT.of (l0 := [some (.ref (adr 237)), some (.int i), some (.int j)]) (by decide +kernel) rfl (Nat.le_of_ble_eq_true rfl) rfl ?_
  refine J.al0 dX8_cycle_0 ?_
  refine J.il1 dX8_cycle_1 ?_
  refine cl_X8_171 rfl (k' := 0) (n' := 0) (c_m_isShelfF _ hx₉) ⟨⟨by decide, by decide⟩, ⟨rfl, rfl⟩, by decide, by decide⟩ rfl dX8_cycle_2 (fun μ9 h9₉ => ?_)
  rw [h9₉]; clear h9₉
  refine J.if_eqN (tgt := 15) dX8_cycle_5 (by decide) (by omega) (fun c5₉ => ?_) (fun c5₉ => absurd c5₉ (by first | omega | (simp only [not_true_eq_false, not_false_eq_true]; done) | (simp; done)))
  refine J.iconst dX8_cycle_15 kI_1 ?_
  refine J.goto (tgt := 32) dX8_cycle_16 (by decide) ?_
  refine pf_X8_42 rfl (by decide) dX8_cycle_32 ?_
  refine J.al0 dX8_cycle_35 ?_
  refine gf_X8_42 rfl (x := nI 1) (by decide) wr_s dX8_cycle_36 ?_
  refine J.if_leN (tgt := 46) dX8_cycle_39 (by decide) (by omega) (fun c39₉ => absurd c39₉ (by first | omega | (simp only [not_true_eq_false, not_false_eq_true]; done) | (simp; done))) (fun c39₉ => ?_)
  refine J.iconst dX8_cycle_42 kI_0 ?_
  refine J.goto (tgt := 52) dX8_cycle_43 (by decide) ?_
  refine J.iret rfl (by decide) (by decide) dX8_cycle_52 ⟨_, rfl, ?_, ?_⟩
  · rfl
  · exact ⟨hMR₉.thr, wr_s, FrM.thr⟩
