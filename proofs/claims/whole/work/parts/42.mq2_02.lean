/-! ===== printed: the model: lines, texts, accounts, undo ===== -/
set_option maxRecDepth 100000 in
set_option maxHeartbeats 4000000 in
theorem c_m_refOk1 {g : GP} {adr : Nat → Nat} (μ : Mem) {α : A7} {a d : Nat} (hMR₉ : MR μ α) (hx₉ : qR α = some (a, d)) : CT g yX8_refusal mX8_refusal (RM 60 0 0) (WM g adr μ) [.ref (adr 237), .int (nI 1)] (PM g adr ((.inl (some (.int (nI d))))) (fun μ' => MR μ' (α) ∧ μ' 237 6 = nI 0 ∧ FrM μ' μ)) := by
  refine CT.of (l0 := [some (.ref (adr 237)), some (.int (nI 1))]) (by decide +kernel) rfl (Nat.le_of_ble_eq_true rfl) rfl ?_
  have hr₉ : μ 237 7 = nI a ∧ μ 237 8 = nI d ∧ 1 ≤ a ∧ a < 2147483648 := by have h9₉ := hMR₉.2.2.2.2.2.2.2.2.2; rw [hx₉] at h9₉; exact h9₉
  have hr2₉ := hr₉.2.2
  refine J.al0 dX8_refusal_0 ?_
  refine J.al0 dX8_refusal_1 ?_
  refine gf_X8_54 rfl (x := nI a) (by decide) hr₉.1 dX8_refusal_2 ?_
  refine J.if_neN (tgt := 12) dX8_refusal_5 (by decide) (by omega) (fun c5₉ => ?_) (fun c5₉ => absurd c5₉ (by first | omega | (simp only [not_true_eq_false, not_false_eq_true]; done) | (simp; done)))
  refine J.iconst dX8_refusal_12 kI_0 ?_
  refine pf_X8_42 rfl (by decide) dX8_refusal_13 ?_
  refine J.al0 dX8_refusal_16 ?_
  refine gf_X8_42 rfl (x := nI 0) (by decide) wr_s dX8_refusal_17 ?_
  refine J.if_leN (tgt := 27) dX8_refusal_20 (by decide) (by omega) (fun c20₉ => ?_) (fun c20₉ => absurd c20₉ (by first | omega | (simp only [not_true_eq_false, not_false_eq_true]; done) | (simp; done)))
  refine J.il1 dX8_refusal_27 ?_
  refine J.if_eqN (tgt := 38) dX8_refusal_28 (by decide) (by omega) (fun c28₉ => absurd c28₉ (by first | omega | (simp only [not_true_eq_false, not_false_eq_true]; done) | (simp; done))) (fun c28₉ => ?_)
  refine J.al0 dX8_refusal_31 ?_
  refine gf_X8_57 rfl (x := nI d) (by decide) (by rw [wr_n (by omega)]; exact hr₉.2.1) dX8_refusal_32 ?_
  refine J.goto (tgt := 42) dX8_refusal_35 (by decide) ?_
  refine J.iret rfl (by decide) (by decide) dX8_refusal_42 ⟨_, rfl, ?_, ?_⟩
  · rfl
  · exact ⟨hMR₉.thr, wr_s, FrM.thr⟩

set_option maxRecDepth 100000 in
set_option maxHeartbeats 4000000 in
theorem c_m_accountX0 {g : GP} {adr : Nat → Nat} (μ : Mem) {α : A7} (hMR₉ : MR μ α) {i : Int32} (hx₉ : i < nI 0 ∨ nI 7 < i) : CT g yX8_account mX8_account (RM 60 0 0) (WM g adr μ) [.ref (adr 237), .int i] (PM g adr ((.inl (some (.int (nI 0))))) (fun μ' => MR μ' (α) ∧ μ' 237 6 = nI 1 ∧ FrM μ' μ)) := by
  refine CT.of (l0 := [some (.ref (adr 237)), some (.int i)]) (by decide +kernel) rfl (Nat.le_of_ble_eq_true rfl) rfl ?_
  refine J.al0 dX8_account_0 ?_
  refine J.il1 dX8_account_1 ?_
  refine J.iconst dX8_account_2 kI_0 ?_
  refine J.bipush dX8_account_3 kb_7 ?_
  refine cl_X8_93 rfl (k' := 0) (n' := 0) (inF _ (in_rng hx₉)) ⟨⟨by decide, by decide⟩, ⟨rfl, rfl⟩, by decide, by decide⟩ rfl dX8_account_5 (fun μ9 h9₉ => ?_)
  rw [h9₉]; clear h9₉
  refine J.if_eqN (tgt := 15) dX8_account_8 (by decide) (by omega) (fun c8₉ => ?_) (fun c8₉ => absurd c8₉ (by first | omega | (simp only [not_true_eq_false, not_false_eq_true]; done) | (simp; done)))
  refine J.iconst dX8_account_15 kI_1 ?_
  refine pf_X8_42 rfl (by decide) dX8_account_16 ?_
  refine J.al0 dX8_account_19 ?_
  refine gf_X8_42 rfl (x := nI 1) (by decide) wr_s dX8_account_20 ?_
  refine J.if_leN (tgt := 28) dX8_account_23 (by decide) (by omega) (fun c23₉ => absurd c23₉ (by first | omega | (simp only [not_true_eq_false, not_false_eq_true]; done) | (simp; done))) (fun c23₉ => ?_)
  refine J.iconst dX8_account_26 kI_0 ?_
  refine J.iret rfl (by decide) (by decide) dX8_account_27 ⟨_, rfl, ?_, ?_⟩
  · rfl
  · exact ⟨hMR₉.thr, wr_s, FrM.thr⟩

set_option maxRecDepth 100000 in
set_option maxHeartbeats 4000000 in
theorem c_m_acc0 {g : GP} {adr : Nat → Nat} (μ : Mem) {α : A7} (hMR₉ : MR μ α) : CT g yX8_account mX8_account (RM 60 0 0) (WM g adr μ) [.ref (adr 237), .int (nI 0)] (PM g adr ((.inl (some (.int (nI (cnt (fun s => decide (aAt (qS α) s = s)) 32)))))) (fun μ' => MR μ' (α) ∧ μ' 237 6 = nI 0 ∧ FrM μ' μ)) := by
  refine CT.of (l0 := [some (.ref (adr 237)), some (.int (nI 0))]) (by decide +kernel) rfl (Nat.le_of_ble_eq_true rfl) rfl ?_
  refine J.al0 dX8_account_0 ?_
  refine J.il1 dX8_account_1 ?_
  refine J.iconst dX8_account_2 kI_0 ?_
  refine J.bipush dX8_account_3 kb_7 ?_
  refine cl_X8_93 rfl (k' := 0) (n' := 0) (inT _ (by decide) (by decide) (by decide)) ⟨⟨by decide, by decide⟩, ⟨rfl, rfl⟩, by decide, by decide⟩ rfl dX8_account_5 (fun μ9 h9₉ => ?_)
  rw [h9₉]; clear h9₉
  refine J.if_eqN (tgt := 15) dX8_account_8 (by decide) (by omega) (fun c8₉ => absurd c8₉ (by first | omega | (simp only [not_true_eq_false, not_false_eq_true]; done) | (simp; done))) (fun c8₉ => ?_)
  refine J.iconst dX8_account_11 kI_0 ?_
  refine J.goto (tgt := 16) dX8_account_12 (by decide) ?_
  refine pf_X8_42 rfl (by decide) dX8_account_16 ?_
  refine J.al0 dX8_account_19 ?_
  refine gf_X8_42 rfl (x := nI 0) (by decide) wr_s dX8_account_20 ?_
  refine J.if_leN (tgt := 28) dX8_account_23 (by decide) (by omega) (fun c23₉ => ?_) (fun c23₉ => absurd c23₉ (by first | omega | (simp only [not_true_eq_false, not_false_eq_true]; done) | (simp; done)))
  refine J.il1 dX8_account_28 ?_
  refine J.tableIn (tgt := 72) dX8_account_29 (by decide) (by decide) rfl (by decide) ?_
  refine J.al0 dX8_account_72 ?_
  refine cl_X8_107 rfl (by decide) (k' := 0) (n' := 0) (c_m_home _ (f := aAt (qS α)) (fun k hk₉ => (MS.rAt (MS.off hMR₉.1 (by simp only [wr_o (show (238 : Nat) ≠ 237 by decide)])) hk₉)) (fun k hk₉ => hMR₉.1.vs.1.1 k hk₉)) ⟨⟨by decide, by decide⟩, ⟨rfl, rfl⟩, by decide, by decide⟩ rfl dX8_account_73 (fun μ9 h9₉ => ?_)
  rw [h9₉]; clear h9₉
  refine J.iret rfl (by decide) (by decide) dX8_account_76 ⟨_, rfl, ?_, ?_⟩
  · rfl
  · exact ⟨hMR₉.thr, wr_s, FrM.thr⟩

set_option maxRecDepth 100000 in
set_option maxHeartbeats 4000000 in
theorem c_m_acc1 {g : GP} {adr : Nat → Nat} (μ : Mem) {α : A7} (hMR₉ : MR μ α) : CT g yX8_account mX8_account (RM 60 0 0) (WM g adr μ) [.ref (adr 237), .int (nI 1)] (PM g adr ((.inl (some (.int (nI (cnt (oneB (fun s => aCol (qS α) (aAt (qS α) s))) 4)))))) (fun μ' => MR μ' (α) ∧ μ' 237 6 = nI 0 ∧ FrM μ' μ)) := by
  refine CT.of (l0 := [some (.ref (adr 237)), some (.int (nI 1))]) (by decide +kernel) rfl (Nat.le_of_ble_eq_true rfl) rfl ?_
  refine J.al0 dX8_account_0 ?_
  refine J.il1 dX8_account_1 ?_
  refine J.iconst dX8_account_2 kI_0 ?_
  refine J.bipush dX8_account_3 kb_7 ?_
  refine cl_X8_93 rfl (k' := 0) (n' := 0) (inT _ (by decide) (by decide) (by decide)) ⟨⟨by decide, by decide⟩, ⟨rfl, rfl⟩, by decide, by decide⟩ rfl dX8_account_5 (fun μ9 h9₉ => ?_)
  rw [h9₉]; clear h9₉
  refine J.if_eqN (tgt := 15) dX8_account_8 (by decide) (by omega) (fun c8₉ => absurd c8₉ (by first | omega | (simp only [not_true_eq_false, not_false_eq_true]; done) | (simp; done))) (fun c8₉ => ?_)
  refine J.iconst dX8_account_11 kI_0 ?_
  refine J.goto (tgt := 16) dX8_account_12 (by decide) ?_
  refine pf_X8_42 rfl (by decide) dX8_account_16 ?_
  refine J.al0 dX8_account_19 ?_
  refine gf_X8_42 rfl (x := nI 0) (by decide) wr_s dX8_account_20 ?_
  refine J.if_leN (tgt := 28) dX8_account_23 (by decide) (by omega) (fun c23₉ => ?_) (fun c23₉ => absurd c23₉ (by first | omega | (simp only [not_true_eq_false, not_false_eq_true]; done) | (simp; done)))
  refine J.il1 dX8_account_28 ?_
  refine J.tableIn (tgt := 77) dX8_account_29 (by decide) (by decide) rfl (by decide) ?_
  refine J.al0 dX8_account_77 ?_
  refine cl_X8_214 rfl (by decide) (k' := 0) (n' := 0) (c_m_doneMany _ (MS.off hMR₉.1 (by simp only [wr_o (show (238 : Nat) ≠ 237 by decide)]))) ⟨⟨by decide, by decide⟩, ⟨rfl, rfl⟩, by decide, by decide⟩ rfl dX8_account_78 (fun μ9 h9₉ => ?_)
  rw [h9₉]; clear h9₉
  refine J.iret rfl (by decide) (by decide) dX8_account_81 ⟨_, rfl, ?_, ?_⟩
  · rfl
  · exact ⟨hMR₉.thr, wr_s, FrM.thr⟩

set_option maxRecDepth 100000 in
set_option maxHeartbeats 4000000 in
theorem c_m_acc2 {g : GP} {adr : Nat → Nat} (μ : Mem) {α : A7} (hMR₉ : MR μ α) : CT g yX8_account mX8_account (RM 60 0 0) (WM g adr μ) [.ref (adr 237), .int (nI 2)] (PM g adr ((.inl (some (.int (nI (aLn (qS α))))))) (fun μ' => MR μ' (α) ∧ μ' 237 6 = nI 0 ∧ FrM μ' μ)) := by
  refine CT.of (l0 := [some (.ref (adr 237)), some (.int (nI 2))]) (by decide +kernel) rfl (Nat.le_of_ble_eq_true rfl) rfl ?_
  refine J.al0 dX8_account_0 ?_
  refine J.il1 dX8_account_1 ?_
  refine J.iconst dX8_account_2 kI_0 ?_
  refine J.bipush dX8_account_3 kb_7 ?_
  refine cl_X8_93 rfl (k' := 0) (n' := 0) (inT _ (by decide) (by decide) (by decide)) ⟨⟨by decide, by decide⟩, ⟨rfl, rfl⟩, by decide, by decide⟩ rfl dX8_account_5 (fun μ9 h9₉ => ?_)
  rw [h9₉]; clear h9₉
  refine J.if_eqN (tgt := 15) dX8_account_8 (by decide) (by omega) (fun c8₉ => absurd c8₉ (by first | omega | (simp only [not_true_eq_false, not_false_eq_true]; done) | (simp; done))) (fun c8₉ => ?_)
  refine J.iconst dX8_account_11 kI_0 ?_
  refine J.goto (tgt := 16) dX8_account_12 (by decide) ?_
  refine pf_X8_42 rfl (by decide) dX8_account_16 ?_
  refine J.al0 dX8_account_19 ?_
  refine gf_X8_42 rfl (x := nI 0) (by decide) wr_s dX8_account_20 ?_
  refine J.if_leN (tgt := 28) dX8_account_23 (by decide) (by omega) (fun c23₉ => ?_) (fun c23₉ => absurd c23₉ (by first | omega | (simp only [not_true_eq_false, not_false_eq_true]; done) | (simp; done)))
  refine J.il1 dX8_account_28 ?_
  refine J.tableIn (tgt := 82) dX8_account_29 (by decide) (by decide) rfl (by decide) ?_
  refine J.al0 dX8_account_82 ?_
  refine gf_X8_9 rfl (o2 := 238) (by decide) rfl dX8_account_83 ?_
  refine J.iconst dX8_account_86 kI_0 ?_
  refine J.iald (N := 352) (x := nI (aLn (qS α))) (by decide) (by decide) (by decide) (by omega) (by rw [wr_n (by omega)]; exact hMR₉.1.rLn) dX8_account_87 ?_
  refine J.iret rfl (by decide) (by decide) dX8_account_88 ⟨_, rfl, ?_, ?_⟩
  · rfl
  · exact ⟨hMR₉.thr, wr_s, FrM.thr⟩

set_option maxRecDepth 100000 in
set_option maxHeartbeats 4000000 in
theorem c_m_acc3 {g : GP} {adr : Nat → Nat} (μ : Mem) {α : A7} (hMR₉ : MR μ α) : CT g yX8_account mX8_account (RM 60 0 0) (WM g adr μ) [.ref (adr 237), .int (nI 3)] (PM g adr ((.inl (some (.int (nI (aMv (qS α))))))) (fun μ' => MR μ' (α) ∧ μ' 237 6 = nI 0 ∧ FrM μ' μ)) := by
  refine CT.of (l0 := [some (.ref (adr 237)), some (.int (nI 3))]) (by decide +kernel) rfl (Nat.le_of_ble_eq_true rfl) rfl ?_
  refine J.al0 dX8_account_0 ?_
  refine J.il1 dX8_account_1 ?_
  refine J.iconst dX8_account_2 kI_0 ?_
  refine J.bipush dX8_account_3 kb_7 ?_
  refine cl_X8_93 rfl (k' := 0) (n' := 0) (inT _ (by decide) (by decide) (by decide)) ⟨⟨by decide, by decide⟩, ⟨rfl, rfl⟩, by decide, by decide⟩ rfl dX8_account_5 (fun μ9 h9₉ => ?_)
  rw [h9₉]; clear h9₉
  refine J.if_eqN (tgt := 15) dX8_account_8 (by decide) (by omega) (fun c8₉ => absurd c8₉ (by first | omega | (simp only [not_true_eq_false, not_false_eq_true]; done) | (simp; done))) (fun c8₉ => ?_)
  refine J.iconst dX8_account_11 kI_0 ?_
  refine J.goto (tgt := 16) dX8_account_12 (by decide) ?_
  refine pf_X8_42 rfl (by decide) dX8_account_16 ?_
  refine J.al0 dX8_account_19 ?_
  refine gf_X8_42 rfl (x := nI 0) (by decide) wr_s dX8_account_20 ?_
  refine J.if_leN (tgt := 28) dX8_account_23 (by decide) (by omega) (fun c23₉ => ?_) (fun c23₉ => absurd c23₉ (by first | omega | (simp only [not_true_eq_false, not_false_eq_true]; done) | (simp; done)))
  refine J.il1 dX8_account_28 ?_
  refine J.tableIn (tgt := 89) dX8_account_29 (by decide) (by decide) rfl (by decide) ?_
  refine J.al0 dX8_account_89 ?_
  refine gf_X8_9 rfl (o2 := 238) (by decide) rfl dX8_account_90 ?_
  refine J.iconst dX8_account_93 kI_1 ?_
  refine J.iald (N := 352) (x := nI (aMv (qS α))) (by decide) (by decide) (by decide) (by omega) (by rw [wr_n (by omega)]; exact hMR₉.1.rMv) dX8_account_94 ?_
  refine J.iret rfl (by decide) (by decide) dX8_account_95 ⟨_, rfl, ?_, ?_⟩
  · rfl
  · exact ⟨hMR₉.thr, wr_s, FrM.thr⟩

set_option maxRecDepth 100000 in
set_option maxHeartbeats 4000000 in
theorem c_m_acc4 {g : GP} {adr : Nat → Nat} (μ : Mem) {α : A7} (hMR₉ : MR μ α) : CT g yX8_account mX8_account (RM 60 0 0) (WM g adr μ) [.ref (adr 237), .int (nI 4)] (PM g adr ((.inl (some (.int (nI (aRd (qS α))))))) (fun μ' => MR μ' (α) ∧ μ' 237 6 = nI 0 ∧ FrM μ' μ)) := by
  refine CT.of (l0 := [some (.ref (adr 237)), some (.int (nI 4))]) (by decide +kernel) rfl (Nat.le_of_ble_eq_true rfl) rfl ?_
  refine J.al0 dX8_account_0 ?_
  refine J.il1 dX8_account_1 ?_
  refine J.iconst dX8_account_2 kI_0 ?_
  refine J.bipush dX8_account_3 kb_7 ?_
  refine cl_X8_93 rfl (k' := 0) (n' := 0) (inT _ (by decide) (by decide) (by decide)) ⟨⟨by decide, by decide⟩, ⟨rfl, rfl⟩, by decide, by decide⟩ rfl dX8_account_5 (fun μ9 h9₉ => ?_)
  rw [h9₉]; clear h9₉
  refine J.if_eqN (tgt := 15) dX8_account_8 (by decide) (by omega) (fun c8₉ => absurd c8₉ (by first | omega | (simp only [not_true_eq_false, not_false_eq_true]; done) | (simp; done))) (fun c8₉ => ?_)
  refine J.iconst dX8_account_11 kI_0 ?_
  refine J.goto (tgt := 16) dX8_account_12 (by decide) ?_
  refine pf_X8_42 rfl (by decide) dX8_account_16 ?_
  refine J.al0 dX8_account_19 ?_
  refine gf_X8_42 rfl (x := nI 0) (by decide) wr_s dX8_account_20 ?_
  refine J.if_leN (tgt := 28) dX8_account_23 (by decide) (by omega) (fun c23₉ => ?_) (fun c23₉ => absurd c23₉ (by first | omega | (simp only [not_true_eq_false, not_false_eq_true]; done) | (simp; done)))
  refine J.il1 dX8_account_28 ?_
  refine J.tableIn (tgt := 96) dX8_account_29 (by decide) (by decide) rfl (by decide) ?_
  refine J.al0 dX8_account_96 ?_
  refine gf_X8_9 rfl (o2 := 238) (by decide) rfl dX8_account_97 ?_
  refine J.iconst dX8_account_100 kI_2 ?_
  refine J.iald (N := 352) (x := nI (aRd (qS α))) (by decide) (by decide) (by decide) (by omega) (by rw [wr_n (by omega)]; exact hMR₉.1.rRd) dX8_account_101 ?_
  refine J.iret rfl (by decide) (by decide) dX8_account_102 ⟨_, rfl, ?_, ?_⟩
  · rfl
  · exact ⟨hMR₉.thr, wr_s, FrM.thr⟩

set_option maxRecDepth 100000 in
set_option maxHeartbeats 4000000 in
theorem c_m_acc5 {g : GP} {adr : Nat → Nat} (μ : Mem) {α : A7} (hMR₉ : MR μ α) : CT g yX8_account mX8_account (RM 60 0 0) (WM g adr μ) [.ref (adr 237), .int (nI 5)] (PM g adr ((.inl (some (.int (nI (cnt (aFl (qS α)) 5)))))) (fun μ' => MR μ' (α) ∧ μ' 237 6 = nI 0 ∧ FrM μ' μ)) := by
  refine CT.of (l0 := [some (.ref (adr 237)), some (.int (nI 5))]) (by decide +kernel) rfl (Nat.le_of_ble_eq_true rfl) rfl ?_
  refine J.al0 dX8_account_0 ?_
  refine J.il1 dX8_account_1 ?_
  refine J.iconst dX8_account_2 kI_0 ?_
  refine J.bipush dX8_account_3 kb_7 ?_
  refine cl_X8_93 rfl (k' := 0) (n' := 0) (inT _ (by decide) (by decide) (by decide)) ⟨⟨by decide, by decide⟩, ⟨rfl, rfl⟩, by decide, by decide⟩ rfl dX8_account_5 (fun μ9 h9₉ => ?_)
  rw [h9₉]; clear h9₉
  refine J.if_eqN (tgt := 15) dX8_account_8 (by decide) (by omega) (fun c8₉ => absurd c8₉ (by first | omega | (simp only [not_true_eq_false, not_false_eq_true]; done) | (simp; done))) (fun c8₉ => ?_)
  refine J.iconst dX8_account_11 kI_0 ?_
  refine J.goto (tgt := 16) dX8_account_12 (by decide) ?_
  refine pf_X8_42 rfl (by decide) dX8_account_16 ?_
  refine J.al0 dX8_account_19 ?_
  refine gf_X8_42 rfl (x := nI 0) (by decide) wr_s dX8_account_20 ?_
  refine J.if_leN (tgt := 28) dX8_account_23 (by decide) (by omega) (fun c23₉ => ?_) (fun c23₉ => absurd c23₉ (by first | omega | (simp only [not_true_eq_false, not_false_eq_true]; done) | (simp; done)))
  refine J.il1 dX8_account_28 ?_
  refine J.tableIn (tgt := 103) dX8_account_29 (by decide) (by decide) rfl (by decide) ?_
  refine J.al0 dX8_account_103 ?_
  refine cl_X8_180 rfl (by decide) (k' := 0) (n' := 0) (c_m_filledMany _ (MS.off hMR₉.1 (by simp only [wr_o (show (238 : Nat) ≠ 237 by decide)]))) ⟨⟨by decide, by decide⟩, ⟨rfl, rfl⟩, by decide, by decide⟩ rfl dX8_account_104 (fun μ9 h9₉ => ?_)
  rw [h9₉]; clear h9₉
  refine J.iret rfl (by decide) (by decide) dX8_account_107 ⟨_, rfl, ?_, ?_⟩
  · rfl
  · exact ⟨hMR₉.thr, wr_s, FrM.thr⟩

set_option maxRecDepth 100000 in
set_option maxHeartbeats 4000000 in
theorem c_m_acc6 {g : GP} {adr : Nat → Nat} (μ : Mem) {α : A7} (hMR₉ : MR μ α) : CT g yX8_account mX8_account (RM 60 0 0) (WM g adr μ) [.ref (adr 237), .int (nI 6)] (PM g adr ((.inl (some (.int (nI ((qI α).1)))))) (fun μ' => MR μ' (α) ∧ μ' 237 6 = nI 0 ∧ FrM μ' μ)) := by
  refine CT.of (l0 := [some (.ref (adr 237)), some (.int (nI 6))]) (by decide +kernel) rfl (Nat.le_of_ble_eq_true rfl) rfl ?_
  refine J.al0 dX8_account_0 ?_
  refine J.il1 dX8_account_1 ?_
  refine J.iconst dX8_account_2 kI_0 ?_
  refine J.bipush dX8_account_3 kb_7 ?_
  refine cl_X8_93 rfl (k' := 0) (n' := 0) (inT _ (by decide) (by decide) (by decide)) ⟨⟨by decide, by decide⟩, ⟨rfl, rfl⟩, by decide, by decide⟩ rfl dX8_account_5 (fun μ9 h9₉ => ?_)
  rw [h9₉]; clear h9₉
  refine J.if_eqN (tgt := 15) dX8_account_8 (by decide) (by omega) (fun c8₉ => absurd c8₉ (by first | omega | (simp only [not_true_eq_false, not_false_eq_true]; done) | (simp; done))) (fun c8₉ => ?_)
  refine J.iconst dX8_account_11 kI_0 ?_
  refine J.goto (tgt := 16) dX8_account_12 (by decide) ?_
  refine pf_X8_42 rfl (by decide) dX8_account_16 ?_
  refine J.al0 dX8_account_19 ?_
  refine gf_X8_42 rfl (x := nI 0) (by decide) wr_s dX8_account_20 ?_
  refine J.if_leN (tgt := 28) dX8_account_23 (by decide) (by omega) (fun c23₉ => ?_) (fun c23₉ => absurd c23₉ (by first | omega | (simp only [not_true_eq_false, not_false_eq_true]; done) | (simp; done)))
  refine J.il1 dX8_account_28 ?_
  refine J.tableIn (tgt := 108) dX8_account_29 (by decide) (by decide) rfl (by decide) ?_
  refine J.al0 dX8_account_108 ?_
  refine gf_X8_134 rfl (x := nI ((qI α).1)) (by decide) (by rw [wr_n (by omega)]; exact hMR₉.2.2.2.2.1.1) dX8_account_109 ?_
  refine J.iret rfl (by decide) (by decide) dX8_account_112 ⟨_, rfl, ?_, ?_⟩
  · rfl
  · exact ⟨hMR₉.thr, wr_s, FrM.thr⟩

set_option maxRecDepth 100000 in
set_option maxHeartbeats 4000000 in
theorem c_m_acc7 {g : GP} {adr : Nat → Nat} (μ : Mem) {α : A7} (hMR₉ : MR μ α) : CT g yX8_account mX8_account (RM 60 0 0) (WM g adr μ) [.ref (adr 237), .int (nI 7)] (PM g adr ((.inl (some (.int (nI (qN α)))))) (fun μ' => MR μ' (α) ∧ μ' 237 6 = nI 0 ∧ FrM μ' μ)) := by
  refine CT.of (l0 := [some (.ref (adr 237)), some (.int (nI 7))]) (by decide +kernel) rfl (Nat.le_of_ble_eq_true rfl) rfl ?_
  refine J.al0 dX8_account_0 ?_
  refine J.il1 dX8_account_1 ?_
  refine J.iconst dX8_account_2 kI_0 ?_
  refine J.bipush dX8_account_3 kb_7 ?_
  refine cl_X8_93 rfl (k' := 0) (n' := 0) (inT _ (by decide) (by decide) (by decide)) ⟨⟨by decide, by decide⟩, ⟨rfl, rfl⟩, by decide, by decide⟩ rfl dX8_account_5 (fun μ9 h9₉ => ?_)
  rw [h9₉]; clear h9₉
  refine J.if_eqN (tgt := 15) dX8_account_8 (by decide) (by omega) (fun c8₉ => absurd c8₉ (by first | omega | (simp only [not_true_eq_false, not_false_eq_true]; done) | (simp; done))) (fun c8₉ => ?_)
  refine J.iconst dX8_account_11 kI_0 ?_
  refine J.goto (tgt := 16) dX8_account_12 (by decide) ?_
  refine pf_X8_42 rfl (by decide) dX8_account_16 ?_
  refine J.al0 dX8_account_19 ?_
  refine gf_X8_42 rfl (x := nI 0) (by decide) wr_s dX8_account_20 ?_
  refine J.if_leN (tgt := 28) dX8_account_23 (by decide) (by omega) (fun c23₉ => ?_) (fun c23₉ => absurd c23₉ (by first | omega | (simp only [not_true_eq_false, not_false_eq_true]; done) | (simp; done)))
  refine J.il1 dX8_account_28 ?_
  refine J.tableOut (tgt := 113) dX8_account_29 (Or.inr (by decide)) (by decide) ?_
  refine J.al0 dX8_account_113 ?_
  refine gf_X8_51 rfl (x := nI (qN α)) (by decide) (by rw [wr_n (by omega)]; exact hMR₉.2.1.1) dX8_account_114 ?_
  refine J.iret rfl (by decide) (by decide) dX8_account_117 ⟨_, rfl, ?_, ?_⟩
  · rfl
  · exact ⟨hMR₉.thr, wr_s, FrM.thr⟩

set_option maxRecDepth 100000 in
set_option maxHeartbeats 4000000 in
theorem c_m_isWell {g : GP} {adr : Nat → Nat} (μ : Mem) {α : A7} (hMR₉ : MR μ α) : CT g yX8_isWell mX8_isWell (RM 60 0 0) (WM g adr μ) [.ref (adr 237)] (PM g adr ((.inl (some (.int (nI 1))))) (fun μ' => MR μ' (α) ∧ μ' 237 6 = nI 0 ∧ FrM μ' μ)) := by
  refine CT.of (l0 := [some (.ref (adr 237)), none, none]) (by decide +kernel) rfl (Nat.le_of_ble_eq_true rfl) rfl ?_
  refine J.al0 dX8_isWell_0 ?_
  refine J.iconst dX8_isWell_1 kI_0 ?_
  refine pf_X8_42 rfl (by decide) dX8_isWell_2 ?_
  refine J.iconst dX8_isWell_5 kI_1 ?_
  refine J.is1 dX8_isWell_6 (by decide) rfl ?_
  refine J.iconst dX8_isWell_7 kI_0 ?_
  refine J.is2 dX8_isWell_8 (by decide) rfl ?_
  have lp9_1 : ∀ (fu : Nat) (c : Nat), 32 < c + fu → c ≤ 32 → J g mX8_isWell (RM 60 0 0) (MQx g (RM 60 0 0) (PM g adr ((.inl (some (.int (nI 1))))) (fun μ' => MR μ' (α) ∧ μ' 237 6 = nI 0 ∧ FrM μ' μ))) 0 0 (WM g adr (wr μ 237 6 (nI 0))) 9 [some (.ref (adr 237)), some (.int (nI 1)), some (.int (nI c))] [] := by
    intro fu
    induction fu with
    | zero => intro c h9₉ hc₉; exact absurd h9₉ (by omega)
    | succ fu ih9 =>
      intro c h9₉ hc₉
      refine J.il2 dX8_isWell_9 ?_
      refine J.bipush dX8_isWell_10 kb_32 ?_
      refine J.icmp_geN (tgt := 48) dX8_isWell_12 (by decide) (by omega) (by omega) (fun c12₉ => ?_) (fun c12₉ => ?_)
      · refine J.il1 dX8_isWell_48 ?_
        refine J.zret (ty := .boolean) rfl (by decide) (by decide) (by decide) dX8_isWell_49 ⟨_, rfl, ?_, ?_⟩
        · rfl
        · exact ⟨hMR₉.thr, wr_s, FrM.thr⟩
      · refine J.il1 dX8_isWell_15 ?_
        refine J.if_eqN (tgt := 40) dX8_isWell_16 (by decide) (by omega) (fun c16₉ => absurd c16₉ (by first | omega | (simp only [not_true_eq_false, not_false_eq_true]; done) | (simp; done))) (fun c16₉ => ?_)
        refine J.al0 dX8_isWell_19 ?_
        refine gf_X8_9 rfl (o2 := 238) (by decide) rfl dX8_isWell_20 ?_
        refine J.bipush dX8_isWell_23 kb_8 ?_
        refine J.al0 dX8_isWell_25 ?_
        refine J.il2 dX8_isWell_26 ?_
        have hpv₉ := hMR₉.1.vs.1.inv1 (k := c) (by omega)
        refine cl_X8_119 rfl (by decide) (k' := 0) (n' := 0) (c_m_slotOf _ (MS.off hMR₉.1 (by simp only [wr_o (show (238 : Nat) ≠ 237 by decide)])) (by omega)) ⟨⟨by decide, by decide⟩, ⟨rfl, rfl⟩, by decide, by decide⟩ rfl dX8_isWell_27 (fun μ9 h9₉ => ?_)
        rw [h9₉]; clear h9₉
        refine J.iaddN dX8_isWell_30 ?_
        have hba₉ := hMR₉.1.vs.1.1 (pinv (aAt (qS α)) c) (by omega)
        refine J.iald (N := 352) (x := nI (aAt (qS α) (pinv (aAt (qS α)) c))) (by decide) (by decide) (by decide) (by omega) (by rw [wr_n (by omega)]; exact (hMR₉.1.rAt (by omega))) dX8_isWell_31 ?_
        refine J.il2 dX8_isWell_32 ?_
        refine J.icmp_neN (tgt := 40) dX8_isWell_33 (by decide) (by omega) (by omega) (fun c33₉ => absurd c33₉ (by first | omega | (simp only [not_true_eq_false, not_false_eq_true]; done) | (simp; done))) (fun c33₉ => ?_)
        refine J.iconst dX8_isWell_36 kI_1 ?_
        refine J.goto (tgt := 41) dX8_isWell_37 (by decide) ?_
        refine J.is1 dX8_isWell_41 (by decide) rfl ?_
        refine J.ii2 (z := 1) dX8_isWell_42 (by decide) (by decide) rfl ?_
        refine J.goto (tgt := 9) dX8_isWell_45 (by decide) ?_
        exact ih9 (c + 1) (by omega) (by omega)
  exact lp9_1 (33) 0 (by omega) (by omega)

set_option maxRecDepth 100000 in
set_option maxHeartbeats 4000000 in
theorem c_m_meanAway {g : GP} {adr : Nat → Nat} (μ : Mem) {α : A7} (hMR₉ : MR μ α) : CT g yX8_meanAway mX8_meanAway (RM 60 0 0) (WM g adr μ) [.ref (adr 237)] (PM g adr (.inl (some (.double (dM (sumU (fun k => apart k (aAt (qS α) k)) 32))))) (fun μ' => MR μ' (α) ∧ μ' 237 6 = nI 0 ∧ FrM μ' μ)) := by
  refine CT.of (l0 := [some (.ref (adr 237)), none, none]) (by decide +kernel) rfl (Nat.le_of_ble_eq_true rfl) rfl ?_
  refine J.al0 dX8_meanAway_0 ?_
  refine J.iconst dX8_meanAway_1 kI_0 ?_
  refine pf_X8_42 rfl (by decide) dX8_meanAway_2 ?_
  refine J.iconst dX8_meanAway_5 kI_0 ?_
  refine J.is1 dX8_meanAway_6 (by decide) rfl ?_
  refine J.iconst dX8_meanAway_7 kI_0 ?_
  refine J.is2 dX8_meanAway_8 (by decide) rfl ?_
  have lp9_1 : ∀ (fu : Nat) (c a : Nat), 32 < c + fu → c ≤ 32 → a = sumU (fun k => apart k (aAt (qS α) k)) c → a ≤ 2 * c → J g mX8_meanAway (RM 60 0 0) (MQx g (RM 60 0 0) (PM g adr (.inl (some (.double (dM (sumU (fun k => apart k (aAt (qS α) k)) 32))))) (fun μ' => MR μ' (α) ∧ μ' 237 6 = nI 0 ∧ FrM μ' μ))) 0 0 (WM g adr (wr μ 237 6 (nI 0))) 9 [some (.ref (adr 237)), some (.int (nI a)), some (.int (nI c))] [] := by
    intro fu
    induction fu with
    | zero => intro c a h9₉ hc₉ ha₉ ha2₉; exact absurd h9₉ (by omega)
    | succ fu ih9 =>
      intro c a h9₉ hc₉ ha₉ ha2₉
      refine J.il2 dX8_meanAway_9 ?_
      refine J.bipush dX8_meanAway_10 kb_32 ?_
      refine J.icmp_geN (tgt := 37) dX8_meanAway_12 (by decide) (by omega) (by omega) (fun c12₉ => ?_) (fun c12₉ => ?_)
      · refine J.il1 dX8_meanAway_37 ?_
        refine J.i2d dX8_meanAway_38 ?_
        refine J.ldc2d (v := 4629700416936869888) dX8_meanAway_39 t_1341 ?_
        refine J.ddiv dX8_meanAway_42 (d_n64 _ (by omega)) ?_
        refine J.dret rfl (by decide) (by decide) dX8_meanAway_43 ⟨_, rfl, ?_, ?_⟩
        · rw [show c = 32 by omega] at ha₉; rw [ha₉]; rfl
        · exact ⟨hMR₉.thr, wr_s, FrM.thr⟩
      · refine J.il1 dX8_meanAway_15 ?_
        refine J.il2 dX8_meanAway_16 ?_
        refine J.al0 dX8_meanAway_17 ?_
        refine gf_X8_9 rfl (o2 := 238) (by decide) rfl dX8_meanAway_18 ?_
        refine J.bipush dX8_meanAway_21 kb_8 ?_
        refine J.il2 dX8_meanAway_23 ?_
        refine J.iaddN dX8_meanAway_24 ?_
        have hba₉ := hMR₉.1.vs.1.1 c (by omega)
        refine J.iald (N := 352) (x := nI (aAt (qS α) c)) (by decide) (by decide) (by decide) (by omega) (by rw [wr_n (by omega)]; exact (hMR₉.1.rAt (by omega))) dX8_meanAway_25 ?_
        have hap₉ := apart_le c (aAt (qS α) c)
        refine cl_X8_131 rfl (k' := 0) (n' := 0) (c_m_apart _ (by omega) (by omega)) ⟨⟨by decide, by decide⟩, ⟨rfl, rfl⟩, by decide, by decide⟩ rfl dX8_meanAway_26 (fun μ9 h9₉ => ?_)
        rw [h9₉]; clear h9₉
        refine J.iaddN dX8_meanAway_29 ?_
        refine J.is1 dX8_meanAway_30 (by decide) rfl ?_
        refine J.ii2 (z := 1) dX8_meanAway_31 (by decide) (by decide) rfl ?_
        refine J.goto (tgt := 9) dX8_meanAway_34 (by decide) ?_
        exact ih9 (c + 1) (a + apart c (aAt (qS α) c)) (by omega) (by omega) (by rw [sumU_1, ha₉]) (by omega)
  exact lp9_1 (33) 0 0 (by omega) (by omega) rfl (by omega)
