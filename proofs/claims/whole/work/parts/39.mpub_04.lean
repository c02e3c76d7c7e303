/-! ===== printed: the model: texts and shelves ===== -/
set_option maxRecDepth 100000 in
set_option maxHeartbeats 4000000 in
theorem c_m_commuteX1 {g : GP} {adr : Nat → Nat} (μ : Mem) {α : A7} (hMR₉ : MR μ α) {i : Nat} (hi1₉ : i < 5) {j : Int32} (hx₉ : ¬ (0 ≤ j ∧ j < nI 5)) {k : Int32} : CT g yX8_commute mX8_commute (RM 60 0 0) (WM g adr μ) [.ref (adr 237), .int (nI i), .int j, .int k] (PM g adr ((.inl (some (.int (nI 0))))) (fun μ' => MR μ' (α) ∧ μ' 237 6 = nI 1 ∧ FrM μ' μ)) := by
  refine CT.of (l0 := [some (.ref (adr 237)), some (.int (nI i)), some (.int j), some (.int k)]) (by decide +kernel) rfl (Nat.le_of_ble_eq_true rfl) rfl ?_
  refine J.al0 dX8_commute_0 ?_
  refine cl_X8_90 rfl (by decide) (k' := 0) (n' := 0) (c_m_keep _) ⟨⟨by decide, by decide⟩, ⟨rfl, rfl⟩, by decide, by decide⟩ rfl dX8_commute_1 (fun μ2 ⟨hK₉, hT0₉, hs0₉, hk4₉⟩ => ?_)
  have hS2₉ : MS μ2 238 0 (qS α) := MS.off hMR₉.1 hs0₉
  have hn2₉ : μ2 237 5 = nI (qN α) := (hk4₉ 237 5 (by decide) (by decide)).trans hMR₉.2.1.1
  refine J.il1 dX8_commute_4 ?_
  refine cl_X8_171 rfl (k' := 0) (n' := 0) (c_m_isShelfT _ (by omega)) ⟨⟨by decide, by decide⟩, ⟨rfl, rfl⟩, by decide, by decide⟩ rfl dX8_commute_5 (fun μ9 h9₉ => ?_)
  rw [h9₉]; clear h9₉
  refine J.if_eqN (tgt := 25) dX8_commute_8 (by decide) (by omega) (fun c8₉ => absurd c8₉ (by first | omega | (simp only [not_true_eq_false, not_false_eq_true]; done) | (simp; done))) (fun c8₉ => ?_)
  refine J.il2 dX8_commute_11 ?_
  refine cl_X8_171 rfl (k' := 0) (n' := 0) (c_m_isShelfF _ hx₉) ⟨⟨by decide, by decide⟩, ⟨rfl, rfl⟩, by decide, by decide⟩ rfl dX8_commute_12 (fun μ9 h9₉ => ?_)
  rw [h9₉]; clear h9₉
  refine J.if_eqN (tgt := 25) dX8_commute_15 (by decide) (by omega) (fun c15₉ => ?_) (fun c15₉ => absurd c15₉ (by first | omega | (simp only [not_true_eq_false, not_false_eq_true]; done) | (simp; done)))
  refine J.al0 dX8_commute_25 ?_
  refine J.al0 dX8_commute_26 ?_
  refine J.iconst dX8_commute_27 kI_1 ?_
  refine cl_X8_97 rfl (by decide) (k' := 0) (n' := 0) (c_m_fails _) ⟨⟨by decide, by decide⟩, ⟨rfl, rfl⟩, by decide, by decide⟩ rfl dX8_commute_28 (fun μf hf₉ => ?_)
  refine cl_X8_100 rfl (by decide) (k' := 0) (n' := 0) (c_m_endsX _ (j := 1) (by rw [hf₉]; exact wr_s) (by decide) (by decide)) ⟨⟨by decide, by decide⟩, ⟨rfl, rfl⟩, by decide, by decide⟩ rfl dX8_commute_31 (fun μe ⟨he1₉, he2₉⟩ => ?_)
  refine J.iret rfl (by decide) (by decide) dX8_commute_34 ⟨_, rfl, ?_, ?_⟩
  · rfl
  · have hbk₉ := hMR₉.back (hK₉.step (by rw [hf₉]; exact KS.rf.wrx (by omega))) he1₉ he2₉
    exact ⟨hbk₉.1, by rw [he2₉ 237 (by decide), hf₉]; exact wr_s, hbk₉.2⟩

set_option maxRecDepth 100000 in
set_option maxHeartbeats 4000000 in
theorem c_m_commuteX2 {g : GP} {adr : Nat → Nat} (μ : Mem) {α : A7} (hMR₉ : MR μ α) {i : Nat} (hi1₉ : i < 5) {j : Nat} (hj1₉ : j < 5) {k : Int32} (hx₉ : ¬ (0 ≤ k ∧ k < nI 5)) : CT g yX8_commute mX8_commute (RM 60 0 0) (WM g adr μ) [.ref (adr 237), .int (nI i), .int (nI j), .int k] (PM g adr ((.inl (some (.int (nI 0))))) (fun μ' => MR μ' (α) ∧ μ' 237 6 = nI 1 ∧ FrM μ' μ)) := by
  refine CT.of (l0 := [some (.ref (adr 237)), some (.int (nI i)), some (.int (nI j)), some (.int k)]) (by decide +kernel) rfl (Nat.le_of_ble_eq_true rfl) rfl ?_
  refine J.al0 dX8_commute_0 ?_
  refine cl_X8_90 rfl (by decide) (k' := 0) (n' := 0) (c_m_keep _) ⟨⟨by decide, by decide⟩, ⟨rfl, rfl⟩, by decide, by decide⟩ rfl dX8_commute_1 (fun μ2 ⟨hK₉, hT0₉, hs0₉, hk4₉⟩ => ?_)
  have hS2₉ : MS μ2 238 0 (qS α) := MS.off hMR₉.1 hs0₉
  have hn2₉ : μ2 237 5 = nI (qN α) := (hk4₉ 237 5 (by decide) (by decide)).trans hMR₉.2.1.1
  refine J.il1 dX8_commute_4 ?_
  refine cl_X8_171 rfl (k' := 0) (n' := 0) (c_m_isShelfT _ (by omega)) ⟨⟨by decide, by decide⟩, ⟨rfl, rfl⟩, by decide, by decide⟩ rfl dX8_commute_5 (fun μ9 h9₉ => ?_)
  rw [h9₉]; clear h9₉
  refine J.if_eqN (tgt := 25) dX8_commute_8 (by decide) (by omega) (fun c8₉ => absurd c8₉ (by first | omega | (simp only [not_true_eq_false, not_false_eq_true]; done) | (simp; done))) (fun c8₉ => ?_)
  refine J.il2 dX8_commute_11 ?_
  refine cl_X8_171 rfl (k' := 0) (n' := 0) (c_m_isShelfT _ (by omega)) ⟨⟨by decide, by decide⟩, ⟨rfl, rfl⟩, by decide, by decide⟩ rfl dX8_commute_12 (fun μ9 h9₉ => ?_)
  rw [h9₉]; clear h9₉
  refine J.if_eqN (tgt := 25) dX8_commute_15 (by decide) (by omega) (fun c15₉ => absurd c15₉ (by first | omega | (simp only [not_true_eq_false, not_false_eq_true]; done) | (simp; done))) (fun c15₉ => ?_)
  refine J.il3 dX8_commute_18 ?_
  refine cl_X8_171 rfl (k' := 0) (n' := 0) (c_m_isShelfF _ hx₉) ⟨⟨by decide, by decide⟩, ⟨rfl, rfl⟩, by decide, by decide⟩ rfl dX8_commute_19 (fun μ9 h9₉ => ?_)
  rw [h9₉]; clear h9₉
  refine J.if_neN (tgt := 35) dX8_commute_22 (by decide) (by omega) (fun c22₉ => absurd c22₉ (by first | omega | (simp only [not_true_eq_false, not_false_eq_true]; done) | (simp; done))) (fun c22₉ => ?_)
  refine J.al0 dX8_commute_25 ?_
  refine J.al0 dX8_commute_26 ?_
  refine J.iconst dX8_commute_27 kI_1 ?_
  refine cl_X8_97 rfl (by decide) (k' := 0) (n' := 0) (c_m_fails _) ⟨⟨by decide, by decide⟩, ⟨rfl, rfl⟩, by decide, by decide⟩ rfl dX8_commute_28 (fun μf hf₉ => ?_)
  refine cl_X8_100 rfl (by decide) (k' := 0) (n' := 0) (c_m_endsX _ (j := 1) (by rw [hf₉]; exact wr_s) (by decide) (by decide)) ⟨⟨by decide, by decide⟩, ⟨rfl, rfl⟩, by decide, by decide⟩ rfl dX8_commute_31 (fun μe ⟨he1₉, he2₉⟩ => ?_)
  refine J.iret rfl (by decide) (by decide) dX8_commute_34 ⟨_, rfl, ?_, ?_⟩
  · rfl
  · have hbk₉ := hMR₉.back (hK₉.step (by rw [hf₉]; exact KS.rf.wrx (by omega))) he1₉ he2₉
    exact ⟨hbk₉.1, by rw [he2₉ 237 (by decide), hf₉]; exact wr_s, hbk₉.2⟩

set_option maxRecDepth 100000 in
set_option maxHeartbeats 4000000 in
theorem c_m_commuteX3 {g : GP} {adr : Nat → Nat} (μ : Mem) {α : A7} (hMR₉ : MR μ α) {i : Nat} (hi1₉ : i < 5) {j : Nat} (hj1₉ : j < 5) {k : Nat} (hk1₉ : k < 5) (hx₉ : ¬ aFl (qS α) i = true) : CT g yX8_commute mX8_commute (RM 60 0 0) (WM g adr μ) [.ref (adr 237), .int (nI i), .int (nI j), .int (nI k)] (PM g adr ((.inl (some (.int (nI 0))))) (fun μ' => MR μ' (aRef 3 i α) ∧ μ' 237 6 = nI 2 ∧ FrM μ' μ)) := by
  refine CT.of (l0 := [some (.ref (adr 237)), some (.int (nI i)), some (.int (nI j)), some (.int (nI k))]) (by decide +kernel) rfl (Nat.le_of_ble_eq_true rfl) rfl ?_
  refine J.al0 dX8_commute_0 ?_
  refine cl_X8_90 rfl (by decide) (k' := 0) (n' := 0) (c_m_keep _) ⟨⟨by decide, by decide⟩, ⟨rfl, rfl⟩, by decide, by decide⟩ rfl dX8_commute_1 (fun μ2 ⟨hK₉, hT0₉, hs0₉, hk4₉⟩ => ?_)
  have hS2₉ : MS μ2 238 0 (qS α) := MS.off hMR₉.1 hs0₉
  have hn2₉ : μ2 237 5 = nI (qN α) := (hk4₉ 237 5 (by decide) (by decide)).trans hMR₉.2.1.1
  refine J.il1 dX8_commute_4 ?_
  refine cl_X8_171 rfl (k' := 0) (n' := 0) (c_m_isShelfT _ (by omega)) ⟨⟨by decide, by decide⟩, ⟨rfl, rfl⟩, by decide, by decide⟩ rfl dX8_commute_5 (fun μ9 h9₉ => ?_)
  rw [h9₉]; clear h9₉
  refine J.if_eqN (tgt := 25) dX8_commute_8 (by decide) (by omega) (fun c8₉ => absurd c8₉ (by first | omega | (simp only [not_true_eq_false, not_false_eq_true]; done) | (simp; done))) (fun c8₉ => ?_)
  refine J.il2 dX8_commute_11 ?_
  refine cl_X8_171 rfl (k' := 0) (n' := 0) (c_m_isShelfT _ (by omega)) ⟨⟨by decide, by decide⟩, ⟨rfl, rfl⟩, by decide, by decide⟩ rfl dX8_commute_12 (fun μ9 h9₉ => ?_)
  rw [h9₉]; clear h9₉
  refine J.if_eqN (tgt := 25) dX8_commute_15 (by decide) (by omega) (fun c15₉ => absurd c15₉ (by first | omega | (simp only [not_true_eq_false, not_false_eq_true]; done) | (simp; done))) (fun c15₉ => ?_)
  refine J.il3 dX8_commute_18 ?_
  refine cl_X8_171 rfl (k' := 0) (n' := 0) (c_m_isShelfT _ (by omega)) ⟨⟨by decide, by decide⟩, ⟨rfl, rfl⟩, by decide, by decide⟩ rfl dX8_commute_19 (fun μ9 h9₉ => ?_)
  rw [h9₉]; clear h9₉
  refine J.if_neN (tgt := 35) dX8_commute_22 (by decide) (by omega) (fun c22₉ => ?_) (fun c22₉ => absurd c22₉ (by first | omega | (simp only [not_true_eq_false, not_false_eq_true]; done) | (simp; done)))
  refine J.al0 dX8_commute_35 ?_
  refine J.il1 dX8_commute_36 ?_
  refine cl_X8_177 rfl (by decide) (k' := 0) (n' := 0) (c_m_isEmptyT _ hS2₉ (by omega) hx₉) ⟨⟨by decide, by decide⟩, ⟨rfl, rfl⟩, by decide, by decide⟩ rfl dX8_commute_37 (fun μ9 h9₉ => ?_)
  rw [h9₉]; clear h9₉
  refine J.if_neN (tgt := 51) dX8_commute_40 (by decide) (by omega) (fun c40₉ => ?_) (fun c40₉ => absurd c40₉ (by first | omega | (simp only [not_true_eq_false, not_false_eq_true]; done) | (simp; done)))
  refine J.al0 dX8_commute_51 ?_
  refine J.al0 dX8_commute_52 ?_
  refine J.iconst dX8_commute_53 kI_2 ?_
  refine J.iconst dX8_commute_54 kI_3 ?_
  refine J.al0 dX8_commute_55 ?_
  refine J.il1 dX8_commute_56 ?_
  refine cl_X8_177 rfl (by decide) (k' := 0) (n' := 0) (c_m_isEmptyT _ hS2₉ (by omega) hx₉) ⟨⟨by decide, by decide⟩, ⟨rfl, rfl⟩, by decide, by decide⟩ rfl dX8_commute_57 (fun μ9 h9₉ => ?_)
  rw [h9₉]; clear h9₉
  refine J.if_eqN (tgt := 67) dX8_commute_60 (by decide) (by omega) (fun c60₉ => absurd c60₉ (by first | omega | (simp only [not_true_eq_false, not_false_eq_true]; done) | (simp; done))) (fun c60₉ => ?_)
  refine J.il1 dX8_commute_63 ?_
  refine J.goto (tgt := 68) dX8_commute_64 (by decide) ?_
  refine cl_X8_110 rfl (by decide) (k' := 0) (n' := 0) (c_m_refuse _) ⟨⟨by decide, by decide⟩, ⟨rfl, rfl⟩, by decide, by decide⟩ rfl dX8_commute_68 (fun μf hf₉ => ?_)
  refine cl_X8_100 rfl (by decide) (k' := 0) (n' := 0) (c_m_endsX _ (j := 2) (by rw [hf₉]; exact (wr_n (by decide)).trans ((wr_n (by decide)).trans wr_s)) (by decide) (by decide)) ⟨⟨by decide, by decide⟩, ⟨rfl, rfl⟩, by decide, by decide⟩ rfl dX8_commute_71 (fun μe ⟨he1₉, he2₉⟩ => ?_)
  refine J.iret rfl (by decide) (by decide) dX8_commute_74 ⟨_, rfl, ?_, ?_⟩
  · rfl
  · have hbk₉ := (hMR₉.ref (a := 3) (d := i) (by decide) (by decide)).back (μ := μf) (by rw [hf₉]; exact KP.fld (KP.fld (hK₉.step (KS.rf.wrx (by omega))))) he1₉ he2₉
    exact ⟨hbk₉.1, by rw [he2₉ 237 (by decide), hf₉]; exact (wr_n (by decide)).trans ((wr_n (by decide)).trans wr_s), hbk₉.2.trans ((FrM.rf.wrx (by decide)).wrx (by decide))⟩

set_option maxRecDepth 100000 in
set_option maxHeartbeats 4000000 in
theorem c_m_commuteX4 {g : GP} {adr : Nat → Nat} (μ : Mem) {α : A7} (hMR₉ : MR μ α) {i : Nat} (hi1₉ : i < 5) {j : Nat} (hj1₉ : j < 5) {k : Nat} (hk1₉ : k < 5) (hfi₉ : aFl (qS α) i = true) (hx₉ : ¬ aFl (qS α) j = true) : CT g yX8_commute mX8_commute (RM 60 0 0) (WM g adr μ) [.ref (adr 237), .int (nI i), .int (nI j), .int (nI k)] (PM g adr ((.inl (some (.int (nI 0))))) (fun μ' => MR μ' (aRef 3 j α) ∧ μ' 237 6 = nI 2 ∧ FrM μ' μ)) := by
  refine CT.of (l0 := [some (.ref (adr 237)), some (.int (nI i)), some (.int (nI j)), some (.int (nI k))]) (by decide +kernel) rfl (Nat.le_of_ble_eq_true rfl) rfl ?_
  refine J.al0 dX8_commute_0 ?_
  refine cl_X8_90 rfl (by decide) (k' := 0) (n' := 0) (c_m_keep _) ⟨⟨by decide, by decide⟩, ⟨rfl, rfl⟩, by decide, by decide⟩ rfl dX8_commute_1 (fun μ2 ⟨hK₉, hT0₉, hs0₉, hk4₉⟩ => ?_)
  have hS2₉ : MS μ2 238 0 (qS α) := MS.off hMR₉.1 hs0₉
  have hn2₉ : μ2 237 5 = nI (qN α) := (hk4₉ 237 5 (by decide) (by decide)).trans hMR₉.2.1.1
  refine J.il1 dX8_commute_4 ?_
  refine cl_X8_171 rfl (k' := 0) (n' := 0) (c_m_isShelfT _ (by omega)) ⟨⟨by decide, by decide⟩, ⟨rfl, rfl⟩, by decide, by decide⟩ rfl dX8_commute_5 (fun μ9 h9₉ => ?_)
  rw [h9₉]; clear h9₉
  refine J.if_eqN (tgt := 25) dX8_commute_8 (by decide) (by omega) (fun c8₉ => absurd c8₉ (by first | omega | (simp only [not_true_eq_false, not_false_eq_true]; done) | (simp; done))) (fun c8₉ => ?_)
  refine J.il2 dX8_commute_11 ?_
  refine cl_X8_171 rfl (k' := 0) (n' := 0) (c_m_isShelfT _ (by omega)) ⟨⟨by decide, by decide⟩, ⟨rfl, rfl⟩, by decide, by decide⟩ rfl dX8_commute_12 (fun μ9 h9₉ => ?_)
  rw [h9₉]; clear h9₉
  refine J.if_eqN (tgt := 25) dX8_commute_15 (by decide) (by omega) (fun c15₉ => absurd c15₉ (by first | omega | (simp only [not_true_eq_false, not_false_eq_true]; done) | (simp; done))) (fun c15₉ => ?_)
  refine J.il3 dX8_commute_18 ?_
  refine cl_X8_171 rfl (k' := 0) (n' := 0) (c_m_isShelfT _ (by omega)) ⟨⟨by decide, by decide⟩, ⟨rfl, rfl⟩, by decide, by decide⟩ rfl dX8_commute_19 (fun μ9 h9₉ => ?_)
  rw [h9₉]; clear h9₉
  refine J.if_neN (tgt := 35) dX8_commute_22 (by decide) (by omega) (fun c22₉ => ?_) (fun c22₉ => absurd c22₉ (by first | omega | (simp only [not_true_eq_false, not_false_eq_true]; done) | (simp; done)))
  refine J.al0 dX8_commute_35 ?_
  refine J.il1 dX8_commute_36 ?_
  refine cl_X8_177 rfl (by decide) (k' := 0) (n' := 0) (c_m_isEmptyF _ hS2₉ (by omega) hfi₉) ⟨⟨by decide, by decide⟩, ⟨rfl, rfl⟩, by decide, by decide⟩ rfl dX8_commute_37 (fun μ9 h9₉ => ?_)
  rw [h9₉]; clear h9₉
  refine J.if_neN (tgt := 51) dX8_commute_40 (by decide) (by omega) (fun c40₉ => absurd c40₉ (by first | omega | (simp only [not_true_eq_false, not_false_eq_true]; done) | (simp; done))) (fun c40₉ => ?_)
  refine J.al0 dX8_commute_43 ?_
  refine J.il2 dX8_commute_44 ?_
  refine cl_X8_177 rfl (by decide) (k' := 0) (n' := 0) (c_m_isEmptyT _ hS2₉ (by omega) hx₉) ⟨⟨by decide, by decide⟩, ⟨rfl, rfl⟩, by decide, by decide⟩ rfl dX8_commute_45 (fun μ9 h9₉ => ?_)
  rw [h9₉]; clear h9₉
  refine J.if_eqN (tgt := 75) dX8_commute_48 (by decide) (by omega) (fun c48₉ => absurd c48₉ (by first | omega | (simp only [not_true_eq_false, not_false_eq_true]; done) | (simp; done))) (fun c48₉ => ?_)
  refine J.al0 dX8_commute_51 ?_
  refine J.al0 dX8_commute_52 ?_
  refine J.iconst dX8_commute_53 kI_2 ?_
  refine J.iconst dX8_commute_54 kI_3 ?_
  refine J.al0 dX8_commute_55 ?_
  refine J.il1 dX8_commute_56 ?_
  refine cl_X8_177 rfl (by decide) (k' := 0) (n' := 0) (c_m_isEmptyF _ hS2₉ (by omega) hfi₉) ⟨⟨by decide, by decide⟩, ⟨rfl, rfl⟩, by decide, by decide⟩ rfl dX8_commute_57 (fun μ9 h9₉ => ?_)
  rw [h9₉]; clear h9₉
  refine J.if_eqN (tgt := 67) dX8_commute_60 (by decide) (by omega) (fun c60₉ => ?_) (fun c60₉ => absurd c60₉ (by first | omega | (simp only [not_true_eq_false, not_false_eq_true]; done) | (simp; done)))
  refine J.il2 dX8_commute_67 ?_
  refine cl_X8_110 rfl (by decide) (k' := 0) (n' := 0) (c_m_refuse _) ⟨⟨by decide, by decide⟩, ⟨rfl, rfl⟩, by decide, by decide⟩ rfl dX8_commute_68 (fun μf hf₉ => ?_)
  refine cl_X8_100 rfl (by decide) (k' := 0) (n' := 0) (c_m_endsX _ (j := 2) (by rw [hf₉]; exact (wr_n (by decide)).trans ((wr_n (by decide)).trans wr_s)) (by decide) (by decide)) ⟨⟨by decide, by decide⟩, ⟨rfl, rfl⟩, by decide, by decide⟩ rfl dX8_commute_71 (fun μe ⟨he1₉, he2₉⟩ => ?_)
  refine J.iret rfl (by decide) (by decide) dX8_commute_74 ⟨_, rfl, ?_, ?_⟩
  · rfl
  · have hbk₉ := (hMR₉.ref (a := 3) (d := j) (by decide) (by decide)).back (μ := μf) (by rw [hf₉]; exact KP.fld (KP.fld (hK₉.step (KS.rf.wrx (by omega))))) he1₉ he2₉
    exact ⟨hbk₉.1, by rw [he2₉ 237 (by decide), hf₉]; exact (wr_n (by decide)).trans ((wr_n (by decide)).trans wr_s), hbk₉.2.trans ((FrM.rf.wrx (by decide)).wrx (by decide))⟩

set_option maxRecDepth 100000 in
set_option maxHeartbeats 4000000 in
theorem c_m_commute {g : GP} {adr : Nat → Nat} (μ : Mem) {α : A7} (hMR₉ : MR μ α) {i : Nat} (hi1₉ : i < 5) {j : Nat} (hj1₉ : j < 5) {k : Nat} (hk1₉ : k < 5) (hfi₉ : aFl (qS α) i = true) (hfj₉ : aFl (qS α) j = true)  : CT g yX8_commute mX8_commute (RM 60 0 0) (WM g adr μ) [.ref (adr 237), .int (nI i), .int (nI j), .int (nI k)] (PM g adr ((.inl (some (.int (nI (cnt (fun k => decide ((comF (aSh (qS α) i) (aSh (qS α) j)) k ≠ k)) 32)))))) (fun μ' => MR μ' (aPush (sPut k (comF (aSh (qS α) i) (aSh (qS α) j)) (qS α)) α) ∧ μ' 237 6 = nI 0 ∧ FrM μ' μ)) := by
  refine CT.of (l0 := [some (.ref (adr 237)), some (.int (nI i)), some (.int (nI j)), some (.int (nI k))]) (by decide +kernel) rfl (Nat.le_of_ble_eq_true rfl) rfl ?_
  have hBi₉ : Bij (aSh (qS α) i) := hMR₉.1.vs.2.2.2.2 i hi1₉ hfi₉
  have hBj₉ : Bij (aSh (qS α) j) := hMR₉.1.vs.2.2.2.2 j hj1₉ hfj₉
  refine J.al0 dX8_commute_0 ?_
  refine cl_X8_90 rfl (by decide) (k' := 0) (n' := 0) (c_m_keep _) ⟨⟨by decide, by decide⟩, ⟨rfl, rfl⟩, by decide, by decide⟩ rfl dX8_commute_1 (fun μ2 ⟨hK₉, hT0₉, hs0₉, hk4₉⟩ => ?_)
  have hS2₉ : MS μ2 238 0 (qS α) := MS.off hMR₉.1 hs0₉
  have hn2₉ : μ2 237 5 = nI (qN α) := (hk4₉ 237 5 (by decide) (by decide)).trans hMR₉.2.1.1
  refine J.il1 dX8_commute_4 ?_
  refine cl_X8_171 rfl (k' := 0) (n' := 0) (c_m_isShelfT _ (by omega)) ⟨⟨by decide, by decide⟩, ⟨rfl, rfl⟩, by decide, by decide⟩ rfl dX8_commute_5 (fun μ9 h9₉ => ?_)
  rw [h9₉]; clear h9₉
  refine J.if_eqN (tgt := 25) dX8_commute_8 (by decide) (by omega) (fun c8₉ => absurd c8₉ (by first | omega | (simp only [not_true_eq_false, not_false_eq_true]; done) | (simp; done))) (fun c8₉ => ?_)
  refine J.il2 dX8_commute_11 ?_
  refine cl_X8_171 rfl (k' := 0) (n' := 0) (c_m_isShelfT _ (by omega)) ⟨⟨by decide, by decide⟩, ⟨rfl, rfl⟩, by decide, by decide⟩ rfl dX8_commute_12 (fun μ9 h9₉ => ?_)
  rw [h9₉]; clear h9₉
  refine J.if_eqN (tgt := 25) dX8_commute_15 (by decide) (by omega) (fun c15₉ => absurd c15₉ (by first | omega | (simp only [not_true_eq_false, not_false_eq_true]; done) | (simp; done))) (fun c15₉ => ?_)
  refine J.il3 dX8_commute_18 ?_
  refine cl_X8_171 rfl (k' := 0) (n' := 0) (c_m_isShelfT _ (by omega)) ⟨⟨by decide, by decide⟩, ⟨rfl, rfl⟩, by decide, by decide⟩ rfl dX8_commute_19 (fun μ9 h9₉ => ?_)
  rw [h9₉]; clear h9₉
  refine J.if_neN (tgt := 35) dX8_commute_22 (by decide) (by omega) (fun c22₉ => ?_) (fun c22₉ => absurd c22₉ (by first | omega | (simp only [not_true_eq_false, not_false_eq_true]; done) | (simp; done)))
  refine J.al0 dX8_commute_35 ?_
  refine J.il1 dX8_commute_36 ?_
  refine cl_X8_177 rfl (by decide) (k' := 0) (n' := 0) (c_m_isEmptyF _ hS2₉ (by omega) hfi₉) ⟨⟨by decide, by decide⟩, ⟨rfl, rfl⟩, by decide, by decide⟩ rfl dX8_commute_37 (fun μ9 h9₉ => ?_)
  rw [h9₉]; clear h9₉
  refine J.if_neN (tgt := 51) dX8_commute_40 (by decide) (by omega) (fun c40₉ => absurd c40₉ (by first | omega | (simp only [not_true_eq_false, not_false_eq_true]; done) | (simp; done))) (fun c40₉ => ?_)
  refine J.al0 dX8_commute_43 ?_
  refine J.il2 dX8_commute_44 ?_
  refine cl_X8_177 rfl (by decide) (k' := 0) (n' := 0) (c_m_isEmptyF _ hS2₉ (by omega) hfj₉) ⟨⟨by decide, by decide⟩, ⟨rfl, rfl⟩, by decide, by decide⟩ rfl dX8_commute_45 (fun μ9 h9₉ => ?_)
  rw [h9₉]; clear h9₉
  refine J.if_eqN (tgt := 75) dX8_commute_48 (by decide) (by omega) (fun c48₉ => ?_) (fun c48₉ => absurd c48₉ (by first | omega | (simp only [not_true_eq_false, not_false_eq_true]; done) | (simp; done)))
  refine J.al0 dX8_commute_75 ?_
  refine J.iconst dX8_commute_76 kI_0 ?_
  refine pf_X8_60 rfl (by decide) dX8_commute_77 ?_
  refine J.al0 dX8_commute_80 ?_
  refine J.al0 dX8_commute_81 ?_
  refine J.al0 dX8_commute_82 ?_
  refine J.al0 dX8_commute_83 ?_
  refine J.il1 dX8_commute_84 ?_
  refine cl_X8_159 rfl (by decide) (k' := 0) (n' := 0) (c_m_ofShelf _ (r := 0) wr_s (by decide) hi1₉ (fun k hk₉ => by rw [wr_o (by decide)]; exact hS2₉.rSh hi1₉ hfi₉ hk₉) hBi₉) ⟨⟨by decide, by decide⟩, ⟨rfl, rfl⟩, by decide, by decide⟩ rfl dX8_commute_85 (fun μ3 ⟨hP3₉, hc3₉, hr3₉, hF3₉⟩ => ?_)
  have hKT3₉ : KT μ3 μ2 := KT.trans hF3₉.kt (KT.wrx KT.rf (by omega))
  have hs3₉ : μ3 238 = μ2 238 := by rw [hF3₉.s, wr_o (by decide)]
  refine J.al0 dX8_commute_88 ?_
  refine J.il2 dX8_commute_89 ?_
  refine cl_X8_159 rfl (by decide) (k' := 0) (n' := 0) (c_m_ofShelf _ (r := 1) hr3₉ (by decide) hj1₉ (fun k hk₉ => by rw [hs3₉]; exact hS2₉.rSh hj1₉ hfj₉ hk₉) hBj₉) ⟨⟨by decide, by decide⟩, ⟨rfl, rfl⟩, by decide, by decide⟩ rfl dX8_commute_90 (fun μ4 ⟨hP4₉, hc4₉, hr4₉, hF4₉⟩ => ?_)
  have hKT4₉ : KT μ4 μ2 := hF4₉.kt.trans hKT3₉
  have hs4₉ : μ4 238 = μ2 238 := hF4₉.s.trans hs3₉
  have hP3b : PoolR μ4 0 (aSh (qS α) i) := hP3₉.pf hF4₉ (by decide)
  have hc3b : μ4 243 0 = nI 1 := (hF4₉.2.1 0 (by decide)).trans hc3₉
  refine cl_X8_165 rfl (by decide) (k' := 0) (n' := 0) (c_m_comm _ (r := 2) (a := 0) (b := 1) (c := 1) (d := 1) hr4₉ (by decide) (by decide) (by decide) hP3b hP4₉ hBi₉ hBj₉ hc3b hc4₉) ⟨⟨by decide, by decide⟩, ⟨rfl, rfl⟩, by decide, by decide⟩ rfl dX8_commute_93 (fun μ5 ⟨hP5₉, hc5₉, hr5₉, hF5₉, hs51₉, hs52₉⟩ => ?_)
  have hKT5₉ : KT μ5 μ2 := hF5₉.kt.trans hKT4₉
  have hs5₉ : μ5 238 = μ2 238 := hF5₉.s.trans hs4₉
  refine J.il3 dX8_commute_96 ?_
  have hS7₉ : MS (μ5) 238 0 (qS α) := hS2₉.off hs5₉
  refine cl_X8_174 rfl (by decide) (k' := 0) (n' := 0) (c_m_puts _ (by decide) hk1₉ hP5₉ (comF_bij hBi₉ hBj₉) hS7₉) ⟨⟨by decide, by decide⟩, ⟨rfl, rfl⟩, by decide, by decide⟩ rfl dX8_commute_97 (fun μ8 ⟨hS8₉, hO8₉⟩ => ?_)
  have hKT8₉ : KT μ8 μ2 := fun o k a b c d e => by rw [hO8₉ o a]; exact hKT5₉ o k a b c d e
  have hkt₉ : KT (μ8) μ2 := hKT8₉
  have hT6₉ : (μ8) 237 6 = nI 0 := (hkt₉ 237 6 (by decide) (by decide) (by decide) (by decide) (by decide)).trans hT0₉
  have hn6₉ : (μ8) 237 5 = nI (qN α) := (hkt₉ 237 5 (by decide) (by decide) (by decide) (by decide) (by decide)).trans hn2₉
  refine cl_X8_100 rfl (by decide) (k' := 0) (n' := 0) (c_m_ends _ hT6₉ hn6₉ hMR₉.2.1.2.1) ⟨⟨by decide, by decide⟩, ⟨rfl, rfl⟩, by decide, by decide⟩ rfl dX8_commute_100 (fun μe he₉ => ?_)
  refine J.iret rfl (by decide) (by decide) dX8_commute_103 ⟨_, rfl, ?_, ?_⟩
  · rfl
  · have hpu₉ := hMR₉.push (hK₉.step hkt₉.ks) hS8₉ he₉
    exact ⟨hpu₉.1, (he₉.2.2 237 6 (by decide) (by decide)).trans hT6₉, hpu₉.2⟩

set_option maxRecDepth 100000 in
set_option maxHeartbeats 4000000 in
theorem c_m_forgetX0 {g : GP} {adr : Nat → Nat} (μ : Mem) {α : A7} (hMR₉ : MR μ α) {i : Int32} (hx₉ : ¬ (0 ≤ i ∧ i < nI 5)) : CT g yX8_forget mX8_forget (RM 60 0 0) (WM g adr μ) [.ref (adr 237), .int i] (PM g adr ((.inl (some (.int (nI 0))))) (fun μ' => MR μ' (α) ∧ μ' 237 6 = nI 1 ∧ FrM μ' μ)) := by
  refine CT.of (l0 := [some (.ref (adr 237)), some (.int i)]) (by decide +kernel) rfl (Nat.le_of_ble_eq_true rfl) rfl ?_
  refine J.al0 dX8_forget_0 ?_
  refine cl_X8_90 rfl (by decide) (k' := 0) (n' := 0) (c_m_keep _) ⟨⟨by decide, by decide⟩, ⟨rfl, rfl⟩, by decide, by decide⟩ rfl dX8_forget_1 (fun μ2 ⟨hK₉, hT0₉, hs0₉, hk4₉⟩ => ?_)
  have hS2₉ : MS μ2 238 0 (qS α) := MS.off hMR₉.1 hs0₉
  have hn2₉ : μ2 237 5 = nI (qN α) := (hk4₉ 237 5 (by decide) (by decide)).trans hMR₉.2.1.1
  refine J.il1 dX8_forget_4 ?_
  refine cl_X8_171 rfl (k' := 0) (n' := 0) (c_m_isShelfF _ hx₉) ⟨⟨by decide, by decide⟩, ⟨rfl, rfl⟩, by decide, by decide⟩ rfl dX8_forget_5 (fun μ9 h9₉ => ?_)
  rw [h9₉]; clear h9₉
  refine J.if_neN (tgt := 21) dX8_forget_8 (by decide) (by omega) (fun c8₉ => absurd c8₉ (by first | omega | (simp only [not_true_eq_false, not_false_eq_true]; done) | (simp; done))) (fun c8₉ => ?_)
  refine J.al0 dX8_forget_11 ?_
  refine J.al0 dX8_forget_12 ?_
  refine J.iconst dX8_forget_13 kI_1 ?_
  refine cl_X8_97 rfl (by decide) (k' := 0) (n' := 0) (c_m_fails _) ⟨⟨by decide, by decide⟩, ⟨rfl, rfl⟩, by decide, by decide⟩ rfl dX8_forget_14 (fun μf hf₉ => ?_)
  refine cl_X8_100 rfl (by decide) (k' := 0) (n' := 0) (c_m_endsX _ (j := 1) (by rw [hf₉]; exact wr_s) (by decide) (by decide)) ⟨⟨by decide, by decide⟩, ⟨rfl, rfl⟩, by decide, by decide⟩ rfl dX8_forget_17 (fun μe ⟨he1₉, he2₉⟩ => ?_)
  refine J.iret rfl (by decide) (by decide) dX8_forget_20 ⟨_, rfl, ?_, ?_⟩
  · rfl
  · have hbk₉ := hMR₉.back (hK₉.step (by rw [hf₉]; exact KS.rf.wrx (by omega))) he1₉ he2₉
    exact ⟨hbk₉.1, by rw [he2₉ 237 (by decide), hf₉]; exact wr_s, hbk₉.2⟩

set_option maxRecDepth 100000 in
set_option maxHeartbeats 4000000 in
theorem c_m_forgetX1 {g : GP} {adr : Nat → Nat} (μ : Mem) {α : A7} (hMR₉ : MR μ α) {i : Nat} (hi1₉ : i < 5) (hx₉ : ¬ aFl (qS α) i = true) : CT g yX8_forget mX8_forget (RM 60 0 0) (WM g adr μ) [.ref (adr 237), .int (nI i)] (PM g adr ((.inl (some (.int (nI 0))))) (fun μ' => MR μ' (aRef 3 i α) ∧ μ' 237 6 = nI 2 ∧ FrM μ' μ)) := by
  refine CT.of (l0 := [some (.ref (adr 237)), some (.int (nI i))]) (by decide +kernel) rfl (Nat.le_of_ble_eq_true rfl) rfl ?_
  refine J.al0 dX8_forget_0 ?_
  refine cl_X8_90 rfl (by decide) (k' := 0) (n' := 0) (c_m_keep _) ⟨⟨by decide, by decide⟩, ⟨rfl, rfl⟩, by decide, by decide⟩ rfl dX8_forget_1 (fun μ2 ⟨hK₉, hT0₉, hs0₉, hk4₉⟩ => ?_)
  have hS2₉ : MS μ2 238 0 (qS α) := MS.off hMR₉.1 hs0₉
  have hn2₉ : μ2 237 5 = nI (qN α) := (hk4₉ 237 5 (by decide) (by decide)).trans hMR₉.2.1.1
  refine J.il1 dX8_forget_4 ?_
  refine cl_X8_171 rfl (k' := 0) (n' := 0) (c_m_isShelfT _ (by omega)) ⟨⟨by decide, by decide⟩, ⟨rfl, rfl⟩, by decide, by decide⟩ rfl dX8_forget_5 (fun μ9 h9₉ => ?_)
  rw [h9₉]; clear h9₉
  refine J.if_neN (tgt := 21) dX8_forget_8 (by decide) (by omega) (fun c8₉ => ?_) (fun c8₉ => absurd c8₉ (by first | omega | (simp only [not_true_eq_false, not_false_eq_true]; done) | (simp; done)))
  refine J.al0 dX8_forget_21 ?_
  refine J.il1 dX8_forget_22 ?_
  refine cl_X8_177 rfl (by decide) (k' := 0) (n' := 0) (c_m_isEmptyT _ hS2₉ (by omega) hx₉) ⟨⟨by decide, by decide⟩, ⟨rfl, rfl⟩, by decide, by decide⟩ rfl dX8_forget_23 (fun μ9 h9₉ => ?_)
  rw [h9₉]; clear h9₉
  refine J.if_eqN (tgt := 41) dX8_forget_26 (by decide) (by omega) (fun c26₉ => absurd c26₉ (by first | omega | (simp only [not_true_eq_false, not_false_eq_true]; done) | (simp; done))) (fun c26₉ => ?_)
  refine J.al0 dX8_forget_29 ?_
  refine J.al0 dX8_forget_30 ?_
  refine J.iconst dX8_forget_31 kI_2 ?_
  refine J.iconst dX8_forget_32 kI_3 ?_
  refine J.il1 dX8_forget_33 ?_
  refine cl_X8_110 rfl (by decide) (k' := 0) (n' := 0) (c_m_refuse _) ⟨⟨by decide, by decide⟩, ⟨rfl, rfl⟩, by decide, by decide⟩ rfl dX8_forget_34 (fun μf hf₉ => ?_)
  refine cl_X8_100 rfl (by decide) (k' := 0) (n' := 0) (c_m_endsX _ (j := 2) (by rw [hf₉]; exact (wr_n (by decide)).trans ((wr_n (by decide)).trans wr_s)) (by decide) (by decide)) ⟨⟨by decide, by decide⟩, ⟨rfl, rfl⟩, by decide, by decide⟩ rfl dX8_forget_37 (fun μe ⟨he1₉, he2₉⟩ => ?_)
  refine J.iret rfl (by decide) (by decide) dX8_forget_40 ⟨_, rfl, ?_, ?_⟩
  · rfl
  · have hbk₉ := (hMR₉.ref (a := 3) (d := i) (by decide) (by decide)).back (μ := μf) (by rw [hf₉]; exact KP.fld (KP.fld (hK₉.step (KS.rf.wrx (by omega))))) he1₉ he2₉
    exact ⟨hbk₉.1, by rw [he2₉ 237 (by decide), hf₉]; exact (wr_n (by decide)).trans ((wr_n (by decide)).trans wr_s), hbk₉.2.trans ((FrM.rf.wrx (by decide)).wrx (by decide))⟩

set_option maxRecDepth 100000 in
set_option maxHeartbeats 4000000 in
theorem c_m_forget {g : GP} {adr : Nat → Nat} (μ : Mem) {α : A7} (hMR₉ : MR μ α) {i : Nat} (hi1₉ : i < 5) (hfi₉ : aFl (qS α) i = true)  : CT g yX8_forget mX8_forget (RM 60 0 0) (WM g adr μ) [.ref (adr 237), .int (nI i)] (PM g adr ((.inl (some (.int (nI (cnt (aFl (sTake i (qS α))) 5)))))) (fun μ' => MR μ' (aPush (sTake i (qS α)) α) ∧ μ' 237 6 = nI 0 ∧ FrM μ' μ)) := by
  refine CT.of (l0 := [some (.ref (adr 237)), some (.int (nI i))]) (by decide +kernel) rfl (Nat.le_of_ble_eq_true rfl) rfl ?_
  refine J.al0 dX8_forget_0 ?_
  refine cl_X8_90 rfl (by decide) (k' := 0) (n' := 0) (c_m_keep _) ⟨⟨by decide, by decide⟩, ⟨rfl, rfl⟩, by decide, by decide⟩ rfl dX8_forget_1 (fun μ2 ⟨hK₉, hT0₉, hs0₉, hk4₉⟩ => ?_)
  have hS2₉ : MS μ2 238 0 (qS α) := MS.off hMR₉.1 hs0₉
  have hn2₉ : μ2 237 5 = nI (qN α) := (hk4₉ 237 5 (by decide) (by decide)).trans hMR₉.2.1.1
  refine J.il1 dX8_forget_4 ?_
  refine cl_X8_171 rfl (k' := 0) (n' := 0) (c_m_isShelfT _ (by omega)) ⟨⟨by decide, by decide⟩, ⟨rfl, rfl⟩, by decide, by decide⟩ rfl dX8_forget_5 (fun μ9 h9₉ => ?_)
  rw [h9₉]; clear h9₉
  refine J.if_neN (tgt := 21) dX8_forget_8 (by decide) (by omega) (fun c8₉ => ?_) (fun c8₉ => absurd c8₉ (by first | omega | (simp only [not_true_eq_false, not_false_eq_true]; done) | (simp; done)))
  refine J.al0 dX8_forget_21 ?_
  refine J.il1 dX8_forget_22 ?_
  refine cl_X8_177 rfl (by decide) (k' := 0) (n' := 0) (c_m_isEmptyF _ hS2₉ (by omega) hfi₉) ⟨⟨by decide, by decide⟩, ⟨rfl, rfl⟩, by decide, by decide⟩ rfl dX8_forget_23 (fun μ9 h9₉ => ?_)
  rw [h9₉]; clear h9₉
  refine J.if_eqN (tgt := 41) dX8_forget_26 (by decide) (by omega) (fun c26₉ => ?_) (fun c26₉ => absurd c26₉ (by first | omega | (simp only [not_true_eq_false, not_false_eq_true]; done) | (simp; done)))
  refine J.al0 dX8_forget_41 ?_
  refine gf_X8_9 rfl (o2 := 238) (by decide) rfl dX8_forget_42 ?_
  refine J.iconst dX8_forget_45 kI_3 ?_
  refine J.il1 dX8_forget_46 ?_
  refine J.iaddN dX8_forget_47 ?_
  refine J.iconst dX8_forget_48 kI_0 ?_
  refine J.iast (N := 352) (by decide) (by decide) (by decide) (by omega) dX8_forget_49 ?_
  refine J.al0 dX8_forget_50 ?_
  refine J.al0 dX8_forget_51 ?_
  have hS9₉ : MS (wr μ2 238 (3 + i) (nI 0)) 238 0 (sTake i (qS α)) := hS2₉.sTake hi1₉ wr_s (fun k hk₉ => wr_n (Or.inr hk₉))
  refine cl_X8_180 rfl (by decide) (k' := 0) (n' := 0) (c_m_filledMany _ hS9₉) ⟨⟨by decide, by decide⟩, ⟨rfl, rfl⟩, by decide, by decide⟩ rfl dX8_forget_52 (fun μ9 h9₉ => ?_)
  rw [h9₉]; clear h9₉
  have hkt₉ : KT ((wr μ2 238 (3 + i) (nI 0))) μ2 := (KT.wrx KT.rf (by omega))
  have hT6₉ : ((wr μ2 238 (3 + i) (nI 0))) 237 6 = nI 0 := (hkt₉ 237 6 (by decide) (by decide) (by decide) (by decide) (by decide)).trans hT0₉
  have hn6₉ : ((wr μ2 238 (3 + i) (nI 0))) 237 5 = nI (qN α) := (hkt₉ 237 5 (by decide) (by decide) (by decide) (by decide) (by decide)).trans hn2₉
  refine cl_X8_100 rfl (by decide) (k' := 0) (n' := 0) (c_m_ends _ hT6₉ hn6₉ hMR₉.2.1.2.1) ⟨⟨by decide, by decide⟩, ⟨rfl, rfl⟩, by decide, by decide⟩ rfl dX8_forget_55 (fun μe he₉ => ?_)
  refine J.iret rfl (by decide) (by decide) dX8_forget_58 ⟨_, rfl, ?_, ?_⟩
  · rfl
  · have hpu₉ := hMR₉.push (hK₉.step hkt₉.ks) hS9₉ he₉
    exact ⟨hpu₉.1, (he₉.2.2 237 6 (by decide) (by decide)).trans hT6₉, hpu₉.2⟩
