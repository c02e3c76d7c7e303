/-! ===== printed: the model: changes ===== -/
set_option maxRecDepth 100000 in
set_option maxHeartbeats 4000000 in
theorem c_m_turnX0 {g : GP} {adr : Nat → Nat} (μ : Mem) {α : A7} (hMR₉ : MR μ α) {i : Int32} (hx₉ : ¬ (0 ≤ i ∧ i < nI 4)) {j : Int32} : CT g yX8_turn mX8_turn (RM 60 0 0) (WM g adr μ) [.ref (adr 237), .int i, .int j] (PM g adr ((.inl (some (.int (nI 0))))) (fun μ' => MR μ' (α) ∧ μ' 237 6 = nI 1 ∧ FrM μ' μ)) := by
  refine CT.of (l0 := [some (.ref (adr 237)), some (.int i), some (.int j)]) (by decide +kernel) rfl (Nat.le_of_ble_eq_true rfl) rfl ?_
  refine J.al0 dX8_turn_0 ?_
  refine cl_X8_90 rfl (by decide) (k' := 0) (n' := 0) (c_m_keep _) ⟨⟨by decide, by decide⟩, ⟨rfl, rfl⟩, by decide, by decide⟩ rfl dX8_turn_1 (fun μ2 ⟨hK₉, hT0₉, hs0₉, hk4₉⟩ => ?_)
  have hS2₉ : MS μ2 238 0 (qS α) := MS.off hMR₉.1 hs0₉
  have hn2₉ : μ2 237 5 = nI (qN α) := (hk4₉ 237 5 (by decide) (by decide)).trans hMR₉.2.1.1
  refine J.il1 dX8_turn_4 ?_
  refine J.iconst dX8_turn_5 kI_0 ?_
  refine J.iconst dX8_turn_6 kI_3 ?_
  refine cl_X8_93 rfl (k' := 0) (n' := 0) (inF _ (in_idx (by decide) hx₉)) ⟨⟨by decide, by decide⟩, ⟨rfl, rfl⟩, by decide, by decide⟩ rfl dX8_turn_7 (fun μ9 h9₉ => ?_)
  rw [h9₉]; clear h9₉
  refine J.if_neN (tgt := 23) dX8_turn_10 (by decide) (by omega) (fun c10₉ => absurd c10₉ (by first | omega | (simp only [not_true_eq_false, not_false_eq_true]; done) | (simp; done))) (fun c10₉ => ?_)
  refine J.al0 dX8_turn_13 ?_
  refine J.al0 dX8_turn_14 ?_
  refine J.iconst dX8_turn_15 kI_1 ?_
  refine cl_X8_97 rfl (by decide) (k' := 0) (n' := 0) (c_m_fails _) ⟨⟨by decide, by decide⟩, ⟨rfl, rfl⟩, by decide, by decide⟩ rfl dX8_turn_16 (fun μf hf₉ => ?_)
  refine cl_X8_100 rfl (by decide) (k' := 0) (n' := 0) (c_m_endsX _ (j := 1) (by rw [hf₉]; exact wr_s) (by decide) (by decide)) ⟨⟨by decide, by decide⟩, ⟨rfl, rfl⟩, by decide, by decide⟩ rfl dX8_turn_19 (fun μe ⟨he1₉, he2₉⟩ => ?_)
  refine J.iret rfl (by decide) (by decide) dX8_turn_22 ⟨_, rfl, ?_, ?_⟩
  · rfl
  · have hbk₉ := hMR₉.back (hK₉.step (by rw [hf₉]; exact KS.rf.wrx (by omega))) he1₉ he2₉
    exact ⟨hbk₉.1, by rw [he2₉ 237 (by decide), hf₉]; exact wr_s, hbk₉.2⟩

set_option maxRecDepth 100000 in
set_option maxHeartbeats 4000000 in
theorem c_m_turnX1 {g : GP} {adr : Nat → Nat} (μ : Mem) {α : A7} (hMR₉ : MR μ α) {i : Nat} (hi1₉ : i < 4) {j : Int32} (hx₉ : j < nI 1 ∨ nI 7 < j) : CT g yX8_turn mX8_turn (RM 60 0 0) (WM g adr μ) [.ref (adr 237), .int (nI i), .int j] (PM g adr ((.inl (some (.int (nI 0))))) (fun μ' => MR μ' (α) ∧ μ' 237 6 = nI 2 ∧ FrM μ' μ)) := by
  refine CT.of (l0 := [some (.ref (adr 237)), some (.int (nI i)), some (.int j)]) (by decide +kernel) rfl (Nat.le_of_ble_eq_true rfl) rfl ?_
  refine J.al0 dX8_turn_0 ?_
  refine cl_X8_90 rfl (by decide) (k' := 0) (n' := 0) (c_m_keep _) ⟨⟨by decide, by decide⟩, ⟨rfl, rfl⟩, by decide, by decide⟩ rfl dX8_turn_1 (fun μ2 ⟨hK₉, hT0₉, hs0₉, hk4₉⟩ => ?_)
  have hS2₉ : MS μ2 238 0 (qS α) := MS.off hMR₉.1 hs0₉
  have hn2₉ : μ2 237 5 = nI (qN α) := (hk4₉ 237 5 (by decide) (by decide)).trans hMR₉.2.1.1
  refine J.il1 dX8_turn_4 ?_
  refine J.iconst dX8_turn_5 kI_0 ?_
  refine J.iconst dX8_turn_6 kI_3 ?_
  refine cl_X8_93 rfl (k' := 0) (n' := 0) (inT _ (by omega) (by omega) (by omega)) ⟨⟨by decide, by decide⟩, ⟨rfl, rfl⟩, by decide, by decide⟩ rfl dX8_turn_7 (fun μ9 h9₉ => ?_)
  rw [h9₉]; clear h9₉
  refine J.if_neN (tgt := 23) dX8_turn_10 (by decide) (by omega) (fun c10₉ => ?_) (fun c10₉ => absurd c10₉ (by first | omega | (simp only [not_true_eq_false, not_false_eq_true]; done) | (simp; done)))
  refine J.il2 dX8_turn_23 ?_
  refine J.iconst dX8_turn_24 kI_1 ?_
  refine J.bipush dX8_turn_25 kb_7 ?_
  refine cl_X8_93 rfl (k' := 0) (n' := 0) (inF _ (in_rng hx₉)) ⟨⟨by decide, by decide⟩, ⟨rfl, rfl⟩, by decide, by decide⟩ rfl dX8_turn_27 (fun μ9 h9₉ => ?_)
  rw [h9₉]; clear h9₉
  refine J.if_neN (tgt := 43) dX8_turn_30 (by decide) (by omega) (fun c30₉ => absurd c30₉ (by first | omega | (simp only [not_true_eq_false, not_false_eq_true]; done) | (simp; done))) (fun c30₉ => ?_)
  refine J.al0 dX8_turn_33 ?_
  refine J.al0 dX8_turn_34 ?_
  refine J.iconst dX8_turn_35 kI_2 ?_
  refine cl_X8_97 rfl (by decide) (k' := 0) (n' := 0) (c_m_fails _) ⟨⟨by decide, by decide⟩, ⟨rfl, rfl⟩, by decide, by decide⟩ rfl dX8_turn_36 (fun μf hf₉ => ?_)
  refine cl_X8_100 rfl (by decide) (k' := 0) (n' := 0) (c_m_endsX _ (j := 2) (by rw [hf₉]; exact wr_s) (by decide) (by decide)) ⟨⟨by decide, by decide⟩, ⟨rfl, rfl⟩, by decide, by decide⟩ rfl dX8_turn_39 (fun μe ⟨he1₉, he2₉⟩ => ?_)
  refine J.iret rfl (by decide) (by decide) dX8_turn_42 ⟨_, rfl, ?_, ?_⟩
  · rfl
  · have hbk₉ := hMR₉.back (hK₉.step (by rw [hf₉]; exact KS.rf.wrx (by omega))) he1₉ he2₉
    exact ⟨hbk₉.1, by rw [he2₉ 237 (by decide), hf₉]; exact wr_s, hbk₉.2⟩

set_option maxRecDepth 100000 in
set_option maxHeartbeats 4000000 in
theorem c_m_turn {g : GP} {adr : Nat → Nat} (μ : Mem) {α : A7} (hMR₉ : MR μ α) {i : Nat} (hi1₉ : i < 4) {j : Nat} (hj1₉ : 1 ≤ j) (hj2₉ : j ≤ 7)  : CT g yX8_turn mX8_turn (RM 60 0 0) (WM g adr μ) [.ref (adr 237), .int (nI i), .int (nI j)] (PM g adr ((.inl (some (.int (nI (cnt (fun s => decide (aAt (mvS 0 i j (qS α)) s = s)) 32)))))) (fun μ' => MR μ' (aPush (mvS 0 i j (qS α)) α) ∧ μ' 237 6 = nI 0 ∧ FrM μ' μ)) := by
  refine CT.of (l0 := [some (.ref (adr 237)), some (.int (nI i)), some (.int (nI j))]) (by decide +kernel) rfl (Nat.le_of_ble_eq_true rfl) rfl ?_
  refine J.al0 dX8_turn_0 ?_
  refine cl_X8_90 rfl (by decide) (k' := 0) (n' := 0) (c_m_keep _) ⟨⟨by decide, by decide⟩, ⟨rfl, rfl⟩, by decide, by decide⟩ rfl dX8_turn_1 (fun μ2 ⟨hK₉, hT0₉, hs0₉, hk4₉⟩ => ?_)
  have hS2₉ : MS μ2 238 0 (qS α) := MS.off hMR₉.1 hs0₉
  have hn2₉ : μ2 237 5 = nI (qN α) := (hk4₉ 237 5 (by decide) (by decide)).trans hMR₉.2.1.1
  refine J.il1 dX8_turn_4 ?_
  refine J.iconst dX8_turn_5 kI_0 ?_
  refine J.iconst dX8_turn_6 kI_3 ?_
  refine cl_X8_93 rfl (k' := 0) (n' := 0) (inT _ (by omega) (by omega) (by omega)) ⟨⟨by decide, by decide⟩, ⟨rfl, rfl⟩, by decide, by decide⟩ rfl dX8_turn_7 (fun μ9 h9₉ => ?_)
  rw [h9₉]; clear h9₉
  refine J.if_neN (tgt := 23) dX8_turn_10 (by decide) (by omega) (fun c10₉ => ?_) (fun c10₉ => absurd c10₉ (by first | omega | (simp only [not_true_eq_false, not_false_eq_true]; done) | (simp; done)))
  refine J.il2 dX8_turn_23 ?_
  refine J.iconst dX8_turn_24 kI_1 ?_
  refine J.bipush dX8_turn_25 kb_7 ?_
  refine cl_X8_93 rfl (k' := 0) (n' := 0) (inT _ (by omega) (by omega) (by omega)) ⟨⟨by decide, by decide⟩, ⟨rfl, rfl⟩, by decide, by decide⟩ rfl dX8_turn_27 (fun μ9 h9₉ => ?_)
  rw [h9₉]; clear h9₉
  refine J.if_neN (tgt := 43) dX8_turn_30 (by decide) (by omega) (fun c30₉ => ?_) (fun c30₉ => absurd c30₉ (by first | omega | (simp only [not_true_eq_false, not_false_eq_true]; done) | (simp; done)))
  refine J.al0 dX8_turn_43 ?_
  refine J.iconst dX8_turn_44 kI_0 ?_
  refine J.il1 dX8_turn_45 ?_
  refine J.il2 dX8_turn_46 ?_
  refine cl_X8_103 rfl (by decide) (k' := 0) (n' := 0) (c_m_moves0 _ (show mvOK 0 i j by unfold mvOK; omega) hS2₉) ⟨⟨by decide, by decide⟩, ⟨rfl, rfl⟩, by decide, by decide⟩ rfl dX8_turn_47 (fun μ3 ⟨hS3₉, hKT3₉⟩ => ?_)
  refine J.al0 dX8_turn_50 ?_
  refine J.al0 dX8_turn_51 ?_
  refine cl_X8_107 rfl (by decide) (k' := 0) (n' := 0) (c_m_home _ (f := aAt (mvS 0 i j (qS α))) (fun k hk₉ => hS3₉.rAt hk₉) (fun k hk₉ => hS3₉.vs.1.1 k hk₉)) ⟨⟨by decide, by decide⟩, ⟨rfl, rfl⟩, by decide, by decide⟩ rfl dX8_turn_52 (fun μ9 h9₉ => ?_)
  rw [h9₉]; clear h9₉
  have hkt₉ : KT (μ3) μ2 := hKT3₉
  have hT6₉ : (μ3) 237 6 = nI 0 := (hkt₉ 237 6 (by decide) (by decide) (by decide) (by decide) (by decide)).trans hT0₉
  have hn6₉ : (μ3) 237 5 = nI (qN α) := (hkt₉ 237 5 (by decide) (by decide) (by decide) (by decide) (by decide)).trans hn2₉
  refine cl_X8_100 rfl (by decide) (k' := 0) (n' := 0) (c_m_ends _ hT6₉ hn6₉ hMR₉.2.1.2.1) ⟨⟨by decide, by decide⟩, ⟨rfl, rfl⟩, by decide, by decide⟩ rfl dX8_turn_55 (fun μe he₉ => ?_)
  refine J.iret rfl (by decide) (by decide) dX8_turn_58 ⟨_, rfl, ?_, ?_⟩
  · rfl
  · have hpu₉ := hMR₉.push (hK₉.step hkt₉.ks) hS3₉ he₉
    exact ⟨hpu₉.1, (he₉.2.2 237 6 (by decide) (by decide)).trans hT6₉, hpu₉.2⟩

set_option maxRecDepth 100000 in
set_option maxHeartbeats 4000000 in
theorem c_m_shiftX0 {g : GP} {adr : Nat → Nat} (μ : Mem) {α : A7} (hMR₉ : MR μ α) {i : Int32} (hx₉ : ¬ (0 ≤ i ∧ i < nI 8)) {j : Int32} : CT g yX8_shift mX8_shift (RM 60 0 0) (WM g adr μ) [.ref (adr 237), .int i, .int j] (PM g adr ((.inl (some (.int (nI 0))))) (fun μ' => MR μ' (α) ∧ μ' 237 6 = nI 1 ∧ FrM μ' μ)) := by
  refine CT.of (l0 := [some (.ref (adr 237)), some (.int i), some (.int j)]) (by decide +kernel) rfl (Nat.le_of_ble_eq_true rfl) rfl ?_
  refine J.al0 dX8_shift_0 ?_
  refine cl_X8_90 rfl (by decide) (k' := 0) (n' := 0) (c_m_keep _) ⟨⟨by decide, by decide⟩, ⟨rfl, rfl⟩, by decide, by decide⟩ rfl dX8_shift_1 (fun μ2 ⟨hK₉, hT0₉, hs0₉, hk4₉⟩ => ?_)
  have hS2₉ : MS μ2 238 0 (qS α) := MS.off hMR₉.1 hs0₉
  have hn2₉ : μ2 237 5 = nI (qN α) := (hk4₉ 237 5 (by decide) (by decide)).trans hMR₉.2.1.1
  refine J.il1 dX8_shift_4 ?_
  refine J.iconst dX8_shift_5 kI_0 ?_
  refine J.bipush dX8_shift_6 kb_7 ?_
  refine cl_X8_93 rfl (k' := 0) (n' := 0) (inF _ (in_idx (by decide) hx₉)) ⟨⟨by decide, by decide⟩, ⟨rfl, rfl⟩, by decide, by decide⟩ rfl dX8_shift_8 (fun μ9 h9₉ => ?_)
  rw [h9₉]; clear h9₉
  refine J.if_neN (tgt := 24) dX8_shift_11 (by decide) (by omega) (fun c11₉ => absurd c11₉ (by first | omega | (simp only [not_true_eq_false, not_false_eq_true]; done) | (simp; done))) (fun c11₉ => ?_)
  refine J.al0 dX8_shift_14 ?_
  refine J.al0 dX8_shift_15 ?_
  refine J.iconst dX8_shift_16 kI_1 ?_
  refine cl_X8_97 rfl (by decide) (k' := 0) (n' := 0) (c_m_fails _) ⟨⟨by decide, by decide⟩, ⟨rfl, rfl⟩, by decide, by decide⟩ rfl dX8_shift_17 (fun μf hf₉ => ?_)
  refine cl_X8_100 rfl (by decide) (k' := 0) (n' := 0) (c_m_endsX _ (j := 1) (by rw [hf₉]; exact wr_s) (by decide) (by decide)) ⟨⟨by decide, by decide⟩, ⟨rfl, rfl⟩, by decide, by decide⟩ rfl dX8_shift_20 (fun μe ⟨he1₉, he2₉⟩ => ?_)
  refine J.iret rfl (by decide) (by decide) dX8_shift_23 ⟨_, rfl, ?_, ?_⟩
  · rfl
  · have hbk₉ := hMR₉.back (hK₉.step (by rw [hf₉]; exact KS.rf.wrx (by omega))) he1₉ he2₉
    exact ⟨hbk₉.1, by rw [he2₉ 237 (by decide), hf₉]; exact wr_s, hbk₉.2⟩

set_option maxRecDepth 100000 in
set_option maxHeartbeats 4000000 in
theorem c_m_shiftX1 {g : GP} {adr : Nat → Nat} (μ : Mem) {α : A7} (hMR₉ : MR μ α) {i : Nat} (hi1₉ : i < 8) {j : Int32} (hx₉ : j < nI 1 ∨ nI 3 < j) : CT g yX8_shift mX8_shift (RM 60 0 0) (WM g adr μ) [.ref (adr 237), .int (nI i), .int j] (PM g adr ((.inl (some (.int (nI 0))))) (fun μ' => MR μ' (α) ∧ μ' 237 6 = nI 2 ∧ FrM μ' μ)) := by
  refine CT.of (l0 := [some (.ref (adr 237)), some (.int (nI i)), some (.int j)]) (by decide +kernel) rfl (Nat.le_of_ble_eq_true rfl) rfl ?_
  refine J.al0 dX8_shift_0 ?_
  refine cl_X8_90 rfl (by decide) (k' := 0) (n' := 0) (c_m_keep _) ⟨⟨by decide, by decide⟩, ⟨rfl, rfl⟩, by decide, by decide⟩ rfl dX8_shift_1 (fun μ2 ⟨hK₉, hT0₉, hs0₉, hk4₉⟩ => ?_)
  have hS2₉ : MS μ2 238 0 (qS α) := MS.off hMR₉.1 hs0₉
  have hn2₉ : μ2 237 5 = nI (qN α) := (hk4₉ 237 5 (by decide) (by decide)).trans hMR₉.2.1.1
  refine J.il1 dX8_shift_4 ?_
  refine J.iconst dX8_shift_5 kI_0 ?_
  refine J.bipush dX8_shift_6 kb_7 ?_
  refine cl_X8_93 rfl (k' := 0) (n' := 0) (inT _ (by omega) (by omega) (by omega)) ⟨⟨by decide, by decide⟩, ⟨rfl, rfl⟩, by decide, by decide⟩ rfl dX8_shift_8 (fun μ9 h9₉ => ?_)
  rw [h9₉]; clear h9₉
  refine J.if_neN (tgt := 24) dX8_shift_11 (by decide) (by omega) (fun c11₉ => ?_) (fun c11₉ => absurd c11₉ (by first | omega | (simp only [not_true_eq_false, not_false_eq_true]; done) | (simp; done)))
  refine J.il2 dX8_shift_24 ?_
  refine J.iconst dX8_shift_25 kI_1 ?_
  refine J.iconst dX8_shift_26 kI_3 ?_
  refine cl_X8_93 rfl (k' := 0) (n' := 0) (inF _ (in_rng hx₉)) ⟨⟨by decide, by decide⟩, ⟨rfl, rfl⟩, by decide, by decide⟩ rfl dX8_shift_27 (fun μ9 h9₉ => ?_)
  rw [h9₉]; clear h9₉
  refine J.if_neN (tgt := 43) dX8_shift_30 (by decide) (by omega) (fun c30₉ => absurd c30₉ (by first | omega | (simp only [not_true_eq_false, not_false_eq_true]; done) | (simp; done))) (fun c30₉ => ?_)
  refine J.al0 dX8_shift_33 ?_
  refine J.al0 dX8_shift_34 ?_
  refine J.iconst dX8_shift_35 kI_2 ?_
  refine cl_X8_97 rfl (by decide) (k' := 0) (n' := 0) (c_m_fails _) ⟨⟨by decide, by decide⟩, ⟨rfl, rfl⟩, by decide, by decide⟩ rfl dX8_shift_36 (fun μf hf₉ => ?_)
  refine cl_X8_100 rfl (by decide) (k' := 0) (n' := 0) (c_m_endsX _ (j := 2) (by rw [hf₉]; exact wr_s) (by decide) (by decide)) ⟨⟨by decide, by decide⟩, ⟨rfl, rfl⟩, by decide, by decide⟩ rfl dX8_shift_39 (fun μe ⟨he1₉, he2₉⟩ => ?_)
  refine J.iret rfl (by decide) (by decide) dX8_shift_42 ⟨_, rfl, ?_, ?_⟩
  · rfl
  · have hbk₉ := hMR₉.back (hK₉.step (by rw [hf₉]; exact KS.rf.wrx (by omega))) he1₉ he2₉
    exact ⟨hbk₉.1, by rw [he2₉ 237 (by decide), hf₉]; exact wr_s, hbk₉.2⟩

set_option maxRecDepth 100000 in
set_option maxHeartbeats 4000000 in
theorem c_m_shift {g : GP} {adr : Nat → Nat} (μ : Mem) {α : A7} (hMR₉ : MR μ α) {i : Nat} (hi1₉ : i < 8) {j : Nat} (hj1₉ : 1 ≤ j) (hj2₉ : j ≤ 3)  : CT g yX8_shift mX8_shift (RM 60 0 0) (WM g adr μ) [.ref (adr 237), .int (nI i), .int (nI j)] (PM g adr ((.inl (some (.int (nI (cnt (fun s => decide (aAt (mvS 1 i j (qS α)) s = s)) 32)))))) (fun μ' => MR μ' (aPush (mvS 1 i j (qS α)) α) ∧ μ' 237 6 = nI 0 ∧ FrM μ' μ)) := by
  refine CT.of (l0 := [some (.ref (adr 237)), some (.int (nI i)), some (.int (nI j))]) (by decide +kernel) rfl (Nat.le_of_ble_eq_true rfl) rfl ?_
  refine J.al0 dX8_shift_0 ?_
  refine cl_X8_90 rfl (by decide) (k' := 0) (n' := 0) (c_m_keep _) ⟨⟨by decide, by decide⟩, ⟨rfl, rfl⟩, by decide, by decide⟩ rfl dX8_shift_1 (fun μ2 ⟨hK₉, hT0₉, hs0₉, hk4₉⟩ => ?_)
  have hS2₉ : MS μ2 238 0 (qS α) := MS.off hMR₉.1 hs0₉
  have hn2₉ : μ2 237 5 = nI (qN α) := (hk4₉ 237 5 (by decide) (by decide)).trans hMR₉.2.1.1
  refine J.il1 dX8_shift_4 ?_
  refine J.iconst dX8_shift_5 kI_0 ?_
  refine J.bipush dX8_shift_6 kb_7 ?_
  refine cl_X8_93 rfl (k' := 0) (n' := 0) (inT _ (by omega) (by omega) (by omega)) ⟨⟨by decide, by decide⟩, ⟨rfl, rfl⟩, by decide, by decide⟩ rfl dX8_shift_8 (fun μ9 h9₉ => ?_)
  rw [h9₉]; clear h9₉
  refine J.if_neN (tgt := 24) dX8_shift_11 (by decide) (by omega) (fun c11₉ => ?_) (fun c11₉ => absurd c11₉ (by first | omega | (simp only [not_true_eq_false, not_false_eq_true]; done) | (simp; done)))
  refine J.il2 dX8_shift_24 ?_
  refine J.iconst dX8_shift_25 kI_1 ?_
  refine J.iconst dX8_shift_26 kI_3 ?_
  refine cl_X8_93 rfl (k' := 0) (n' := 0) (inT _ (by omega) (by omega) (by omega)) ⟨⟨by decide, by decide⟩, ⟨rfl, rfl⟩, by decide, by decide⟩ rfl dX8_shift_27 (fun μ9 h9₉ => ?_)
  rw [h9₉]; clear h9₉
  refine J.if_neN (tgt := 43) dX8_shift_30 (by decide) (by omega) (fun c30₉ => ?_) (fun c30₉ => absurd c30₉ (by first | omega | (simp only [not_true_eq_false, not_false_eq_true]; done) | (simp; done)))
  refine J.al0 dX8_shift_43 ?_
  refine J.iconst dX8_shift_44 kI_1 ?_
  refine J.il1 dX8_shift_45 ?_
  refine J.il2 dX8_shift_46 ?_
  refine cl_X8_103 rfl (by decide) (k' := 0) (n' := 0) (c_m_moves1 _ (show mvOK 1 i j by unfold mvOK; omega) hS2₉) ⟨⟨by decide, by decide⟩, ⟨rfl, rfl⟩, by decide, by decide⟩ rfl dX8_shift_47 (fun μ3 ⟨hS3₉, hKT3₉⟩ => ?_)
  refine J.al0 dX8_shift_50 ?_
  refine J.al0 dX8_shift_51 ?_
  refine cl_X8_107 rfl (by decide) (k' := 0) (n' := 0) (c_m_home _ (f := aAt (mvS 1 i j (qS α))) (fun k hk₉ => hS3₉.rAt hk₉) (fun k hk₉ => hS3₉.vs.1.1 k hk₉)) ⟨⟨by decide, by decide⟩, ⟨rfl, rfl⟩, by decide, by decide⟩ rfl dX8_shift_52 (fun μ9 h9₉ => ?_)
  rw [h9₉]; clear h9₉
  have hkt₉ : KT (μ3) μ2 := hKT3₉
  have hT6₉ : (μ3) 237 6 = nI 0 := (hkt₉ 237 6 (by decide) (by decide) (by decide) (by decide) (by decide)).trans hT0₉
  have hn6₉ : (μ3) 237 5 = nI (qN α) := (hkt₉ 237 5 (by decide) (by decide) (by decide) (by decide) (by decide)).trans hn2₉
  refine cl_X8_100 rfl (by decide) (k' := 0) (n' := 0) (c_m_ends _ hT6₉ hn6₉ hMR₉.2.1.2.1) ⟨⟨by decide, by decide⟩, ⟨rfl, rfl⟩, by decide, by decide⟩ rfl dX8_shift_55 (fun μe he₉ => ?_)
  refine J.iret rfl (by decide) (by decide) dX8_shift_58 ⟨_, rfl, ?_, ?_⟩
  · rfl
  · have hpu₉ := hMR₉.push (hK₉.step hkt₉.ks) hS3₉ he₉
    exact ⟨hpu₉.1, (he₉.2.2 237 6 (by decide) (by decide)).trans hT6₉, hpu₉.2⟩

set_option maxRecDepth 100000 in
set_option maxHeartbeats 4000000 in
theorem c_m_backX {g : GP} {adr : Nat → Nat} (μ : Mem) {α : A7} (hMR₉ : MR μ α) (h0₉ : aLn (qS α) = 0) : CT g yX8_back mX8_back (RM 60 0 0) (WM g adr μ) [.ref (adr 237)] (PM g adr ((.inl (some (.int (nI 0))))) (fun μ' => MR μ' (aRef 1 0 α) ∧ μ' 237 6 = nI 1 ∧ FrM μ' μ)) := by
  refine CT.of (l0 := [some (.ref (adr 237)), none, none]) (by decide +kernel) rfl (Nat.le_of_ble_eq_true rfl) rfl ?_
  refine J.al0 dX8_back_0 ?_
  refine cl_X8_90 rfl (by decide) (k' := 0) (n' := 0) (c_m_keep _) ⟨⟨by decide, by decide⟩, ⟨rfl, rfl⟩, by decide, by decide⟩ rfl dX8_back_1 (fun μ2 ⟨hK₉, hT0₉, hs0₉, hk4₉⟩ => ?_)
  have hS2₉ : MS μ2 238 0 (qS α) := MS.off hMR₉.1 hs0₉
  have hn2₉ : μ2 237 5 = nI (qN α) := (hk4₉ 237 5 (by decide) (by decide)).trans hMR₉.2.1.1
  refine J.al0 dX8_back_4 ?_
  refine gf_X8_9 rfl (o2 := 238) (by decide) rfl dX8_back_5 ?_
  refine J.iconst dX8_back_8 kI_0 ?_
  refine J.iald (N := 352) (x := nI 0) (by decide) (by decide) (by decide) (by omega) (by have h9₉ := hS2₉.rLn; rw [h0₉] at h9₉; exact h9₉) dX8_back_9 ?_
  refine J.if_neN (tgt := 25) dX8_back_10 (by decide) (by omega) (fun c10₉ => absurd c10₉ (by first | omega | (simp only [not_true_eq_false, not_false_eq_true]; done) | (simp; done))) (fun c10₉ => ?_)
  refine J.al0 dX8_back_13 ?_
  refine J.al0 dX8_back_14 ?_
  refine J.iconst dX8_back_15 kI_1 ?_
  refine J.iconst dX8_back_16 kI_1 ?_
  refine J.iconst dX8_back_17 kI_0 ?_
  refine cl_X8_110 rfl (by decide) (k' := 0) (n' := 0) (c_m_refuse _) ⟨⟨by decide, by decide⟩, ⟨rfl, rfl⟩, by decide, by decide⟩ rfl dX8_back_18 (fun μf hf₉ => ?_)
  refine cl_X8_100 rfl (by decide) (k' := 0) (n' := 0) (c_m_endsX _ (j := 1) (by rw [hf₉]; exact (wr_n (by decide)).trans ((wr_n (by decide)).trans wr_s)) (by decide) (by decide)) ⟨⟨by decide, by decide⟩, ⟨rfl, rfl⟩, by decide, by decide⟩ rfl dX8_back_21 (fun μe ⟨he1₉, he2₉⟩ => ?_)
  refine J.iret rfl (by decide) (by decide) dX8_back_24 ⟨_, rfl, ?_, ?_⟩
  · rfl
  · have hbk₉ := (hMR₉.ref (a := 1) (d := 0) (by decide) (by decide)).back (μ := μf) (by rw [hf₉]; exact KP.fld (KP.fld (hK₉.step (KS.rf.wrx (by omega))))) he1₉ he2₉
    exact ⟨hbk₉.1, by rw [he2₉ 237 (by decide), hf₉]; exact (wr_n (by decide)).trans ((wr_n (by decide)).trans wr_s), hbk₉.2.trans ((FrM.rf.wrx (by decide)).wrx (by decide))⟩

set_option maxRecDepth 100000 in
set_option maxHeartbeats 4000000 in
theorem c_m_back0 {g : GP} {adr : Nat → Nat} (μ : Mem) {α : A7} (hMR₉ : MR μ α) {x w b : Nat} (hx₉ : aLn (qS α) = x + 1) (ha₉ : aLg (qS α) (3 * x) = 0) (hw₉ : aLg (qS α) (3 * x + 1) = w) (hb₉ : aLg (qS α) (3 * x + 2) = b) (hm₉ : mvOK 0 w b) : CT g yX8_back mX8_back (RM 60 0 0) (WM g adr μ) [.ref (adr 237)] (PM g adr ((.inl (some (.int (nI x))))) (fun μ' => MR μ' (aPush (sLen x (sMv (sDo (moveF 0 w (8 - b)) (qS α)))) α) ∧ μ' 237 6 = nI 0 ∧ FrM μ' μ)) := by
  refine CT.of (l0 := [some (.ref (adr 237)), none, none]) (by decide +kernel) rfl (Nat.le_of_ble_eq_true rfl) rfl ?_
  have hq₉ : w < 4 ∧ 1 ≤ b ∧ b < 8 := by unfold mvOK at hm₉; omega
  have hln₉ := hMR₉.1.ln
  refine J.al0 dX8_back_0 ?_
  refine cl_X8_90 rfl (by decide) (k' := 0) (n' := 0) (c_m_keep _) ⟨⟨by decide, by decide⟩, ⟨rfl, rfl⟩, by decide, by decide⟩ rfl dX8_back_1 (fun μ2 ⟨hK₉, hT0₉, hs0₉, hk4₉⟩ => ?_)
  have hS2₉ : MS μ2 238 0 (qS α) := MS.off hMR₉.1 hs0₉
  have hn2₉ : μ2 237 5 = nI (qN α) := (hk4₉ 237 5 (by decide) (by decide)).trans hMR₉.2.1.1
  refine J.al0 dX8_back_4 ?_
  refine gf_X8_9 rfl (o2 := 238) (by decide) rfl dX8_back_5 ?_
  refine J.iconst dX8_back_8 kI_0 ?_
  refine J.iald (N := 352) (x := nI (x + 1)) (by decide) (by decide) (by decide) (by omega) (by have h9₉ := hS2₉.rLn; rw [hx₉] at h9₉; exact h9₉) dX8_back_9 ?_
  refine J.if_neN (tgt := 25) dX8_back_10 (by decide) (by omega) (fun c10₉ => ?_) (fun c10₉ => absurd c10₉ (by first | omega | (simp only [not_true_eq_false, not_false_eq_true]; done) | (simp; done)))
  refine J.al0 dX8_back_25 ?_
  refine gf_X8_9 rfl (o2 := 238) (by decide) rfl dX8_back_26 ?_
  refine J.iconst dX8_back_29 kI_0 ?_
  refine J.dup2 dX8_back_30 rfl rfl ?_
  refine J.iald (N := 352) (x := nI (x + 1)) (by decide) (by decide) (by decide) (by omega) (by have h9₉ := hS2₉.rLn; rw [hx₉] at h9₉; exact h9₉) dX8_back_31 ?_
  refine J.iconst dX8_back_32 kI_1 ?_
  refine J.isubN dX8_back_33 (by omega) ?_
  rw [Nat.add_sub_cancel]
  refine J.iast (N := 352) (by decide) (by decide) (by decide) (by omega) dX8_back_34 ?_
  refine J.bipush dX8_back_35 kb_72 ?_
  refine J.iconst dX8_back_37 kI_3 ?_
  refine J.al0 dX8_back_38 ?_
  refine gf_X8_9 rfl (o2 := 238) (by decide) rfl dX8_back_39 ?_
  refine J.iconst dX8_back_42 kI_0 ?_
  refine J.iald (N := 352) (x := nI x) (by decide) (by decide) (by decide) (by omega) wr_s dX8_back_43 ?_
  refine J.imulN dX8_back_44 ?_
  refine J.iaddN dX8_back_45 ?_
  refine J.is1 dX8_back_46 (by decide) rfl ?_
  refine J.al0 dX8_back_47 ?_
  refine gf_X8_9 rfl (o2 := 238) (by decide) rfl dX8_back_48 ?_
  refine J.il1 dX8_back_51 ?_
  refine J.iald (N := 352) (x := nI 0) (by decide) (by decide) (by decide) (by omega) (by rw [wr_n (by omega)]; exact (by rw [← ha₉]; exact hS2₉.rLg (k := 3 * x) (by omega))) dX8_back_52 ?_
  refine J.iconst dX8_back_53 kI_1 ?_
  refine J.icmp_neN (tgt := 61) dX8_back_54 (by decide) (by omega) (by omega) (fun c54₉ => ?_) (fun c54₉ => absurd c54₉ (by first | omega | (simp only [not_true_eq_false, not_false_eq_true]; done) | (simp; done)))
  refine J.iconst dX8_back_61 kI_0 ?_
  refine J.is2 dX8_back_62 (by decide) rfl ?_
  refine J.al0 dX8_back_63 ?_
  refine J.iconst dX8_back_64 kI_0 ?_
  refine pf_X8_60 rfl (by decide) dX8_back_65 ?_
  refine J.al0 dX8_back_68 ?_
  refine J.al0 dX8_back_69 ?_
  refine J.il2 dX8_back_70 ?_
  refine J.al0 dX8_back_71 ?_
  refine gf_X8_9 rfl (o2 := 238) (by decide) rfl dX8_back_72 ?_
  refine J.il1 dX8_back_75 ?_
  refine J.iconst dX8_back_76 kI_1 ?_
  refine J.iaddN dX8_back_77 ?_
  refine J.iald (N := 352) (x := nI w) (by decide) (by decide) (by decide) (by omega) (by rw [wr_n (by omega)]; rw [wr_n (by omega)]; exact (by rw [← hw₉]; exact hS2₉.rLg (k := 3 * x + 1) (by omega))) dX8_back_78 ?_
  refine J.il2 dX8_back_79 ?_
  refine J.if_eqN (tgt := 87) dX8_back_80 (by decide) (by omega) (fun c80₉ => ?_) (fun c80₉ => absurd c80₉ (by first | omega | (simp only [not_true_eq_false, not_false_eq_true]; done) | (simp; done)))
  refine J.bipush dX8_back_87 kb_8 ?_
  refine J.al0 dX8_back_89 ?_
  refine gf_X8_9 rfl (o2 := 238) (by decide) rfl dX8_back_90 ?_
  refine J.il1 dX8_back_93 ?_
  refine J.iconst dX8_back_94 kI_2 ?_
  refine J.iaddN dX8_back_95 ?_
  refine J.iald (N := 352) (x := nI b) (by decide) (by decide) (by decide) (by omega) (by rw [wr_n (by omega)]; rw [wr_n (by omega)]; exact (by rw [← hb₉]; exact hS2₉.rLg (k := 3 * x + 2) (by omega))) dX8_back_96 ?_
  refine J.isubN dX8_back_97 (by omega) ?_
  refine cl_X8_82 rfl (by decide) (k' := 0) (n' := 0) (c_m_move0 _ (r := 0) wr_s (by decide) (show mvOK 0 w (8 - b) by unfold mvOK; omega)) ⟨⟨by decide, by decide⟩, ⟨rfl, rfl⟩, by decide, by decide⟩ rfl dX8_back_98 (fun μ4 ⟨hP4₉, hc4₉, hr4₉, hF4₉⟩ => ?_)
  have hS4₉ : MS μ4 238 0 (sLen x (qS α)) := (hS2₉.sLen (μ' := wr μ2 238 0 (nI x)) (x := x) (by omega) wr_s (fun k hk₉ => wr_n (Or.inr hk₉))).off (by rw [hF4₉.s, wr_o (by decide)])
  have hBF₉ : Bij (moveF 0 w (8 - b)) := moveF_bij (mv_lt (show mvOK 0 w (8 - b) by unfold mvOK; omega))
  have hKT4₉ : KT μ4 μ2 := KT.trans hF4₉.kt (KT.wrx (KT.wrx KT.rf (by omega)) (by omega))
  refine cl_X8_86 rfl (by decide) (k' := 0) (n' := 0) (c_m_does _ (by decide) hP4₉ hBF₉ (f := aAt (qS α)) (fun k hk₉ => hS4₉.rAt hk₉)) ⟨⟨by decide, by decide⟩, ⟨rfl, rfl⟩, by decide, by decide⟩ rfl dX8_back_101 (fun μ5 ⟨hA5₉, hK5₉, hO5₉⟩ => ?_)
  have hS5₉ : MS μ5 238 0 (sDo (moveF 0 w (8 - b)) (sLen x (qS α))) := hS4₉.sDo hBF₉ hA5₉ hK5₉
  have hKT5₉ : KT μ5 μ2 := fun o k a b c d e => by rw [hO5₉ o a d]; exact hKT4₉ o k a b c d e
  refine J.al0 dX8_back_104 ?_
  refine gf_X8_9 rfl (o2 := 238) (by decide) rfl dX8_back_105 ?_
  refine J.iconst dX8_back_108 kI_1 ?_
  refine J.dup2 dX8_back_109 rfl rfl ?_
  refine J.iald (N := 352) (x := nI (aMv (qS α))) (by decide) (by decide) (by decide) (by omega) hS5₉.rMv dX8_back_110 ?_
  refine J.iconst dX8_back_111 kI_1 ?_
  refine J.iaddN dX8_back_112 ?_
  refine J.iast (N := 352) (by decide) (by decide) (by decide) (by omega) dX8_back_113 ?_
  refine J.al0 dX8_back_114 ?_
  refine J.al0 dX8_back_115 ?_
  refine gf_X8_9 rfl (o2 := 238) (by decide) rfl dX8_back_116 ?_
  refine J.iconst dX8_back_119 kI_0 ?_
  refine J.iald (N := 352) (x := nI x) (by decide) (by decide) (by decide) (by omega) (by rw [wr_n (by omega)]; exact hS5₉.rLn) dX8_back_120 ?_
  have hkt₉ : KT ((wr μ5 238 1 (nI ((aMv (qS α)) + 1)))) μ2 := (KT.wrx hKT5₉ (by omega))
  have hT6₉ : ((wr μ5 238 1 (nI ((aMv (qS α)) + 1)))) 237 6 = nI 0 := (hkt₉ 237 6 (by decide) (by decide) (by decide) (by decide) (by decide)).trans hT0₉
  have hn6₉ : ((wr μ5 238 1 (nI ((aMv (qS α)) + 1)))) 237 5 = nI (qN α) := (hkt₉ 237 5 (by decide) (by decide) (by decide) (by decide) (by decide)).trans hn2₉
  refine cl_X8_100 rfl (by decide) (k' := 0) (n' := 0) (c_m_ends _ hT6₉ hn6₉ hMR₉.2.1.2.1) ⟨⟨by decide, by decide⟩, ⟨rfl, rfl⟩, by decide, by decide⟩ rfl dX8_back_121 (fun μe he₉ => ?_)
  refine J.iret rfl (by decide) (by decide) dX8_back_124 ⟨_, rfl, ?_, ?_⟩
  · rfl
  · have hS9₉ : MS (wr μ5 238 1 (nI (aMv (qS α) + 1))) 238 0 (sLen x (sMv (sDo (moveF 0 w (8 - b)) (qS α)))) := hS5₉.sMv wr_s (fun k hk₉ => wr_n (Or.inr hk₉))
    have hpu₉ := hMR₉.push (hK₉.step hkt₉.ks) hS9₉ he₉
    exact ⟨hpu₉.1, (he₉.2.2 237 6 (by decide) (by decide)).trans hT6₉, hpu₉.2⟩
