/-! ===== printed: the model: lines, texts, accounts, undo ===== -/
set_option maxRecDepth 100000 in
set_option maxHeartbeats 4000000 in
theorem c_m_seamShare {g : GP} {adr : Nat → Nat} (μ : Mem) {α : A7} (hMR₉ : MR μ α) : CT g yX8_seamShare mX8_seamShare (RM 60 0 0) (WM g adr μ) [.ref (adr 237)] (PM g adr (.inl (some (.float (fM (sumU (seam1 (fun s => aCol (qS α) (aAt (qS α) s))) 32))))) (fun μ' => MR μ' (α) ∧ μ' 237 6 = nI 0 ∧ FrM μ' μ)) := by
  refine CT.of (l0 := [some (.ref (adr 237))]) (by decide +kernel) rfl (Nat.le_of_ble_eq_true rfl) rfl ?_
  refine J.al0 dX8_seamShare_0 ?_
  refine J.iconst dX8_seamShare_1 kI_0 ?_
  refine pf_X8_42 rfl (by decide) dX8_seamShare_2 ?_
  refine J.al0 dX8_seamShare_5 ?_
  refine cl_X8_128 rfl (by decide) (k' := 0) (n' := 0) (c_m_seamMany _ (MS.off hMR₉.1 (by simp only [wr_o (show (238 : Nat) ≠ 237 by decide)]))) ⟨⟨by decide, by decide⟩, ⟨rfl, rfl⟩, by decide, by decide⟩ rfl dX8_seamShare_6 (fun μ9 h9₉ => ?_)
  rw [h9₉]; clear h9₉
  refine J.i2f dX8_seamShare_9 ?_
  refine J.ldcF (v := 1115684864) dX8_seamShare_10 t_1346 ?_
  refine J.fdiv dX8_seamShare_12 (f_n32 _ (by have := sumU_le (n := 32) (c := 2) (f := seam1 (fun s => aCol (qS α) (aAt (qS α) s))) (fun k _ => seam1_le _ _); omega)) ?_
  refine J.fret rfl (by decide) (by decide) dX8_seamShare_13 ⟨_, rfl, ?_, ?_⟩
  · rfl
  · exact ⟨hMR₉.thr, wr_s, FrM.thr⟩

set_option maxRecDepth 100000 in
set_option maxHeartbeats 4000000 in
theorem c_m_undoX {g : GP} {adr : Nat → Nat} (μ : Mem) {α : A7} (hMR₉ : MR μ α) (hx₉ : qN α = 0) : CT g yX8_undo mX8_undo (RM 60 0 0) (WM g adr μ) [.ref (adr 237)] (PM g adr ((.inl (some (.int (nI 0))))) (fun μ' => MR μ' (α) ∧ μ' 237 6 = nI 1 ∧ FrM μ' μ)) := by
  refine CT.of (l0 := [some (.ref (adr 237))]) (by decide +kernel) rfl (Nat.le_of_ble_eq_true rfl) rfl ?_
  have hn8₉ := hMR₉.2.1.2.1
  refine J.al0 dX8_undo_0 ?_
  refine J.al0 dX8_undo_1 ?_
  refine gf_X8_51 rfl (x := nI (qN α)) (by decide) hMR₉.2.1.1 dX8_undo_2 ?_
  refine J.if_neN (tgt := 12) dX8_undo_5 (by decide) (by omega) (fun c5₉ => absurd c5₉ (by first | omega | (simp only [not_true_eq_false, not_false_eq_true]; done) | (simp; done))) (fun c5₉ => ?_)
  refine J.iconst dX8_undo_8 kI_1 ?_
  refine J.goto (tgt := 13) dX8_undo_9 (by decide) ?_
  refine pf_X8_42 rfl (by decide) dX8_undo_13 ?_
  refine J.al0 dX8_undo_16 ?_
  refine gf_X8_42 rfl (x := nI 1) (by decide) wr_s dX8_undo_17 ?_
  refine J.if_leN (tgt := 25) dX8_undo_20 (by decide) (by omega) (fun c20₉ => absurd c20₉ (by first | omega | (simp only [not_true_eq_false, not_false_eq_true]; done) | (simp; done))) (fun c20₉ => ?_)
  refine J.iconst dX8_undo_23 kI_0 ?_
  refine J.iret rfl (by decide) (by decide) dX8_undo_24 ⟨_, rfl, ?_, ?_⟩
  · rfl
  · exact ⟨hMR₉.thr, wr_s, FrM.thr⟩

set_option maxRecDepth 100000 in
set_option maxHeartbeats 4000000 in
theorem c_m_undo {g : GP} {adr : Nat → Nat} (μ : Mem) {α : A7} (hMR₉ : MR μ α) (hx₉ : 0 < qN α) : CT g yX8_undo mX8_undo (RM 60 0 0) (WM g adr μ) [.ref (adr 237)] (PM g adr ((.inl (some (.int (nI (qN α - 1)))))) (fun μ' => MR μ' (aUndo α) ∧ μ' 237 6 = nI 0 ∧ FrM μ' μ)) := by
  refine CT.of (l0 := [some (.ref (adr 237))]) (by decide +kernel) rfl (Nat.le_of_ble_eq_true rfl) rfl ?_
  have hn8₉ := hMR₉.2.1.2.1
  refine J.al0 dX8_undo_0 ?_
  refine J.al0 dX8_undo_1 ?_
  refine gf_X8_51 rfl (x := nI (qN α)) (by decide) hMR₉.2.1.1 dX8_undo_2 ?_
  refine J.if_neN (tgt := 12) dX8_undo_5 (by decide) (by omega) (fun c5₉ => ?_) (fun c5₉ => absurd c5₉ (by first | omega | (simp only [not_true_eq_false, not_false_eq_true]; done) | (simp; done)))
  refine J.iconst dX8_undo_12 kI_0 ?_
  refine pf_X8_42 rfl (by decide) dX8_undo_13 ?_
  refine J.al0 dX8_undo_16 ?_
  refine gf_X8_42 rfl (x := nI 0) (by decide) wr_s dX8_undo_17 ?_
  refine J.if_leN (tgt := 25) dX8_undo_20 (by decide) (by omega) (fun c20₉ => ?_) (fun c20₉ => absurd c20₉ (by first | omega | (simp only [not_true_eq_false, not_false_eq_true]; done) | (simp; done)))
  refine J.al0 dX8_undo_25 ?_
  refine J.dup dX8_undo_26 rfl ?_
  refine gf_X8_51 rfl (x := nI (qN α)) (by decide) (by rw [wr_n (by omega)]; exact hMR₉.2.1.1) dX8_undo_27 ?_
  refine J.iconst dX8_undo_30 kI_1 ?_
  refine J.isubN dX8_undo_31 (by omega) ?_
  refine pf_X8_51 rfl (by decide) dX8_undo_32 ?_
  refine J.al0 dX8_undo_35 ?_
  refine gf_X8_19 rfl (o2 := 241) (by decide) rfl dX8_undo_36 ?_
  refine J.sipush dX8_undo_39 kc_352 ?_
  refine J.al0 dX8_undo_42 ?_
  refine gf_X8_51 rfl (x := nI ((qN α) - 1)) (by decide) wr_s dX8_undo_43 ?_
  refine J.imulN dX8_undo_46 ?_
  refine J.al0 dX8_undo_47 ?_
  refine gf_X8_9 rfl (o2 := 238) (by decide) rfl dX8_undo_48 ?_
  refine J.iconst dX8_undo_51 kI_0 ?_
  refine J.sipush dX8_undo_52 kc_352 ?_
  refine J.copy (N1 := 2816) (N2 := 352) t_1055 t_317 t_316 t_15 (by decide) (by decide) (by omega) (by omega) (by decide) (by decide) (by decide) (by decide) (by decide) (by decide) dX8_undo_55 ?_
  refine J.al0 dX8_undo_58 ?_
  refine gf_X8_51 rfl (x := nI (qN α - 1)) (by decide) ((congrFun (cpy_o (by decide)) 5).trans wr_s) dX8_undo_59 ?_
  refine J.iret rfl (by decide) (by decide) dX8_undo_62 ⟨_, rfl, ?_, ?_⟩
  · rfl
  · have hun₉ := hMR₉.undo hx₉ (μ' := cpy (wr (wr μ 237 6 (nI 0)) 237 5 (nI (qN α - 1))) 241 (352 * (qN α - 1)) 238 0 352) (by rw [cpy_o (by decide), wr_s]) (fun k hk₉ => by rw [cpy_in (by omega) (by omega), wr_o (by decide), wr_o (by decide), Nat.sub_zero]) (fun o k h1₉ h2₉ => by rw [cpy_o h1₉, wr_n (by omega), wr_n (by omega)])
    exact ⟨hun₉.1, by rw [cpy_o (by decide), wr_n (by decide), wr_s], hun₉.2⟩

set_option maxRecDepth 100000 in
set_option maxHeartbeats 4000000 in
theorem c_m_save {g : GP} {adr : Nat → Nat} (μ : Mem) {α : A7} (hMR₉ : MR μ α) : CT g yX8_save mX8_save (RM 60 0 0) (WM g adr μ) [.ref (adr 237)] (PM g adr ((.inl (some (.int (nI (cnt (fun s => decide (aAt (qS α) s = s)) 32)))))) (fun μ' => MR μ' (aSave α) ∧ μ' 237 6 = nI 0 ∧ FrM μ' μ)) := by
  refine CT.of (l0 := [some (.ref (adr 237))]) (by decide +kernel) rfl (Nat.le_of_ble_eq_true rfl) rfl ?_
  refine J.al0 dX8_save_0 ?_
  refine J.iconst dX8_save_1 kI_0 ?_
  refine pf_X8_42 rfl (by decide) dX8_save_2 ?_
  refine J.al0 dX8_save_5 ?_
  refine gf_X8_9 rfl (o2 := 238) (by decide) rfl dX8_save_6 ?_
  refine J.iconst dX8_save_9 kI_0 ?_
  refine J.al0 dX8_save_10 ?_
  refine gf_X8_16 rfl (o2 := 240) (by decide) rfl dX8_save_11 ?_
  refine J.iconst dX8_save_14 kI_0 ?_
  refine J.sipush dX8_save_15 kc_352 ?_
  refine J.copy (N1 := 352) (N2 := 352) t_1055 t_317 t_316 t_15 (by decide) (by decide) (by omega) (by omega) (by decide) (by decide) (by decide) (by decide) (by decide) (by decide) dX8_save_18 ?_
  refine J.al0 dX8_save_21 ?_
  refine J.iconst dX8_save_22 kI_1 ?_
  refine pf_X8_220 rfl (by decide) (Or.inr (by decide)) dX8_save_23 ?_
  refine J.al0 dX8_save_26 ?_
  have hsv₉ := hMR₉.save (μ' := wr (cpy (wr μ 237 6 (nI 0)) 238 0 240 0 352) 237 3 (nI 1)) wr_s (fun k hk₉ => by rw [wr_o (by decide), cpy_in (by omega) (by omega), wr_o (by decide), Nat.sub_zero, Nat.zero_add]) (fun o k h1₉ h2₉ => by rw [wr_n (by omega), cpy_o h1₉, wr_n (by omega)])
  refine cl_X8_107 rfl (by decide) (k' := 0) (n' := 0) (c_m_home _ (f := aAt (qS α)) (fun k hk₉ => hsv₉.1.1.rAt hk₉) (fun k hk₉ => hsv₉.1.1.vs.1.1 k hk₉)) ⟨⟨by decide, by decide⟩, ⟨rfl, rfl⟩, by decide, by decide⟩ rfl dX8_save_27 (fun μ9 h9₉ => ?_)
  rw [h9₉]; clear h9₉
  refine J.iret rfl (by decide) (by decide) dX8_save_30 ⟨_, rfl, ?_, ?_⟩
  · rfl
  · exact ⟨hsv₉.1, by rw [wr_n (by decide), cpy_o (by decide), wr_s], hsv₉.2⟩

set_option maxRecDepth 100000 in
set_option maxHeartbeats 4000000 in
theorem c_m_restX {g : GP} {adr : Nat → Nat} (μ : Mem) {α : A7} (hMR₉ : MR μ α) (hx₉ : ¬ qB α = true) : CT g yX8_restore mX8_restore (RM 60 0 0) (WM g adr μ) [.ref (adr 237)] (PM g adr ((.inl (some (.int (nI 0))))) (fun μ' => MR μ' (α) ∧ μ' 237 6 = nI 1 ∧ FrM μ' μ)) := by
  refine CT.of (l0 := [some (.ref (adr 237))]) (by decide +kernel) rfl (Nat.le_of_ble_eq_true rfl) rfl ?_
  have hb₉ : μ 237 3 = nI 0 := by have h9₉ := hMR₉.2.2.1; rw [if_neg hx₉] at h9₉; exact h9₉
  refine J.al0 dX8_restore_0 ?_
  refine J.al0 dX8_restore_1 ?_
  refine gf_X8_220 rfl (x := nI 0) (by decide) hb₉ dX8_restore_2 ?_
  refine J.if_eqN (tgt := 12) dX8_restore_5 (by decide) (by omega) (fun c5₉ => ?_) (fun c5₉ => absurd c5₉ (by first | omega | (simp only [not_true_eq_false, not_false_eq_true]; done) | (simp; done)))
  refine J.iconst dX8_restore_12 kI_1 ?_
  refine pf_X8_42 rfl (by decide) dX8_restore_13 ?_
  refine J.al0 dX8_restore_16 ?_
  refine gf_X8_42 rfl (x := nI 1) (by decide) wr_s dX8_restore_17 ?_
  refine J.if_leN (tgt := 25) dX8_restore_20 (by decide) (by omega) (fun c20₉ => absurd c20₉ (by first | omega | (simp only [not_true_eq_false, not_false_eq_true]; done) | (simp; done))) (fun c20₉ => ?_)
  refine J.iconst dX8_restore_23 kI_0 ?_
  refine J.iret rfl (by decide) (by decide) dX8_restore_24 ⟨_, rfl, ?_, ?_⟩
  · rfl
  · exact ⟨hMR₉.thr, wr_s, FrM.thr⟩

set_option maxRecDepth 100000 in
set_option maxHeartbeats 4000000 in
theorem c_m_restOk {g : GP} {adr : Nat → Nat} (μ : Mem) {α : A7} (hMR₉ : MR μ α) (hx₉ : qB α = true) : CT g yX8_restore mX8_restore (RM 60 0 0) (WM g adr μ) [.ref (adr 237)] (PM g adr ((.inl (some (.int (nI (cnt (fun s => decide (aAt (qZ α) s = s)) 32)))))) (fun μ' => MR μ' (aRest α) ∧ μ' 237 6 = nI 0 ∧ FrM μ' μ)) := by
  refine CT.of (l0 := [some (.ref (adr 237))]) (by decide +kernel) rfl (Nat.le_of_ble_eq_true rfl) rfl ?_
  have hb₉ : μ 237 3 = nI 1 := by have h9₉ := hMR₉.2.2.1; rw [if_pos hx₉] at h9₉; exact h9₉
  refine J.al0 dX8_restore_0 ?_
  refine J.al0 dX8_restore_1 ?_
  refine gf_X8_220 rfl (x := nI 1) (by decide) hb₉ dX8_restore_2 ?_
  refine J.if_eqN (tgt := 12) dX8_restore_5 (by decide) (by omega) (fun c5₉ => absurd c5₉ (by first | omega | (simp only [not_true_eq_false, not_false_eq_true]; done) | (simp; done))) (fun c5₉ => ?_)
  refine J.iconst dX8_restore_8 kI_0 ?_
  refine J.goto (tgt := 13) dX8_restore_9 (by decide) ?_
  refine pf_X8_42 rfl (by decide) dX8_restore_13 ?_
  refine J.al0 dX8_restore_16 ?_
  refine gf_X8_42 rfl (x := nI 0) (by decide) wr_s dX8_restore_17 ?_
  refine J.if_leN (tgt := 25) dX8_restore_20 (by decide) (by omega) (fun c20₉ => ?_) (fun c20₉ => absurd c20₉ (by first | omega | (simp only [not_true_eq_false, not_false_eq_true]; done) | (simp; done)))
  refine J.al0 dX8_restore_25 ?_
  refine gf_X8_16 rfl (o2 := 240) (by decide) rfl dX8_restore_26 ?_
  refine J.iconst dX8_restore_29 kI_0 ?_
  refine J.al0 dX8_restore_30 ?_
  refine gf_X8_9 rfl (o2 := 238) (by decide) rfl dX8_restore_31 ?_
  refine J.iconst dX8_restore_34 kI_0 ?_
  refine J.sipush dX8_restore_35 kc_352 ?_
  refine J.copy (N1 := 352) (N2 := 352) t_1055 t_317 t_316 t_15 (by decide) (by decide) (by omega) (by omega) (by decide) (by decide) (by decide) (by decide) (by decide) (by decide) dX8_restore_38 ?_
  refine J.al0 dX8_restore_41 ?_
  refine J.iconst dX8_restore_42 kI_0 ?_
  refine pf_X8_51 rfl (by decide) dX8_restore_43 ?_
  refine J.al0 dX8_restore_46 ?_
  have hsv₉ := hMR₉.rest hx₉ (μ' := wr (cpy (wr μ 237 6 (nI 0)) 240 0 238 0 352) 237 5 (nI 0)) wr_s (fun k hk₉ => by rw [wr_o (by decide), cpy_in (by omega) (by omega), wr_o (by decide), Nat.sub_zero, Nat.zero_add]) (fun o k h1₉ h2₉ => by rw [wr_n (by omega), cpy_o h1₉, wr_n (by omega)])
  refine cl_X8_107 rfl (by decide) (k' := 0) (n' := 0) (c_m_home _ (f := aAt (qZ α)) (fun k hk₉ => hsv₉.1.1.rAt hk₉) (fun k hk₉ => hsv₉.1.1.vs.1.1 k hk₉)) ⟨⟨by decide, by decide⟩, ⟨rfl, rfl⟩, by decide, by decide⟩ rfl dX8_restore_47 (fun μ9 h9₉ => ?_)
  rw [h9₉]; clear h9₉
  refine J.iret rfl (by decide) (by decide) dX8_restore_50 ⟨_, rfl, ?_, ?_⟩
  · rfl
  · exact ⟨hsv₉.1, by rw [wr_n (by decide), cpy_o (by decide), wr_s], hsv₉.2⟩
