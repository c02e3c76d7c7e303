/-! ===== printed: the class: lines, texts, accounts, undo ===== -/
set_option maxRecDepth 100000 in
set_option maxHeartbeats 4000000 in
theorem c_acc7 {g : GP} {adr : Nat → Nat} (μ : Mem) {α : A7} (hCR₉ : CR μ α) : CT g yX7_account mX7_account (RM 20 1 6) (WM g adr μ) [.ref (adr 0), .int (nI 7)] (PM g adr ((.inl (some (.int (nI (qN α)))))) (fun μ' => CR μ' α ∧ FrC μ' μ)) := by
  refine CT.of (l0 := [some (.ref (adr 0)), some (.int (nI 7))]) (by decide +kernel) rfl (Nat.le_of_ble_eq_true rfl) rfl ?_
  refine J.il1 dX7_account_0 ?_
  refine J.tableIn (tgt := 116) dX7_account_1 (by decide) (by decide) rfl (by decide) ?_
  refine J.al0 dX7_account_116 ?_
  refine gf_X7_19 rfl (o2 := 20) (by decide) rfl dX7_account_117 ?_
  refine cl_X7_291 rfl (by decide) (k' := 0) (n' := 0) (c_p_size _ hCR₉.2.1) ⟨⟨by decide, by decide⟩, ⟨rfl, rfl⟩, by decide, by decide⟩ rfl dX7_account_120 (fun μ9 h9₉ => ?_)
  rw [h9₉]; clear h9₉
  refine J.iret rfl (by decide) (by decide) dX7_account_123 ⟨_, rfl, ?_, ?_⟩
  · rfl
  · exact ⟨hCR₉, FrC.rf⟩

set_option maxRecDepth 100000 in
set_option maxHeartbeats 4000000 in
theorem c_isWell {g : GP} {adr : Nat → Nat} (μ : Mem) {α : A7} (hCR₉ : CR μ α) : CT g yX7_isWell mX7_isWell (RM 20 1 6) (WM g adr μ) [.ref (adr 0)] (PM g adr ((.inl (some (.int (nI 1))))) (fun μ' => CR μ' α ∧ FrC μ' μ)) := by
  refine CT.of (l0 := [some (.ref (adr 0)), none]) (by decide +kernel) rfl (Nat.le_of_ble_eq_true rfl) rfl ?_
  refine J.al0 dX7_isWell_0 ?_
  refine gf_X7_10 rfl (o2 := 1) (by decide) rfl dX7_isWell_1 ?_
  refine gf_X7_79 rfl (o2 := 2) (by decide) rfl dX7_isWell_4 ?_
  refine cl_X7_297 rfl (by decide) (k' := 0) (n' := 0) (c_isEachWhereTold _ (by decide) hCR₉.1.1 hCR₉.1.2.1 hCR₉.1.vs.1) ⟨⟨by decide, by decide⟩, ⟨rfl, rfl⟩, by decide, by decide⟩ rfl dX7_isWell_7 (fun μ9 h9₉ => ?_)
  rw [h9₉]; clear h9₉
  refine J.if_neN (tgt := 15) dX7_isWell_10 (by decide) (by omega) (fun c10₉ => ?_) (fun c10₉ => absurd c10₉ (by first | omega | (simp only [not_true_eq_false, not_false_eq_true]; done) | (simp; done)))
  refine J.iconst dX7_isWell_15 kI_0 ?_
  refine J.is1 dX7_isWell_16 (by decide) rfl ?_
  have lp17_1 : ∀ (fu : Nat) (i : Nat) (μ1 : Mem), 5 < i + fu → i ≤ 5 → (∀ o, o ≠ 234 → o ≠ 236 → μ1 o = μ o) → J g mX7_isWell (RM 20 1 6) (MQx g (RM 20 1 6) (PM g adr ((.inl (some (.int (nI 1))))) (fun μ' => CR μ' α ∧ FrC μ' μ))) 0 0 (WM g adr μ1) 17 [some (.ref (adr 0)), some (.int (nI i))] [] := by
    intro fu
    induction fu with
    | zero => intro i μ1 h9₉ hi₉ hO₉; exact absurd h9₉ (by omega)
    | succ fu ih17 =>
      intro i μ1 h9₉ hi₉ hO₉
      have hCm₉ : CS μ1 1 (qS α) := hCR₉.1.off (fun o q1₉ q2₉ => hO₉ o (by omega) (by omega))
      refine J.il1 dX7_isWell_17 ?_
      refine J.iconst dX7_isWell_18 kI_5 ?_
      refine J.icmp_geN (tgt := 56) dX7_isWell_19 (by decide) (by omega) (by omega) (fun c19₉ => ?_) (fun c19₉ => ?_)
      · refine J.iconst dX7_isWell_56 kI_1 ?_
        refine J.zret (ty := .boolean) rfl (by decide) (by decide) (by decide) dX7_isWell_57 ⟨_, rfl, ?_, ?_⟩
        · rfl
        · exact ⟨hCR₉.off (fun o ho₉ => hO₉ o (by omega) (by omega)), fun o ho₉ => hO₉ o (by omega) (by omega)⟩
      · refine J.al0 dX7_isWell_22 ?_
        refine gf_X7_10 rfl (o2 := 1) (by decide) rfl dX7_isWell_23 ?_
        refine J.il1 dX7_isWell_26 ?_
        refine cl_X7_300 rfl (by decide) (k' := 0) (n' := 0) (c_isFilled _ (by decide) (by omega) hCm₉) ⟨⟨by decide, by decide⟩, ⟨rfl, rfl⟩, by decide, by decide⟩ rfl dX7_isWell_27 (fun μ9 h9₉ => ?_)
        rw [h9₉]; clear h9₉
        refine J.if_eqB (tgt := 50) dX7_isWell_30 (by decide) (fun c30₉ => ?_) (fun c30₉ => ?_)
        · refine J.ii1 (z := 1) dX7_isWell_50 (by decide) (by decide) rfl ?_
          refine J.goto (tgt := 17) dX7_isWell_53 (by decide) ?_
          exact ih17 (i + 1) _ (by omega) (by omega) hO₉
        · refine J.al0 dX7_isWell_33 ?_
          refine J.al0 dX7_isWell_34 ?_
          refine gf_X7_10 rfl (o2 := 1) (by decide) rfl dX7_isWell_35 ?_
          refine J.il1 dX7_isWell_38 ?_
          have hos₉ := c_onShelf (g := g) (adr := adr) (μ1) (t := 1) (i := i) (by decide) (by omega)
          refine cl_X7_182 rfl (by decide) (k' := 0) (n' := 0) (hos₉) ⟨⟨by decide, by decide⟩, ⟨rfl, rfl⟩, by decide, by decide⟩ rfl dX7_isWell_39 (fun μ9 h9₉ => ?_)
          rw [h9₉]; clear h9₉
          refine cl_X7_303 rfl (by decide) (k' := 0) (n' := 0) (c_isUndone _ (by omega) (fl_P hCm₉ (by omega) c30₉) (hCm₉.sh i (by omega) c30₉)) ⟨⟨by decide, by decide⟩, ⟨rfl, rfl⟩, by decide, by decide⟩ rfl dX7_isWell_42 (fun μ3 hO3₉ => ?_)
          refine J.if_neN (tgt := 50) dX7_isWell_45 (by decide) (by omega) (fun c45₉ => ?_) (fun c45₉ => absurd c45₉ (by first | omega | (simp only [not_true_eq_false, not_false_eq_true]; done) | (simp; done)))
          refine J.ii1 (z := 1) dX7_isWell_50 (by decide) (by decide) rfl ?_
          refine J.goto (tgt := 17) dX7_isWell_53 (by decide) ?_
          exact ih17 (i + 1) _ (by omega) (by omega) (fun o q1₉ q2₉ => (hO3₉ o q1₉ q2₉).trans (hO₉ o q1₉ q2₉))
  exact lp17_1 (6) 0 _ (by omega) (by omega) (fun o _ _ => rfl)

set_option maxRecDepth 100000 in
set_option maxHeartbeats 4000000 in
theorem c_undoX {g : GP} {adr : Nat → Nat} (μ : Mem) {α : A7} (hCR₉ : CR μ α) (hx₉ : qN α = 0) : CT g yX7_undo mX7_undo (RM 20 1 6) (WM g adr μ) [.ref (adr 0)] (PM g adr (.inr "java/lang/IllegalStateException") (fun μ' => CR μ' α ∧ FrC μ' μ)) := by
  refine CT.of (l0 := [some (.ref (adr 0))]) (by decide +kernel) rfl (Nat.le_of_ble_eq_true rfl) rfl ?_
  have hn8₉ := hCR₉.2.1.2.1
  refine J.al0 dX7_undo_0 ?_
  refine gf_X7_19 rfl (o2 := 20) (by decide) rfl dX7_undo_1 ?_
  refine cl_X7_291 rfl (by decide) (k' := 0) (n' := 0) (c_p_size _ hCR₉.2.1) ⟨⟨by decide, by decide⟩, ⟨rfl, rfl⟩, by decide, by decide⟩ rfl dX7_undo_4 (fun μ9 h9₉ => ?_)
  rw [h9₉]; clear h9₉
  refine J.if_neN (tgt := 21) dX7_undo_7 (by decide) (by omega) (fun c7₉ => absurd c7₉ (by first | omega | (simp only [not_true_eq_false, not_false_eq_true]; done) | (simp; done))) (fun c7₉ => ?_)
  refine J.throwSW (E := "java/lang/IllegalStateException") (tx := "no change can be undone") (names := ["java/lang/RuntimeException", "java/lang/Exception"]) (by decide +kernel) (by decide +kernel) t_746 t_27 rfl (by decide +kernel) (fun p ln s m args meth c C9 => C9.at at_274) ao_274 dX7_undo_10 dX7_undo_13 dX7_undo_14 dX7_undo_17 dX7_undo_20 rfl rfl (by decide) (by decide) (by decide) (by decide) ⟨_, rfl, rfl, ?_⟩
  exact ⟨hCR₉, FrC.rf⟩

set_option maxRecDepth 100000 in
set_option maxHeartbeats 4000000 in
theorem c_undo {g : GP} {adr : Nat → Nat} (μ : Mem) {α : A7} (hCR₉ : CR μ α) (hx₉ : 0 < qN α) : CT g yX7_undo mX7_undo (RM 20 1 6) (WM g adr μ) [.ref (adr 0)] (PM g adr ((.inl (some (.int (nI (qN α - 1)))))) (fun μ' => CR μ' (aUndo α) ∧ FrC μ' μ)) := by
  refine CT.of (l0 := [some (.ref (adr 0))]) (by decide +kernel) rfl (Nat.le_of_ble_eq_true rfl) rfl ?_
  have hn8₉ := hCR₉.2.1.2.1
  refine J.al0 dX7_undo_0 ?_
  refine gf_X7_19 rfl (o2 := 20) (by decide) rfl dX7_undo_1 ?_
  refine cl_X7_291 rfl (by decide) (k' := 0) (n' := 0) (c_p_size _ hCR₉.2.1) ⟨⟨by decide, by decide⟩, ⟨rfl, rfl⟩, by decide, by decide⟩ rfl dX7_undo_4 (fun μ9 h9₉ => ?_)
  rw [h9₉]; clear h9₉
  refine J.if_neN (tgt := 21) dX7_undo_7 (by decide) (by omega) (fun c7₉ => ?_) (fun c7₉ => absurd c7₉ (by first | omega | (simp only [not_true_eq_false, not_false_eq_true]; done) | (simp; done)))
  refine J.al0 dX7_undo_21 ?_
  refine gf_X7_19 rfl (o2 := 20) (by decide) rfl dX7_undo_22 ?_
  refine J.al0 dX7_undo_25 ?_
  refine gf_X7_10 rfl (o2 := 1) (by decide) rfl dX7_undo_26 ?_
  refine cl_X7_314 rfl (by decide) (k' := 0) (n' := 0) (c_giveBack _ hCR₉.2.1 hx₉) ⟨⟨by decide, by decide⟩, ⟨rfl, rfl⟩, by decide, by decide⟩ rfl dX7_undo_29 (fun μ2 ⟨hC2₉, hP2₉, hO2₉⟩ => ?_)
  refine J.al0 dX7_undo_32 ?_
  refine gf_X7_19 rfl (o2 := 20) (by decide) rfl dX7_undo_33 ?_
  refine cl_X7_291 rfl (by decide) (k' := 0) (n' := 0) (c_p_size _ hP2₉) ⟨⟨by decide, by decide⟩, ⟨rfl, rfl⟩, by decide, by decide⟩ rfl dX7_undo_36 (fun μ9 h9₉ => ?_)
  rw [h9₉]; clear h9₉
  refine J.iret rfl (by decide) (by decide) dX7_undo_39 ⟨_, rfl, ?_, ?_⟩
  · rfl
  · exact ⟨hCR₉.chg hC2₉ hP2₉ (fun o ho₉ => hO2₉ o (by omega)), fun o ho₉ => hO2₉ o (by omega)⟩




set_option maxRecDepth 100000 in
set_option maxHeartbeats 4000000 in
theorem c_meanAway {g : GP} {adr : Nat → Nat} (μ : Mem) {α : A7} (hCR₉ : CR μ α) : CT g yX7_meanAway mX7_meanAway (RM 20 1 6) (WM g adr μ) [.ref (adr 0)] (PM g adr (.inl (some (.double (dM (sumU (fun k => apart (pinv (aAt (qS α)) k) k) 32))))) (fun μ' => CR μ' α ∧ FrC μ' μ)) := by
  refine CT.of (l0 := [some (.ref (adr 0))]) (by decide +kernel) rfl (Nat.le_of_ble_eq_true rfl) rfl ?_
  refine J.al0 dX7_meanAway_0 ?_
  refine gf_X7_10 rfl (o2 := 1) (by decide) rfl dX7_meanAway_1 ?_
  refine gf_X7_79 rfl (o2 := 2) (by decide) rfl dX7_meanAway_4 ?_
  refine cl_X7_306 rfl (by decide) (k' := 0) (n' := 0) (c_movesToHomes _ (by decide) hCR₉.1.2.1) ⟨⟨by decide, by decide⟩, ⟨rfl, rfl⟩, by decide, by decide⟩ rfl dX7_meanAway_7 (fun μ9 h9₉ => ?_)
  rw [h9₉]; clear h9₉
  refine J.i2d dX7_meanAway_10 ?_
  refine J.ldc2d (v := 4629700416936869888) dX7_meanAway_11 t_998 ?_
  refine J.ddiv dX7_meanAway_14 (d_n64 _ (by have := sumU_le (n := 32) (c := 2) (f := fun k => apart (pinv (aAt (qS α)) k) k) (fun k _ => apart_le _ _); omega)) ?_
  refine J.dret rfl (by decide) (by decide) dX7_meanAway_15 ⟨_, rfl, ?_, ?_⟩
  · rfl
  · exact ⟨hCR₉, FrC.rf⟩
