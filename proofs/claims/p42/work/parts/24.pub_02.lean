/-! ===== printed: the class: texts and shelves ===== -/
set_option maxRecDepth 100000 in
set_option maxHeartbeats 4000000 in
theorem c_useX2n {g : GP} {adr : Nat → Nat} (μ : Mem) {α : A7} (hCR₉ : CR μ α) {i t : Nat} (hi₉ : i < 5) (ht1₉ : 1 ≤ t) (ht2₉ : t ≤ 99) (hx₉ : ¬ aFl (qS α) i = true) : CT g yX7_use mX7_use (RM 20 1 6) (WM g adr μ) [.ref (adr 0), .int (nI i), .int (-(nI t))] (PM g adr (.inr "java/lang/UnsupportedOperationException") (fun μ' => CR μ' (aRef 3 i α) ∧ FrC μ' μ)) := by
  refine CT.of (l0 := [some (.ref (adr 0)), some (.int (nI i)), some (.int (-(nI t))), none]) (by decide +kernel) rfl (Nat.le_of_ble_eq_true rfl) rfl ?_
  refine J.il1 dX7_use_0 ?_
  refine cl_X7_176 rfl (k' := 0) (n' := 0) (c_needShelfOk _ (by omega)) ⟨⟨by decide, by decide⟩, ⟨rfl, rfl⟩, by decide, by decide⟩ rfl dX7_use_1 (fun μ9 h9₉ => ?_)
  rw [h9₉]; clear h9₉
  refine J.il2 dX7_use_4 ?_
  refine J.if_ge (tgt := 13) dX7_use_5 (by decide) (fun c5₉ => absurd c5₉ (n99 (by omega) (by omega))) (fun c5₉ => ?_)
  refine J.il2 dX7_use_8 ?_
  refine J.ineg dX7_use_9 rfl ?_
  rw [Int32.neg_neg]
  refine J.goto (tgt := 14) dX7_use_10 (by decide) ?_
  refine J.is3 dX7_use_14 (by decide) rfl ?_
  refine J.il3 dX7_use_15 ?_
  refine J.iconst dX7_use_16 kI_1 ?_
  refine J.bipush dX7_use_17 kb_99 ?_
  refine cl_X7_68 rfl (k' := 0) (n' := 0) (c_needFromToOk _ (by omega) (by omega) (by decide)) ⟨⟨by decide, by decide⟩, ⟨rfl, rfl⟩, by decide, by decide⟩ rfl dX7_use_19 (fun μ9 h9₉ => ?_)
  rw [h9₉]; clear h9₉
  refine J.al0 dX7_use_22 ?_
  refine J.il1 dX7_use_23 ?_
  refine cx_X7_179 rfl (by decide) (k' := 1) (n' := 6) (c_needFilledX _ (by omega) hCR₉.1 hx₉) ⟨⟨by decide, by decide⟩, ⟨rfl, rfl⟩, by decide, by decide⟩ rfl dX7_use_24 (fun μ9 h9₉ => ?_)
  exact JX.out ⟨_, rfl, rfl, (by rw [h9₉]; exact ⟨hCR₉.ref (by decide), fun o ho₉ => by rw [wr_o (by omega), wr_o (by omega)]⟩)⟩ rfl rfl (by decide) (by decide)

set_option maxRecDepth 100000 in
set_option maxHeartbeats 4000000 in
theorem c_useOkn {g : GP} {adr : Nat → Nat} (μ : Mem) {α : A7} (hCR₉ : CR μ α) {i t : Nat} (hi₉ : i < 5) (ht1₉ : 1 ≤ t) (ht2₉ : t ≤ 99) (hfi₉ : aFl (qS α) i = true) : CT g yX7_use mX7_use (RM 20 1 6) (WM g adr μ) [.ref (adr 0), .int (nI i), .int (-(nI t))] (PM g adr ((.inl (some (.int (nI (cnt (fun s => decide (aAt (sLen 0 (sDo (iter (pinv (aSh (qS α) i)) t) (qS α))) s = s)) 32)))))) (fun μ' => CR μ' (aPush (sLen 0 (sDo (iter (pinv (aSh (qS α) i)) t) (qS α))) α) ∧ FrC μ' μ)) := by
  refine CT.of (l0 := [some (.ref (adr 0)), some (.int (nI i)), some (.int (-(nI t))), none]) (by decide +kernel) rfl (Nat.le_of_ble_eq_true rfl) rfl ?_
  have hBS₉ : Bij (aSh (qS α) i) := hCR₉.1.sh i hi₉ hfi₉
  have hBP₉ : Bij (iter (pinv (aSh (qS α) i)) t) := Bij.iter (hBS₉.pinv) t
  refine J.il1 dX7_use_0 ?_
  refine cl_X7_176 rfl (k' := 0) (n' := 0) (c_needShelfOk _ (by omega)) ⟨⟨by decide, by decide⟩, ⟨rfl, rfl⟩, by decide, by decide⟩ rfl dX7_use_1 (fun μ9 h9₉ => ?_)
  rw [h9₉]; clear h9₉
  refine J.il2 dX7_use_4 ?_
  refine J.if_ge (tgt := 13) dX7_use_5 (by decide) (fun c5₉ => absurd c5₉ (n99 (by omega) (by omega))) (fun c5₉ => ?_)
  refine J.il2 dX7_use_8 ?_
  refine J.ineg dX7_use_9 rfl ?_
  rw [Int32.neg_neg]
  refine J.goto (tgt := 14) dX7_use_10 (by decide) ?_
  refine J.is3 dX7_use_14 (by decide) rfl ?_
  refine J.il3 dX7_use_15 ?_
  refine J.iconst dX7_use_16 kI_1 ?_
  refine J.bipush dX7_use_17 kb_99 ?_
  refine cl_X7_68 rfl (k' := 0) (n' := 0) (c_needFromToOk _ (by omega) (by omega) (by decide)) ⟨⟨by decide, by decide⟩, ⟨rfl, rfl⟩, by decide, by decide⟩ rfl dX7_use_19 (fun μ9 h9₉ => ?_)
  rw [h9₉]; clear h9₉
  refine J.al0 dX7_use_22 ?_
  refine J.il1 dX7_use_23 ?_
  refine cl_X7_179 rfl (by decide) (k' := 0) (n' := 0) (c_needFilledOk _ (by omega) hCR₉.1 hfi₉) ⟨⟨by decide, by decide⟩, ⟨rfl, rfl⟩, by decide, by decide⟩ rfl dX7_use_24 (fun μ9 h9₉ => ?_)
  rw [h9₉]; clear h9₉
  refine J.al0 dX7_use_27 ?_
  refine gf_X7_19 rfl (o2 := 20) (by decide) rfl dX7_use_28 ?_
  refine J.al0 dX7_use_31 ?_
  refine gf_X7_10 rfl (o2 := 1) (by decide) rfl dX7_use_32 ?_
  refine cl_X7_72 rfl (by decide) (k' := 0) (n' := 0) (c_hold _ hCR₉.2.1 hCR₉.1) ⟨⟨by decide, by decide⟩, ⟨rfl, rfl⟩, by decide, by decide⟩ rfl dX7_use_35 (fun μ2 ⟨hP2₉, hO2₉⟩ => ?_)
  have hC2₉ : CS μ2 1 (qS α) := hCR₉.1.off (fun o q1₉ q2₉ => hO2₉ o (by omega))
  refine J.il2 dX7_use_38 ?_
  refine J.if_ge (tgt := 60) dX7_use_39 (by decide) (fun c39₉ => absurd c39₉ (n99 (by omega) (by omega))) (fun c39₉ => ?_)
  refine J.al0 dX7_use_42 ?_
  refine gf_X7_51 rfl (o2 := 235) (by decide) rfl dX7_use_43 ?_
  refine J.al0 dX7_use_46 ?_
  refine gf_X7_10 rfl (o2 := 1) (by decide) rfl dX7_use_47 ?_
  refine J.il1 dX7_use_50 ?_
  have hosi := c_onShelf (g := g) (adr := adr) (μ2) (t := 1) (i := i) (by decide) (by omega)
  refine cl_X7_182 rfl (by decide) (k' := 0) (n' := 0) (hosi) ⟨⟨by decide, by decide⟩, ⟨rfl, rfl⟩, by decide, by decide⟩ rfl dX7_use_51 (fun μ9 h9₉ => ?_)
  rw [h9₉]; clear h9₉
  refine cl_X7_186 rfl (by decide) (k' := 0) (n' := 0) (c_toInverse _ (by decide) (kt_sh hi₉) (by omega) (fl_P hC2₉ hi₉ hfi₉) hBS₉) ⟨⟨by decide, by decide⟩, ⟨rfl, rfl⟩, by decide, by decide⟩ rfl dX7_use_54 (fun μ3 ⟨h3₉, hO3₉⟩ => ?_)
  refine J.goto (tgt := 75) dX7_use_57 (by decide) ?_
  refine J.al0 dX7_use_75 ?_
  refine gf_X7_47 rfl (o2 := 233) (by decide) rfl dX7_use_76 ?_
  refine J.al0 dX7_use_79 ?_
  refine gf_X7_51 rfl (o2 := 235) (by decide) rfl dX7_use_80 ?_
  refine J.il3 dX7_use_83 ?_
  refine cl_X7_193 rfl (by decide) (k' := 0) (n' := 0) (c_toPower _ (by decide) (by decide) (by decide) h3₉ (by omega)) ⟨⟨by decide, by decide⟩, ⟨rfl, rfl⟩, by decide, by decide⟩ rfl dX7_use_84 (fun μ4 ⟨h4₉, hO4₉⟩ => ?_)
  have hC4₉ : CS μ4 1 (qS α) := hC2₉.off (fun o q1₉ q2₉ => by rw [hO4₉ o (by omega), hO3₉ o (by omega)])
  refine J.al0 dX7_use_87 ?_
  refine gf_X7_10 rfl (o2 := 1) (by decide) rfl dX7_use_88 ?_
  refine gf_X7_79 rfl (o2 := 2) (by decide) rfl dX7_use_91 ?_
  refine J.al0 dX7_use_94 ?_
  refine gf_X7_47 rfl (o2 := 233) (by decide) rfl dX7_use_95 ?_
  refine cl_X7_197 rfl (by decide) (k' := 0) (n' := 0) (c_follow _ (by decide) (by decide) hC4₉.1 hC4₉.2.1 h4₉ hC4₉.vs.1 hBP₉ (by decide)) ⟨⟨by decide, by decide⟩, ⟨rfl, rfl⟩, by decide, by decide⟩ rfl dX7_use_98 (fun μ5 ⟨h5₉, h6₉, hO5₉⟩ => ?_)
  have hC5₉ := hC4₉.sDo hBP₉ h5₉ h6₉ hO5₉
  refine J.al0 dX7_use_101 ?_
  refine gf_X7_10 rfl (o2 := 1) (by decide) rfl dX7_use_102 ?_
  refine gf_X7_93 rfl (o2 := 6) (by decide) rfl dX7_use_105 ?_
  refine cl_X7_200 rfl (by decide) (k' := 0) (n' := 0) (c_l_clear _ (by decide)) ⟨⟨by decide, by decide⟩, ⟨rfl, rfl⟩, by decide, by decide⟩ rfl dX7_use_108 (fun μ6 h6x => ?_)
  have hC6₉ : CS μ6 1 (sLen 0 (sDo (iter (pinv (aSh (qS α) i)) t) (qS α))) := by rw [h6x]; exact hC5₉.sLenA (Nat.zero_le _)
  refine J.al0 dX7_use_111 ?_
  refine gf_X7_10 rfl (o2 := 1) (by decide) rfl dX7_use_112 ?_
  refine gf_X7_79 rfl (o2 := 2) (by decide) rfl dX7_use_115 ?_
  refine cl_X7_83 rfl (by decide) (k' := 0) (n' := 0) (c_countHome _ (by decide) hC6₉.1) ⟨⟨by decide, by decide⟩, ⟨rfl, rfl⟩, by decide, by decide⟩ rfl dX7_use_118 (fun μ9 h9₉ => ?_)
  rw [h9₉]; clear h9₉
  refine J.iret rfl (by decide) (by decide) dX7_use_121 ⟨_, rfl, ?_, ?_⟩
  · rfl
  · exact ⟨hCR₉.push hP2₉ hO2₉ hC6₉ (fun o ho₉ => by rw [h6x, wr_o (by omega), hO5₉ o (by omega) (by omega), hO4₉ o (by omega), hO3₉ o (by omega)]), fun o ho₉ => by rw [h6x, wr_o (by omega), hO5₉ o (by omega) (by omega), hO4₉ o (by omega), hO3₉ o (by omega), hO2₉ o (by omega)]⟩

set_option maxRecDepth 100000 in
set_option maxHeartbeats 4000000 in
theorem c_joinX0 {g : GP} {adr : Nat → Nat} (μ : Mem) {α : A7} (hCR₉ : CR μ α) {i : Int32} (hx₉ : ¬ (0 ≤ i ∧ i < nI 5)) {j : Int32} {k : Int32} : CT g yX7_join mX7_join (RM 20 1 6) (WM g adr μ) [.ref (adr 0), .int i, .int j, .int k] (PM g adr (.inr "java/lang/IndexOutOfBoundsException") (fun μ' => CR μ' α ∧ FrC μ' μ)) := by
  refine CT.of (l0 := [some (.ref (adr 0)), some (.int i), some (.int j), some (.int k)]) (by decide +kernel) rfl (Nat.le_of_ble_eq_true rfl) rfl ?_
  refine J.il1 dX7_join_0 ?_
  refine cx_X7_176 rfl (k' := 1) (n' := 6) (c_needShelfX _ hx₉) ⟨⟨by decide, by decide⟩, ⟨rfl, rfl⟩, by decide, by decide⟩ rfl dX7_join_1 (fun μ9 h9₉ => ?_)
  exact JX.out ⟨_, rfl, rfl, (by rw [h9₉]; exact ⟨hCR₉, FrC.rf⟩)⟩ rfl rfl (by decide) (by decide)

set_option maxRecDepth 100000 in
set_option maxHeartbeats 4000000 in
theorem c_joinX1 {g : GP} {adr : Nat → Nat} (μ : Mem) {α : A7} (hCR₉ : CR μ α) {i : Nat} (hi1₉ : i < 5) {j : Int32} (hx₉ : ¬ (0 ≤ j ∧ j < nI 5)) {k : Int32} : CT g yX7_join mX7_join (RM 20 1 6) (WM g adr μ) [.ref (adr 0), .int (nI i), .int j, .int k] (PM g adr (.inr "java/lang/IndexOutOfBoundsException") (fun μ' => CR μ' α ∧ FrC μ' μ)) := by
  refine CT.of (l0 := [some (.ref (adr 0)), some (.int (nI i)), some (.int j), some (.int k)]) (by decide +kernel) rfl (Nat.le_of_ble_eq_true rfl) rfl ?_
  refine J.il1 dX7_join_0 ?_
  refine cl_X7_176 rfl (k' := 0) (n' := 0) (c_needShelfOk _ (by omega)) ⟨⟨by decide, by decide⟩, ⟨rfl, rfl⟩, by decide, by decide⟩ rfl dX7_join_1 (fun μ9 h9₉ => ?_)
  rw [h9₉]; clear h9₉
  refine J.il2 dX7_join_4 ?_
  refine cx_X7_176 rfl (k' := 1) (n' := 6) (c_needShelfX _ hx₉) ⟨⟨by decide, by decide⟩, ⟨rfl, rfl⟩, by decide, by decide⟩ rfl dX7_join_5 (fun μ9 h9₉ => ?_)
  exact JX.out ⟨_, rfl, rfl, (by rw [h9₉]; exact ⟨hCR₉, FrC.rf⟩)⟩ rfl rfl (by decide) (by decide)

set_option maxRecDepth 100000 in
set_option maxHeartbeats 4000000 in
theorem c_joinX2 {g : GP} {adr : Nat → Nat} (μ : Mem) {α : A7} (hCR₉ : CR μ α) {i : Nat} (hi1₉ : i < 5) {j : Nat} (hj1₉ : j < 5) {k : Int32} (hx₉ : ¬ (0 ≤ k ∧ k < nI 5)) : CT g yX7_join mX7_join (RM 20 1 6) (WM g adr μ) [.ref (adr 0), .int (nI i), .int (nI j), .int k] (PM g adr (.inr "java/lang/IndexOutOfBoundsException") (fun μ' => CR μ' α ∧ FrC μ' μ)) := by
  refine CT.of (l0 := [some (.ref (adr 0)), some (.int (nI i)), some (.int (nI j)), some (.int k)]) (by decide +kernel) rfl (Nat.le_of_ble_eq_true rfl) rfl ?_
  refine J.il1 dX7_join_0 ?_
  refine cl_X7_176 rfl (k' := 0) (n' := 0) (c_needShelfOk _ (by omega)) ⟨⟨by decide, by decide⟩, ⟨rfl, rfl⟩, by decide, by decide⟩ rfl dX7_join_1 (fun μ9 h9₉ => ?_)
  rw [h9₉]; clear h9₉
  refine J.il2 dX7_join_4 ?_
  refine cl_X7_176 rfl (k' := 0) (n' := 0) (c_needShelfOk _ (by omega)) ⟨⟨by decide, by decide⟩, ⟨rfl, rfl⟩, by decide, by decide⟩ rfl dX7_join_5 (fun μ9 h9₉ => ?_)
  rw [h9₉]; clear h9₉
  refine J.il3 dX7_join_8 ?_
  refine cx_X7_176 rfl (k' := 1) (n' := 6) (c_needShelfX _ hx₉) ⟨⟨by decide, by decide⟩, ⟨rfl, rfl⟩, by decide, by decide⟩ rfl dX7_join_9 (fun μ9 h9₉ => ?_)
  exact JX.out ⟨_, rfl, rfl, (by rw [h9₉]; exact ⟨hCR₉, FrC.rf⟩)⟩ rfl rfl (by decide) (by decide)

set_option maxRecDepth 100000 in
set_option maxHeartbeats 4000000 in
theorem c_joinX3 {g : GP} {adr : Nat → Nat} (μ : Mem) {α : A7} (hCR₉ : CR μ α) {i : Nat} (hi1₉ : i < 5) {j : Nat} (hj1₉ : j < 5) {k : Nat} (hk1₉ : k < 5) (hx₉ : ¬ aFl (qS α) i = true) : CT g yX7_join mX7_join (RM 20 1 6) (WM g adr μ) [.ref (adr 0), .int (nI i), .int (nI j), .int (nI k)] (PM g adr (.inr "java/lang/UnsupportedOperationException") (fun μ' => CR μ' (aRef 3 i α) ∧ FrC μ' μ)) := by
  refine CT.of (l0 := [some (.ref (adr 0)), some (.int (nI i)), some (.int (nI j)), some (.int (nI k))]) (by decide +kernel) rfl (Nat.le_of_ble_eq_true rfl) rfl ?_
  refine J.il1 dX7_join_0 ?_
  refine cl_X7_176 rfl (k' := 0) (n' := 0) (c_needShelfOk _ (by omega)) ⟨⟨by decide, by decide⟩, ⟨rfl, rfl⟩, by decide, by decide⟩ rfl dX7_join_1 (fun μ9 h9₉ => ?_)
  rw [h9₉]; clear h9₉
  refine J.il2 dX7_join_4 ?_
  refine cl_X7_176 rfl (k' := 0) (n' := 0) (c_needShelfOk _ (by omega)) ⟨⟨by decide, by decide⟩, ⟨rfl, rfl⟩, by decide, by decide⟩ rfl dX7_join_5 (fun μ9 h9₉ => ?_)
  rw [h9₉]; clear h9₉
  refine J.il3 dX7_join_8 ?_
  refine cl_X7_176 rfl (k' := 0) (n' := 0) (c_needShelfOk _ (by omega)) ⟨⟨by decide, by decide⟩, ⟨rfl, rfl⟩, by decide, by decide⟩ rfl dX7_join_9 (fun μ9 h9₉ => ?_)
  rw [h9₉]; clear h9₉
  refine J.al0 dX7_join_12 ?_
  refine J.il1 dX7_join_13 ?_
  refine cx_X7_179 rfl (by decide) (k' := 1) (n' := 6) (c_needFilledX _ (by omega) hCR₉.1 hx₉) ⟨⟨by decide, by decide⟩, ⟨rfl, rfl⟩, by decide, by decide⟩ rfl dX7_join_14 (fun μ9 h9₉ => ?_)
  exact JX.out ⟨_, rfl, rfl, (by rw [h9₉]; exact ⟨hCR₉.ref (by decide), fun o ho₉ => by rw [wr_o (by omega), wr_o (by omega)]⟩)⟩ rfl rfl (by decide) (by decide)

set_option maxRecDepth 100000 in
set_option maxHeartbeats 4000000 in
theorem c_joinX4 {g : GP} {adr : Nat → Nat} (μ : Mem) {α : A7} (hCR₉ : CR μ α) {i : Nat} (hi1₉ : i < 5) {j : Nat} (hj1₉ : j < 5) {k : Nat} (hk1₉ : k < 5) (hfi₉ : aFl (qS α) i = true) (hx₉ : ¬ aFl (qS α) j = true) : CT g yX7_join mX7_join (RM 20 1 6) (WM g adr μ) [.ref (adr 0), .int (nI i), .int (nI j), .int (nI k)] (PM g adr (.inr "java/lang/UnsupportedOperationException") (fun μ' => CR μ' (aRef 3 j α) ∧ FrC μ' μ)) := by
  refine CT.of (l0 := [some (.ref (adr 0)), some (.int (nI i)), some (.int (nI j)), some (.int (nI k))]) (by decide +kernel) rfl (Nat.le_of_ble_eq_true rfl) rfl ?_
  refine J.il1 dX7_join_0 ?_
  refine cl_X7_176 rfl (k' := 0) (n' := 0) (c_needShelfOk _ (by omega)) ⟨⟨by decide, by decide⟩, ⟨rfl, rfl⟩, by decide, by decide⟩ rfl dX7_join_1 (fun μ9 h9₉ => ?_)
  rw [h9₉]; clear h9₉
  refine J.il2 dX7_join_4 ?_
  refine cl_X7_176 rfl (k' := 0) (n' := 0) (c_needShelfOk _ (by omega)) ⟨⟨by decide, by decide⟩, ⟨rfl, rfl⟩, by decide, by decide⟩ rfl dX7_join_5 (fun μ9 h9₉ => ?_)
  rw [h9₉]; clear h9₉
  refine J.il3 dX7_join_8 ?_
  refine cl_X7_176 rfl (k' := 0) (n' := 0) (c_needShelfOk _ (by omega)) ⟨⟨by decide, by decide⟩, ⟨rfl, rfl⟩, by decide, by decide⟩ rfl dX7_join_9 (fun μ9 h9₉ => ?_)
  rw [h9₉]; clear h9₉
  refine J.al0 dX7_join_12 ?_
  refine J.il1 dX7_join_13 ?_
  refine cl_X7_179 rfl (by decide) (k' := 0) (n' := 0) (c_needFilledOk _ (by omega) hCR₉.1 hfi₉) ⟨⟨by decide, by decide⟩, ⟨rfl, rfl⟩, by decide, by decide⟩ rfl dX7_join_14 (fun μ9 h9₉ => ?_)
  rw [h9₉]; clear h9₉
  refine J.al0 dX7_join_17 ?_
  refine J.il2 dX7_join_18 ?_
  refine cx_X7_179 rfl (by decide) (k' := 1) (n' := 6) (c_needFilledX _ (by omega) hCR₉.1 hx₉) ⟨⟨by decide, by decide⟩, ⟨rfl, rfl⟩, by decide, by decide⟩ rfl dX7_join_19 (fun μ9 h9₉ => ?_)
  exact JX.out ⟨_, rfl, rfl, (by rw [h9₉]; exact ⟨hCR₉.ref (by decide), fun o ho₉ => by rw [wr_o (by omega), wr_o (by omega)]⟩)⟩ rfl rfl (by decide) (by decide)

set_option maxRecDepth 100000 in
set_option maxHeartbeats 4000000 in
theorem c_join {g : GP} {adr : Nat → Nat} (μ : Mem) {α : A7} (hCR₉ : CR μ α) {i : Nat} (hi1₉ : i < 5) {j : Nat} (hj1₉ : j < 5) {k : Nat} (hk1₉ : k < 5) (hfi₉ : aFl (qS α) i = true) (hfj₉ : aFl (qS α) j = true)  : CT g yX7_join mX7_join (RM 20 1 6) (WM g adr μ) [.ref (adr 0), .int (nI i), .int (nI j), .int (nI k)] (PM g adr ((.inl (some (.int (nI (cnt (fun k => decide ((fun k => aSh (qS α) j (aSh (qS α) i k)) k ≠ k)) 32)))))) (fun μ' => CR μ' (aPush (sPut k (fun k => aSh (qS α) j (aSh (qS α) i k)) (qS α)) α) ∧ FrC μ' μ)) := by
  refine CT.of (l0 := [some (.ref (adr 0)), some (.int (nI i)), some (.int (nI j)), some (.int (nI k))]) (by decide +kernel) rfl (Nat.le_of_ble_eq_true rfl) rfl ?_
  refine J.il1 dX7_join_0 ?_
  refine cl_X7_176 rfl (k' := 0) (n' := 0) (c_needShelfOk _ (by omega)) ⟨⟨by decide, by decide⟩, ⟨rfl, rfl⟩, by decide, by decide⟩ rfl dX7_join_1 (fun μ9 h9₉ => ?_)
  rw [h9₉]; clear h9₉
  refine J.il2 dX7_join_4 ?_
  refine cl_X7_176 rfl (k' := 0) (n' := 0) (c_needShelfOk _ (by omega)) ⟨⟨by decide, by decide⟩, ⟨rfl, rfl⟩, by decide, by decide⟩ rfl dX7_join_5 (fun μ9 h9₉ => ?_)
  rw [h9₉]; clear h9₉
  refine J.il3 dX7_join_8 ?_
  refine cl_X7_176 rfl (k' := 0) (n' := 0) (c_needShelfOk _ (by omega)) ⟨⟨by decide, by decide⟩, ⟨rfl, rfl⟩, by decide, by decide⟩ rfl dX7_join_9 (fun μ9 h9₉ => ?_)
  rw [h9₉]; clear h9₉
  refine J.al0 dX7_join_12 ?_
  refine J.il1 dX7_join_13 ?_
  refine cl_X7_179 rfl (by decide) (k' := 0) (n' := 0) (c_needFilledOk _ (by omega) hCR₉.1 hfi₉) ⟨⟨by decide, by decide⟩, ⟨rfl, rfl⟩, by decide, by decide⟩ rfl dX7_join_14 (fun μ9 h9₉ => ?_)
  rw [h9₉]; clear h9₉
  refine J.al0 dX7_join_17 ?_
  refine J.il2 dX7_join_18 ?_
  refine cl_X7_179 rfl (by decide) (k' := 0) (n' := 0) (c_needFilledOk _ (by omega) hCR₉.1 hfj₉) ⟨⟨by decide, by decide⟩, ⟨rfl, rfl⟩, by decide, by decide⟩ rfl dX7_join_19 (fun μ9 h9₉ => ?_)
  rw [h9₉]; clear h9₉
  refine J.al0 dX7_join_22 ?_
  refine gf_X7_47 rfl (o2 := 233) (by decide) rfl dX7_join_23 ?_
  refine J.al0 dX7_join_26 ?_
  refine gf_X7_10 rfl (o2 := 1) (by decide) rfl dX7_join_27 ?_
  refine J.il1 dX7_join_30 ?_
  have hosi := c_onShelf (g := g) (adr := adr) (μ) (t := 1) (i := i) (by decide) (by omega)
  refine cl_X7_182 rfl (by decide) (k' := 0) (n' := 0) (hosi) ⟨⟨by decide, by decide⟩, ⟨rfl, rfl⟩, by decide, by decide⟩ rfl dX7_join_31 (fun μ9 h9₉ => ?_)
  rw [h9₉]; clear h9₉
  refine cl_X7_190 rfl (by decide) (k' := 0) (n' := 0) (c_toCopy _ (by decide) (kt_sh hi1₉) (by omega) (fl_P hCR₉.1 hi1₉ hfi₉)) ⟨⟨by decide, by decide⟩, ⟨rfl, rfl⟩, by decide, by decide⟩ rfl dX7_join_34 (fun μ2 ⟨h2₉, hO2₉⟩ => ?_)
  refine J.al0 dX7_join_37 ?_
  refine gf_X7_47 rfl (o2 := 233) (by decide) rfl dX7_join_38 ?_
  refine J.al0 dX7_join_41 ?_
  refine gf_X7_10 rfl (o2 := 1) (by decide) rfl dX7_join_42 ?_
  refine J.il2 dX7_join_45 ?_
  have hosj := c_onShelf (g := g) (adr := adr) (μ2) (t := 1) (i := j) (by decide) (by omega)
  refine cl_X7_182 rfl (by decide) (k' := 0) (n' := 0) (hosj) ⟨⟨by decide, by decide⟩, ⟨rfl, rfl⟩, by decide, by decide⟩ rfl dX7_join_46 (fun μ9 h9₉ => ?_)
  rw [h9₉]; clear h9₉
  refine cl_X7_201 rfl (by decide) (k' := 0) (n' := 0) (c_then _ (by decide) (kt_sh hj1₉) (by omega) h2₉ ((fl_P hCR₉.1 hj1₉ hfj₉).off hO2₉ (by omega))) ⟨⟨by decide, by decide⟩, ⟨rfl, rfl⟩, by decide, by decide⟩ rfl dX7_join_49 (fun μ3 ⟨h3₉, hO3₉⟩ => ?_)
  have hC3₉ : CR μ3 α := hCR₉.off (fun o ho₉ => by rw [hO3₉ o (by omega), hO2₉ o (by omega)])
  refine J.al0 dX7_join_52 ?_
  refine J.il3 dX7_join_53 ?_
  refine cl_X7_204 rfl (by decide) (k' := 0) (n' := 0) (c_putMade _ (by omega) hC3₉ h3₉ ((hCR₉.1.sh i hi1₉ hfi₉).comp (hCR₉.1.sh j hj1₉ hfj₉))) ⟨⟨by decide, by decide⟩, ⟨rfl, rfl⟩, by decide, by decide⟩ rfl dX7_join_54 (fun μ7 ⟨hCf₉, hFf₉⟩ => ?_)
  refine J.iret rfl (by decide) (by decide) dX7_join_57 ⟨_, rfl, ?_, ?_⟩
  · rfl
  · exact ⟨hCf₉, fun o ho₉ => by rw [hFf₉ o ho₉, hO3₉ o (by omega), hO2₉ o (by omega)]⟩

set_option maxRecDepth 100000 in
set_option maxHeartbeats 4000000 in
theorem c_invertX0 {g : GP} {adr : Nat → Nat} (μ : Mem) {α : A7} (hCR₉ : CR μ α) {i : Int32} (hx₉ : ¬ (0 ≤ i ∧ i < nI 5)) {k : Int32} : CT g yX7_invert mX7_invert (RM 20 1 6) (WM g adr μ) [.ref (adr 0), .int i, .int k] (PM g adr (.inr "java/lang/IndexOutOfBoundsException") (fun μ' => CR μ' α ∧ FrC μ' μ)) := by
  refine CT.of (l0 := [some (.ref (adr 0)), some (.int i), some (.int k)]) (by decide +kernel) rfl (Nat.le_of_ble_eq_true rfl) rfl ?_
  refine J.il1 dX7_invert_0 ?_
  refine cx_X7_176 rfl (k' := 1) (n' := 6) (c_needShelfX _ hx₉) ⟨⟨by decide, by decide⟩, ⟨rfl, rfl⟩, by decide, by decide⟩ rfl dX7_invert_1 (fun μ9 h9₉ => ?_)
  exact JX.out ⟨_, rfl, rfl, (by rw [h9₉]; exact ⟨hCR₉, FrC.rf⟩)⟩ rfl rfl (by decide) (by decide)

set_option maxRecDepth 100000 in
set_option maxHeartbeats 4000000 in
theorem c_invertX1 {g : GP} {adr : Nat → Nat} (μ : Mem) {α : A7} (hCR₉ : CR μ α) {i : Nat} (hi1₉ : i < 5) {k : Int32} (hx₉ : ¬ (0 ≤ k ∧ k < nI 5)) : CT g yX7_invert mX7_invert (RM 20 1 6) (WM g adr μ) [.ref (adr 0), .int (nI i), .int k] (PM g adr (.inr "java/lang/IndexOutOfBoundsException") (fun μ' => CR μ' α ∧ FrC μ' μ)) := by
  refine CT.of (l0 := [some (.ref (adr 0)), some (.int (nI i)), some (.int k)]) (by decide +kernel) rfl (Nat.le_of_ble_eq_true rfl) rfl ?_
  refine J.il1 dX7_invert_0 ?_
  refine cl_X7_176 rfl (k' := 0) (n' := 0) (c_needShelfOk _ (by omega)) ⟨⟨by decide, by decide⟩, ⟨rfl, rfl⟩, by decide, by decide⟩ rfl dX7_invert_1 (fun μ9 h9₉ => ?_)
  rw [h9₉]; clear h9₉
  refine J.il2 dX7_invert_4 ?_
  refine cx_X7_176 rfl (k' := 1) (n' := 6) (c_needShelfX _ hx₉) ⟨⟨by decide, by decide⟩, ⟨rfl, rfl⟩, by decide, by decide⟩ rfl dX7_invert_5 (fun μ9 h9₉ => ?_)
  exact JX.out ⟨_, rfl, rfl, (by rw [h9₉]; exact ⟨hCR₉, FrC.rf⟩)⟩ rfl rfl (by decide) (by decide)

set_option maxRecDepth 100000 in
set_option maxHeartbeats 4000000 in
theorem c_invertX2 {g : GP} {adr : Nat → Nat} (μ : Mem) {α : A7} (hCR₉ : CR μ α) {i : Nat} (hi1₉ : i < 5) {k : Nat} (hk1₉ : k < 5) (hx₉ : ¬ aFl (qS α) i = true) : CT g yX7_invert mX7_invert (RM 20 1 6) (WM g adr μ) [.ref (adr 0), .int (nI i), .int (nI k)] (PM g adr (.inr "java/lang/UnsupportedOperationException") (fun μ' => CR μ' (aRef 3 i α) ∧ FrC μ' μ)) := by
  refine CT.of (l0 := [some (.ref (adr 0)), some (.int (nI i)), some (.int (nI k))]) (by decide +kernel) rfl (Nat.le_of_ble_eq_true rfl) rfl ?_
  refine J.il1 dX7_invert_0 ?_
  refine cl_X7_176 rfl (k' := 0) (n' := 0) (c_needShelfOk _ (by omega)) ⟨⟨by decide, by decide⟩, ⟨rfl, rfl⟩, by decide, by decide⟩ rfl dX7_invert_1 (fun μ9 h9₉ => ?_)
  rw [h9₉]; clear h9₉
  refine J.il2 dX7_invert_4 ?_
  refine cl_X7_176 rfl (k' := 0) (n' := 0) (c_needShelfOk _ (by omega)) ⟨⟨by decide, by decide⟩, ⟨rfl, rfl⟩, by decide, by decide⟩ rfl dX7_invert_5 (fun μ9 h9₉ => ?_)
  rw [h9₉]; clear h9₉
  refine J.al0 dX7_invert_8 ?_
  refine J.il1 dX7_invert_9 ?_
  refine cx_X7_179 rfl (by decide) (k' := 1) (n' := 6) (c_needFilledX _ (by omega) hCR₉.1 hx₉) ⟨⟨by decide, by decide⟩, ⟨rfl, rfl⟩, by decide, by decide⟩ rfl dX7_invert_10 (fun μ9 h9₉ => ?_)
  exact JX.out ⟨_, rfl, rfl, (by rw [h9₉]; exact ⟨hCR₉.ref (by decide), fun o ho₉ => by rw [wr_o (by omega), wr_o (by omega)]⟩)⟩ rfl rfl (by decide) (by decide)

set_option maxRecDepth 100000 in
set_option maxHeartbeats 4000000 in
theorem c_invert {g : GP} {adr : Nat → Nat} (μ : Mem) {α : A7} (hCR₉ : CR μ α) {i : Nat} (hi1₉ : i < 5) {k : Nat} (hk1₉ : k < 5) (hfi₉ : aFl (qS α) i = true)  : CT g yX7_invert mX7_invert (RM 20 1 6) (WM g adr μ) [.ref (adr 0), .int (nI i), .int (nI k)] (PM g adr ((.inl (some (.int (nI (cnt (fun k => decide ((pinv (aSh (qS α) i)) k ≠ k)) 32)))))) (fun μ' => CR μ' (aPush (sPut k (pinv (aSh (qS α) i)) (qS α)) α) ∧ FrC μ' μ)) := by
  refine CT.of (l0 := [some (.ref (adr 0)), some (.int (nI i)), some (.int (nI k))]) (by decide +kernel) rfl (Nat.le_of_ble_eq_true rfl) rfl ?_
  refine J.il1 dX7_invert_0 ?_
  refine cl_X7_176 rfl (k' := 0) (n' := 0) (c_needShelfOk _ (by omega)) ⟨⟨by decide, by decide⟩, ⟨rfl, rfl⟩, by decide, by decide⟩ rfl dX7_invert_1 (fun μ9 h9₉ => ?_)
  rw [h9₉]; clear h9₉
  refine J.il2 dX7_invert_4 ?_
  refine cl_X7_176 rfl (k' := 0) (n' := 0) (c_needShelfOk _ (by omega)) ⟨⟨by decide, by decide⟩, ⟨rfl, rfl⟩, by decide, by decide⟩ rfl dX7_invert_5 (fun μ9 h9₉ => ?_)
  rw [h9₉]; clear h9₉
  refine J.al0 dX7_invert_8 ?_
  refine J.il1 dX7_invert_9 ?_
  refine cl_X7_179 rfl (by decide) (k' := 0) (n' := 0) (c_needFilledOk _ (by omega) hCR₉.1 hfi₉) ⟨⟨by decide, by decide⟩, ⟨rfl, rfl⟩, by decide, by decide⟩ rfl dX7_invert_10 (fun μ9 h9₉ => ?_)
  rw [h9₉]; clear h9₉
  refine J.al0 dX7_invert_13 ?_
  refine gf_X7_47 rfl (o2 := 233) (by decide) rfl dX7_invert_14 ?_
  refine J.al0 dX7_invert_17 ?_
  refine gf_X7_10 rfl (o2 := 1) (by decide) rfl dX7_invert_18 ?_
  refine J.il1 dX7_invert_21 ?_
  have hosi := c_onShelf (g := g) (adr := adr) (μ) (t := 1) (i := i) (by decide) (by omega)
  refine cl_X7_182 rfl (by decide) (k' := 0) (n' := 0) (hosi) ⟨⟨by decide, by decide⟩, ⟨rfl, rfl⟩, by decide, by decide⟩ rfl dX7_invert_22 (fun μ9 h9₉ => ?_)
  rw [h9₉]; clear h9₉
  refine cl_X7_186 rfl (by decide) (k' := 0) (n' := 0) (c_toInverse _ (by decide) (kt_sh hi1₉) (by omega) (fl_P hCR₉.1 hi1₉ hfi₉) (hCR₉.1.sh i hi1₉ hfi₉)) ⟨⟨by decide, by decide⟩, ⟨rfl, rfl⟩, by decide, by decide⟩ rfl dX7_invert_25 (fun μ2 ⟨h2₉, hO2₉⟩ => ?_)
  have hC3₉ : CR μ2 α := hCR₉.off (fun o ho₉ => by rw [hO2₉ o (by omega)])
  refine J.al0 dX7_invert_28 ?_
  refine J.il2 dX7_invert_29 ?_
  refine cl_X7_204 rfl (by decide) (k' := 0) (n' := 0) (c_putMade _ (by omega) hC3₉ h2₉ (hCR₉.1.sh i hi1₉ hfi₉).pinv) ⟨⟨by decide, by decide⟩, ⟨rfl, rfl⟩, by decide, by decide⟩ rfl dX7_invert_30 (fun μ7 ⟨hCf₉, hFf₉⟩ => ?_)
  refine J.iret rfl (by decide) (by decide) dX7_invert_33 ⟨_, rfl, ?_, ?_⟩
  · rfl
  · exact ⟨hCf₉, fun o ho₉ => by rw [hFf₉ o ho₉, hO2₉ o (by omega)]⟩
