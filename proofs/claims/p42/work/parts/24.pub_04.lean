/-! ===== printed: the class: texts and shelves ===== -/
set_option maxRecDepth 100000 in
set_option maxHeartbeats 4000000 in
theorem c_goesTo {g : GP} {adr : Nat → Nat} (μ : Mem) {α : A7} (hCR₉ : CR μ α) {i : Nat} (hi1₉ : i < 5) {j : Nat} (hj1₉ : j < 32) (hfi₉ : aFl (qS α) i = true)  : CT g yX7_goesTo mX7_goesTo (RM 20 1 6) (WM g adr μ) [.ref (adr 0), .int (nI i), .int (nI j)] (PM g adr ((.inl (some (.int (nI (aSh (qS α) i j)))))) (fun μ' => CR μ' α ∧ FrC μ' μ)) := by
  refine CT.of (l0 := [some (.ref (adr 0)), some (.int (nI i)), some (.int (nI j))]) (by decide +kernel) rfl (Nat.le_of_ble_eq_true rfl) rfl ?_
  refine J.il1 dX7_goesTo_0 ?_
  refine cl_X7_176 rfl (k' := 0) (n' := 0) (c_needShelfOk _ (by omega)) ⟨⟨by decide, by decide⟩, ⟨rfl, rfl⟩, by decide, by decide⟩ rfl dX7_goesTo_1 (fun μ9 h9₉ => ?_)
  rw [h9₉]; clear h9₉
  refine J.il2 dX7_goesTo_4 ?_
  refine cl_X7_120 rfl (k' := 0) (n' := 0) (c_needSlotOk _ (by omega)) ⟨⟨by decide, by decide⟩, ⟨rfl, rfl⟩, by decide, by decide⟩ rfl dX7_goesTo_5 (fun μ9 h9₉ => ?_)
  rw [h9₉]; clear h9₉
  refine J.al0 dX7_goesTo_8 ?_
  refine J.il1 dX7_goesTo_9 ?_
  refine cl_X7_217 rfl (by decide) (k' := 0) (n' := 0) (c_needLearntOk _ (by omega) hCR₉.1 hfi₉) ⟨⟨by decide, by decide⟩, ⟨rfl, rfl⟩, by decide, by decide⟩ rfl dX7_goesTo_10 (fun μ9 h9₉ => ?_)
  rw [h9₉]; clear h9₉
  refine J.al0 dX7_goesTo_13 ?_
  refine gf_X7_10 rfl (o2 := 1) (by decide) rfl dX7_goesTo_14 ?_
  refine J.il1 dX7_goesTo_17 ?_
  have hosi := c_onShelf (g := g) (adr := adr) (μ) (t := 1) (i := i) (by decide) (by omega)
  refine cl_X7_182 rfl (by decide) (k' := 0) (n' := 0) (hosi) ⟨⟨by decide, by decide⟩, ⟨rfl, rfl⟩, by decide, by decide⟩ rfl dX7_goesTo_18 (fun μ9 h9₉ => ?_)
  rw [h9₉]; clear h9₉
  refine J.il2 dX7_goesTo_21 ?_
  refine cl_X7_220 rfl ((kt_st (b := 1) (by decide)).2.2.2.2 i (by omega)) (k' := 0) (n' := 0) (c_of _ (kt_sh hi1₉) (fl_P hCR₉.1 hi1₉ hfi₉) (by omega)) ⟨⟨by decide, by decide⟩, ⟨rfl, rfl⟩, by decide, by decide⟩ rfl dX7_goesTo_22 (fun μ9 h9₉ => ?_)
  rw [h9₉]; clear h9₉
  refine J.iret rfl (by decide) (by decide) dX7_goesTo_25 ⟨_, rfl, ?_, ?_⟩
  · rfl
  · exact ⟨hCR₉, FrC.rf⟩

set_option maxRecDepth 100000 in
set_option maxHeartbeats 4000000 in
theorem c_cycleX0 {g : GP} {adr : Nat → Nat} (μ : Mem) {α : A7} (hCR₉ : CR μ α) {i : Int32} (hx₉ : ¬ (0 ≤ i ∧ i < nI 5)) {j : Int32} : CT g yX7_cycle mX7_cycle (RM 20 1 6) (WM g adr μ) [.ref (adr 0), .int i, .int j] (PM g adr (.inr "java/lang/IndexOutOfBoundsException") (fun μ' => CR μ' α ∧ FrC μ' μ)) := by
  refine CT.of (l0 := [some (.ref (adr 0)), some (.int i), some (.int j)]) (by decide +kernel) rfl (Nat.le_of_ble_eq_true rfl) rfl ?_
  refine J.il1 dX7_cycle_0 ?_
  refine cx_X7_176 rfl (k' := 1) (n' := 6) (c_needShelfX _ hx₉) ⟨⟨by decide, by decide⟩, ⟨rfl, rfl⟩, by decide, by decide⟩ rfl dX7_cycle_1 (fun μ9 h9₉ => ?_)
  exact JX.out ⟨_, rfl, rfl, (by rw [h9₉]; exact ⟨hCR₉, FrC.rf⟩)⟩ rfl rfl (by decide) (by decide)

set_option maxRecDepth 100000 in
set_option maxHeartbeats 4000000 in
theorem c_cycleX1 {g : GP} {adr : Nat → Nat} (μ : Mem) {α : A7} (hCR₉ : CR μ α) {i : Nat} (hi1₉ : i < 5) {j : Int32} (hx₉ : ¬ (0 ≤ j ∧ j < nI 32)) : CT g yX7_cycle mX7_cycle (RM 20 1 6) (WM g adr μ) [.ref (adr 0), .int (nI i), .int j] (PM g adr (.inr "java/lang/IndexOutOfBoundsException") (fun μ' => CR μ' α ∧ FrC μ' μ)) := by
  refine CT.of (l0 := [some (.ref (adr 0)), some (.int (nI i)), some (.int j)]) (by decide +kernel) rfl (Nat.le_of_ble_eq_true rfl) rfl ?_
  refine J.il1 dX7_cycle_0 ?_
  refine cl_X7_176 rfl (k' := 0) (n' := 0) (c_needShelfOk _ (by omega)) ⟨⟨by decide, by decide⟩, ⟨rfl, rfl⟩, by decide, by decide⟩ rfl dX7_cycle_1 (fun μ9 h9₉ => ?_)
  rw [h9₉]; clear h9₉
  refine J.il2 dX7_cycle_4 ?_
  refine cx_X7_120 rfl (k' := 1) (n' := 6) (c_needSlotX _ hx₉) ⟨⟨by decide, by decide⟩, ⟨rfl, rfl⟩, by decide, by decide⟩ rfl dX7_cycle_5 (fun μ9 h9₉ => ?_)
  exact JX.out ⟨_, rfl, rfl, (by rw [h9₉]; exact ⟨hCR₉, FrC.rf⟩)⟩ rfl rfl (by decide) (by decide)

set_option maxRecDepth 100000 in
set_option maxHeartbeats 4000000 in
theorem c_cycleX2 {g : GP} {adr : Nat → Nat} (μ : Mem) {α : A7} (hCR₉ : CR μ α) {i : Nat} (hi1₉ : i < 5) {j : Nat} (hj1₉ : j < 32) (hx₉ : ¬ aFl (qS α) i = true) : CT g yX7_cycle mX7_cycle (RM 20 1 6) (WM g adr μ) [.ref (adr 0), .int (nI i), .int (nI j)] (PM g adr (.inr "java/util/NoSuchElementException") (fun μ' => CR μ' α ∧ FrC μ' μ)) := by
  refine CT.of (l0 := [some (.ref (adr 0)), some (.int (nI i)), some (.int (nI j))]) (by decide +kernel) rfl (Nat.le_of_ble_eq_true rfl) rfl ?_
  refine J.il1 dX7_cycle_0 ?_
  refine cl_X7_176 rfl (k' := 0) (n' := 0) (c_needShelfOk _ (by omega)) ⟨⟨by decide, by decide⟩, ⟨rfl, rfl⟩, by decide, by decide⟩ rfl dX7_cycle_1 (fun μ9 h9₉ => ?_)
  rw [h9₉]; clear h9₉
  refine J.il2 dX7_cycle_4 ?_
  refine cl_X7_120 rfl (k' := 0) (n' := 0) (c_needSlotOk _ (by omega)) ⟨⟨by decide, by decide⟩, ⟨rfl, rfl⟩, by decide, by decide⟩ rfl dX7_cycle_5 (fun μ9 h9₉ => ?_)
  rw [h9₉]; clear h9₉
  refine J.al0 dX7_cycle_8 ?_
  refine J.il1 dX7_cycle_9 ?_
  refine cx_X7_217 rfl (by decide) (k' := 1) (n' := 6) (c_needLearntX _ (by omega) hCR₉.1 hx₉) ⟨⟨by decide, by decide⟩, ⟨rfl, rfl⟩, by decide, by decide⟩ rfl dX7_cycle_10 (fun μ9 h9₉ => ?_)
  exact JX.out ⟨_, rfl, rfl, (by rw [h9₉]; exact ⟨hCR₉, FrC.rf⟩)⟩ rfl rfl (by decide) (by decide)

set_option maxRecDepth 100000 in
set_option maxHeartbeats 4000000 in
theorem c_cycle {g : GP} {adr : Nat → Nat} (μ : Mem) {α : A7} (hCR₉ : CR μ α) {i : Nat} (hi1₉ : i < 5) {j : Nat} (hj1₉ : j < 32) (hfi₉ : aFl (qS α) i = true)  : CT g yX7_cycle mX7_cycle (RM 20 1 6) (WM g adr μ) [.ref (adr 0), .int (nI i), .int (nI j)] (PM g adr ((.inl (some (.int (nI (cyL (aSh (qS α) i) j)))))) (fun μ' => CR μ' α ∧ FrC μ' μ)) := by
  refine CT.of (l0 := [some (.ref (adr 0)), some (.int (nI i)), some (.int (nI j))]) (by decide +kernel) rfl (Nat.le_of_ble_eq_true rfl) rfl ?_
  refine J.il1 dX7_cycle_0 ?_
  refine cl_X7_176 rfl (k' := 0) (n' := 0) (c_needShelfOk _ (by omega)) ⟨⟨by decide, by decide⟩, ⟨rfl, rfl⟩, by decide, by decide⟩ rfl dX7_cycle_1 (fun μ9 h9₉ => ?_)
  rw [h9₉]; clear h9₉
  refine J.il2 dX7_cycle_4 ?_
  refine cl_X7_120 rfl (k' := 0) (n' := 0) (c_needSlotOk _ (by omega)) ⟨⟨by decide, by decide⟩, ⟨rfl, rfl⟩, by decide, by decide⟩ rfl dX7_cycle_5 (fun μ9 h9₉ => ?_)
  rw [h9₉]; clear h9₉
  refine J.al0 dX7_cycle_8 ?_
  refine J.il1 dX7_cycle_9 ?_
  refine cl_X7_217 rfl (by decide) (k' := 0) (n' := 0) (c_needLearntOk _ (by omega) hCR₉.1 hfi₉) ⟨⟨by decide, by decide⟩, ⟨rfl, rfl⟩, by decide, by decide⟩ rfl dX7_cycle_10 (fun μ9 h9₉ => ?_)
  rw [h9₉]; clear h9₉
  refine J.al0 dX7_cycle_13 ?_
  refine gf_X7_10 rfl (o2 := 1) (by decide) rfl dX7_cycle_14 ?_
  refine J.il1 dX7_cycle_17 ?_
  have hosi := c_onShelf (g := g) (adr := adr) (μ) (t := 1) (i := i) (by decide) (by omega)
  refine cl_X7_182 rfl (by decide) (k' := 0) (n' := 0) (hosi) ⟨⟨by decide, by decide⟩, ⟨rfl, rfl⟩, by decide, by decide⟩ rfl dX7_cycle_18 (fun μ9 h9₉ => ?_)
  rw [h9₉]; clear h9₉
  refine J.il2 dX7_cycle_21 ?_
  refine cl_X7_246 rfl ((kt_st (b := 1) (by decide)).2.2.2.2 i (by omega)) (k' := 0) (n' := 0) (c_cycleLength _ (kt_sh hi1₉) (fl_P hCR₉.1 hi1₉ hfi₉) (by omega)) ⟨⟨by decide, by decide⟩, ⟨rfl, rfl⟩, by decide, by decide⟩ rfl dX7_cycle_22 (fun μ9 h9₉ => ?_)
  rw [h9₉]; clear h9₉
  refine J.iret rfl (by decide) (by decide) dX7_cycle_25 ⟨_, rfl, ?_, ?_⟩
  · rfl
  · exact ⟨hCR₉, FrC.rf⟩

set_option maxRecDepth 100000 in
set_option maxHeartbeats 4000000 in
theorem c_orderAgainX0 {g : GP} {adr : Nat → Nat} (μ : Mem) {α : A7} (hCR₉ : CR μ α) {i : Int32} (hx₉ : ¬ (0 ≤ i ∧ i < nI 5)) : CT g yX7_orderAgain mX7_orderAgain (RM 20 1 6) (WM g adr μ) [.ref (adr 0), .int i] (PM g adr (.inr "java/lang/IndexOutOfBoundsException") (fun μ' => CR μ' α ∧ FrC μ' μ)) := by
  refine CT.of (l0 := [some (.ref (adr 0)), some (.int i)]) (by decide +kernel) rfl (Nat.le_of_ble_eq_true rfl) rfl ?_
  refine J.il1 dX7_orderAgain_0 ?_
  refine cx_X7_176 rfl (k' := 1) (n' := 6) (c_needShelfX _ hx₉) ⟨⟨by decide, by decide⟩, ⟨rfl, rfl⟩, by decide, by decide⟩ rfl dX7_orderAgain_1 (fun μ9 h9₉ => ?_)
  exact JX.out ⟨_, rfl, rfl, (by rw [h9₉]; exact ⟨hCR₉, FrC.rf⟩)⟩ rfl rfl (by decide) (by decide)

set_option maxRecDepth 100000 in
set_option maxHeartbeats 4000000 in
theorem c_orderAgainX1 {g : GP} {adr : Nat → Nat} (μ : Mem) {α : A7} (hCR₉ : CR μ α) {i : Nat} (hi1₉ : i < 5) (hx₉ : ¬ aFl (qS α) i = true) : CT g yX7_orderAgain mX7_orderAgain (RM 20 1 6) (WM g adr μ) [.ref (adr 0), .int (nI i)] (PM g adr (.inr "java/util/NoSuchElementException") (fun μ' => CR μ' α ∧ FrC μ' μ)) := by
  refine CT.of (l0 := [some (.ref (adr 0)), some (.int (nI i))]) (by decide +kernel) rfl (Nat.le_of_ble_eq_true rfl) rfl ?_
  refine J.il1 dX7_orderAgain_0 ?_
  refine cl_X7_176 rfl (k' := 0) (n' := 0) (c_needShelfOk _ (by omega)) ⟨⟨by decide, by decide⟩, ⟨rfl, rfl⟩, by decide, by decide⟩ rfl dX7_orderAgain_1 (fun μ9 h9₉ => ?_)
  rw [h9₉]; clear h9₉
  refine J.al0 dX7_orderAgain_4 ?_
  refine J.il1 dX7_orderAgain_5 ?_
  refine cx_X7_217 rfl (by decide) (k' := 1) (n' := 6) (c_needLearntX _ (by omega) hCR₉.1 hx₉) ⟨⟨by decide, by decide⟩, ⟨rfl, rfl⟩, by decide, by decide⟩ rfl dX7_orderAgain_6 (fun μ9 h9₉ => ?_)
  exact JX.out ⟨_, rfl, rfl, (by rw [h9₉]; exact ⟨hCR₉, FrC.rf⟩)⟩ rfl rfl (by decide) (by decide)

set_option maxRecDepth 100000 in
set_option maxHeartbeats 4000000 in
theorem c_orderAgain {g : GP} {adr : Nat → Nat} (μ : Mem) {α : A7} (hCR₉ : CR μ α) {i : Nat} (hi1₉ : i < 5) (hfi₉ : aFl (qS α) i = true)  : CT g yX7_orderAgain mX7_orderAgain (RM 20 1 6) (WM g adr μ) [.ref (adr 0), .int (nI i)] (PM g adr ((.inl (some (.int (nI (ordL (aSh (qS α) i) 32)))))) (fun μ' => CR μ' α ∧ FrC μ' μ)) := by
  refine CT.of (l0 := [some (.ref (adr 0)), some (.int (nI i))]) (by decide +kernel) rfl (Nat.le_of_ble_eq_true rfl) rfl ?_
  refine J.il1 dX7_orderAgain_0 ?_
  refine cl_X7_176 rfl (k' := 0) (n' := 0) (c_needShelfOk _ (by omega)) ⟨⟨by decide, by decide⟩, ⟨rfl, rfl⟩, by decide, by decide⟩ rfl dX7_orderAgain_1 (fun μ9 h9₉ => ?_)
  rw [h9₉]; clear h9₉
  refine J.al0 dX7_orderAgain_4 ?_
  refine J.il1 dX7_orderAgain_5 ?_
  refine cl_X7_217 rfl (by decide) (k' := 0) (n' := 0) (c_needLearntOk _ (by omega) hCR₉.1 hfi₉) ⟨⟨by decide, by decide⟩, ⟨rfl, rfl⟩, by decide, by decide⟩ rfl dX7_orderAgain_6 (fun μ9 h9₉ => ?_)
  rw [h9₉]; clear h9₉
  refine J.al0 dX7_orderAgain_9 ?_
  refine gf_X7_10 rfl (o2 := 1) (by decide) rfl dX7_orderAgain_10 ?_
  refine J.il1 dX7_orderAgain_13 ?_
  have hosi := c_onShelf (g := g) (adr := adr) (μ) (t := 1) (i := i) (by decide) (by omega)
  refine cl_X7_182 rfl (by decide) (k' := 0) (n' := 0) (hosi) ⟨⟨by decide, by decide⟩, ⟨rfl, rfl⟩, by decide, by decide⟩ rfl dX7_orderAgain_14 (fun μ9 h9₉ => ?_)
  rw [h9₉]; clear h9₉
  refine J.al0 dX7_orderAgain_17 ?_
  refine gf_X7_47 rfl (o2 := 233) (by decide) rfl dX7_orderAgain_18 ?_
  refine cl_X7_235 rfl ((kt_st (b := 1) (by decide)).2.2.2.2 i (by omega)) (k' := 0) (n' := 0) (c_orderByDoing _ (kt_sh hi1₉) (by decide) (by omega) (fl_P hCR₉.1 hi1₉ hfi₉) (hCR₉.1.sh i hi1₉ hfi₉)) ⟨⟨by decide, by decide⟩, ⟨rfl, rfl⟩, by decide, by decide⟩ rfl dX7_orderAgain_21 (fun μ2 hO2₉ => ?_)
  refine J.iret rfl (by decide) (by decide) dX7_orderAgain_24 ⟨_, rfl, ?_, ?_⟩
  · rfl
  · exact ⟨hCR₉.off (fun o ho₉ => hO2₉ o (by omega)), fun o ho₉ => hO2₉ o (by omega)⟩

set_option maxRecDepth 100000 in
set_option maxHeartbeats 4000000 in
theorem c_commutesX0 {g : GP} {adr : Nat → Nat} (μ : Mem) {α : A7} (hCR₉ : CR μ α) {i : Int32} (hx₉ : ¬ (0 ≤ i ∧ i < nI 5)) {j : Int32} : CT g yX7_commutes mX7_commutes (RM 20 1 6) (WM g adr μ) [.ref (adr 0), .int i, .int j] (PM g adr (.inr "java/lang/IndexOutOfBoundsException") (fun μ' => CR μ' α ∧ FrC μ' μ)) := by
  refine CT.of (l0 := [some (.ref (adr 0)), some (.int i), some (.int j)]) (by decide +kernel) rfl (Nat.le_of_ble_eq_true rfl) rfl ?_
  refine J.il1 dX7_commutes_0 ?_
  refine cx_X7_176 rfl (k' := 1) (n' := 6) (c_needShelfX _ hx₉) ⟨⟨by decide, by decide⟩, ⟨rfl, rfl⟩, by decide, by decide⟩ rfl dX7_commutes_1 (fun μ9 h9₉ => ?_)
  exact JX.out ⟨_, rfl, rfl, (by rw [h9₉]; exact ⟨hCR₉, FrC.rf⟩)⟩ rfl rfl (by decide) (by decide)

set_option maxRecDepth 100000 in
set_option maxHeartbeats 4000000 in
theorem c_commutesX1 {g : GP} {adr : Nat → Nat} (μ : Mem) {α : A7} (hCR₉ : CR μ α) {i : Nat} (hi1₉ : i < 5) {j : Int32} (hx₉ : ¬ (0 ≤ j ∧ j < nI 5)) : CT g yX7_commutes mX7_commutes (RM 20 1 6) (WM g adr μ) [.ref (adr 0), .int (nI i), .int j] (PM g adr (.inr "java/lang/IndexOutOfBoundsException") (fun μ' => CR μ' α ∧ FrC μ' μ)) := by
  refine CT.of (l0 := [some (.ref (adr 0)), some (.int (nI i)), some (.int j)]) (by decide +kernel) rfl (Nat.le_of_ble_eq_true rfl) rfl ?_
  refine J.il1 dX7_commutes_0 ?_
  refine cl_X7_176 rfl (k' := 0) (n' := 0) (c_needShelfOk _ (by omega)) ⟨⟨by decide, by decide⟩, ⟨rfl, rfl⟩, by decide, by decide⟩ rfl dX7_commutes_1 (fun μ9 h9₉ => ?_)
  rw [h9₉]; clear h9₉
  refine J.il2 dX7_commutes_4 ?_
  refine cx_X7_176 rfl (k' := 1) (n' := 6) (c_needShelfX _ hx₉) ⟨⟨by decide, by decide⟩, ⟨rfl, rfl⟩, by decide, by decide⟩ rfl dX7_commutes_5 (fun μ9 h9₉ => ?_)
  exact JX.out ⟨_, rfl, rfl, (by rw [h9₉]; exact ⟨hCR₉, FrC.rf⟩)⟩ rfl rfl (by decide) (by decide)

set_option maxRecDepth 100000 in
set_option maxHeartbeats 4000000 in
theorem c_commutesX2 {g : GP} {adr : Nat → Nat} (μ : Mem) {α : A7} (hCR₉ : CR μ α) {i : Nat} (hi1₉ : i < 5) {j : Nat} (hj1₉ : j < 5) (hx₉ : ¬ aFl (qS α) i = true) : CT g yX7_commutes mX7_commutes (RM 20 1 6) (WM g adr μ) [.ref (adr 0), .int (nI i), .int (nI j)] (PM g adr (.inr "java/util/NoSuchElementException") (fun μ' => CR μ' α ∧ FrC μ' μ)) := by
  refine CT.of (l0 := [some (.ref (adr 0)), some (.int (nI i)), some (.int (nI j))]) (by decide +kernel) rfl (Nat.le_of_ble_eq_true rfl) rfl ?_
  refine J.il1 dX7_commutes_0 ?_
  refine cl_X7_176 rfl (k' := 0) (n' := 0) (c_needShelfOk _ (by omega)) ⟨⟨by decide, by decide⟩, ⟨rfl, rfl⟩, by decide, by decide⟩ rfl dX7_commutes_1 (fun μ9 h9₉ => ?_)
  rw [h9₉]; clear h9₉
  refine J.il2 dX7_commutes_4 ?_
  refine cl_X7_176 rfl (k' := 0) (n' := 0) (c_needShelfOk _ (by omega)) ⟨⟨by decide, by decide⟩, ⟨rfl, rfl⟩, by decide, by decide⟩ rfl dX7_commutes_5 (fun μ9 h9₉ => ?_)
  rw [h9₉]; clear h9₉
  refine J.al0 dX7_commutes_8 ?_
  refine J.il1 dX7_commutes_9 ?_
  refine cx_X7_217 rfl (by decide) (k' := 1) (n' := 6) (c_needLearntX _ (by omega) hCR₉.1 hx₉) ⟨⟨by decide, by decide⟩, ⟨rfl, rfl⟩, by decide, by decide⟩ rfl dX7_commutes_10 (fun μ9 h9₉ => ?_)
  exact JX.out ⟨_, rfl, rfl, (by rw [h9₉]; exact ⟨hCR₉, FrC.rf⟩)⟩ rfl rfl (by decide) (by decide)

set_option maxRecDepth 100000 in
set_option maxHeartbeats 4000000 in
theorem c_commutesX3 {g : GP} {adr : Nat → Nat} (μ : Mem) {α : A7} (hCR₉ : CR μ α) {i : Nat} (hi1₉ : i < 5) {j : Nat} (hj1₉ : j < 5) (hfi₉ : aFl (qS α) i = true) (hx₉ : ¬ aFl (qS α) j = true) : CT g yX7_commutes mX7_commutes (RM 20 1 6) (WM g adr μ) [.ref (adr 0), .int (nI i), .int (nI j)] (PM g adr (.inr "java/util/NoSuchElementException") (fun μ' => CR μ' α ∧ FrC μ' μ)) := by
  refine CT.of (l0 := [some (.ref (adr 0)), some (.int (nI i)), some (.int (nI j))]) (by decide +kernel) rfl (Nat.le_of_ble_eq_true rfl) rfl ?_
  refine J.il1 dX7_commutes_0 ?_
  refine cl_X7_176 rfl (k' := 0) (n' := 0) (c_needShelfOk _ (by omega)) ⟨⟨by decide, by decide⟩, ⟨rfl, rfl⟩, by decide, by decide⟩ rfl dX7_commutes_1 (fun μ9 h9₉ => ?_)
  rw [h9₉]; clear h9₉
  refine J.il2 dX7_commutes_4 ?_
  refine cl_X7_176 rfl (k' := 0) (n' := 0) (c_needShelfOk _ (by omega)) ⟨⟨by decide, by decide⟩, ⟨rfl, rfl⟩, by decide, by decide⟩ rfl dX7_commutes_5 (fun μ9 h9₉ => ?_)
  rw [h9₉]; clear h9₉
  refine J.al0 dX7_commutes_8 ?_
  refine J.il1 dX7_commutes_9 ?_
  refine cl_X7_217 rfl (by decide) (k' := 0) (n' := 0) (c_needLearntOk _ (by omega) hCR₉.1 hfi₉) ⟨⟨by decide, by decide⟩, ⟨rfl, rfl⟩, by decide, by decide⟩ rfl dX7_commutes_10 (fun μ9 h9₉ => ?_)
  rw [h9₉]; clear h9₉
  refine J.al0 dX7_commutes_13 ?_
  refine J.il2 dX7_commutes_14 ?_
  refine cx_X7_217 rfl (by decide) (k' := 1) (n' := 6) (c_needLearntX _ (by omega) hCR₉.1 hx₉) ⟨⟨by decide, by decide⟩, ⟨rfl, rfl⟩, by decide, by decide⟩ rfl dX7_commutes_15 (fun μ9 h9₉ => ?_)
  exact JX.out ⟨_, rfl, rfl, (by rw [h9₉]; exact ⟨hCR₉, FrC.rf⟩)⟩ rfl rfl (by decide) (by decide)
