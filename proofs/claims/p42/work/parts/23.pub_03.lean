/-! ===== printed: the class: moves, slots and colours ===== -/
set_option maxRecDepth 100000 in
set_option maxHeartbeats 4000000 in
theorem c_colourX0 {g : GP} {adr : Nat → Nat} (μ : Mem) {α : A7} (hCR₉ : CR μ α) {i : Int32} (hx₉ : ¬ (0 ≤ i ∧ i < nI 32)) : CT g yX7_colour mX7_colour (RM 20 1 6) (WM g adr μ) [.ref (adr 0), .int i] (PM g adr (.inr "java/lang/IndexOutOfBoundsException") (fun μ' => CR μ' α ∧ FrC μ' μ)) := by
  refine CT.of (l0 := [some (.ref (adr 0)), some (.int i)]) (by decide +kernel) rfl (Nat.le_of_ble_eq_true rfl) rfl ?_
  refine J.il1 dX7_colour_0 ?_
  refine cx_X7_120 rfl (k' := 1) (n' := 6) (c_needSlotX _ hx₉) ⟨⟨by decide, by decide⟩, ⟨rfl, rfl⟩, by decide, by decide⟩ rfl dX7_colour_1 (fun μ9 h9₉ => ?_)
  exact JX.out ⟨_, rfl, rfl, (by rw [h9₉]; exact ⟨hCR₉, FrC.rf⟩)⟩ rfl rfl (by decide) (by decide)

set_option maxRecDepth 100000 in
set_option maxHeartbeats 4000000 in
theorem c_colour {g : GP} {adr : Nat → Nat} (μ : Mem) {α : A7} (hCR₉ : CR μ α) {i : Nat} (hi1₉ : i < 32)  : CT g yX7_colour mX7_colour (RM 20 1 6) (WM g adr μ) [.ref (adr 0), .int (nI i)] (PM g adr ((.inl (some (.int (nI (aCol (qS α) (aAt (qS α) i))))))) (fun μ' => CR μ' α ∧ FrC μ' μ)) := by
  refine CT.of (l0 := [some (.ref (adr 0)), some (.int (nI i))]) (by decide +kernel) rfl (Nat.le_of_ble_eq_true rfl) rfl ?_
  refine J.il1 dX7_colour_0 ?_
  refine cl_X7_120 rfl (k' := 0) (n' := 0) (c_needSlotOk _ (by omega)) ⟨⟨by decide, by decide⟩, ⟨rfl, rfl⟩, by decide, by decide⟩ rfl dX7_colour_1 (fun μ9 h9₉ => ?_)
  rw [h9₉]; clear h9₉
  refine J.al0 dX7_colour_4 ?_
  refine gf_X7_10 rfl (o2 := 1) (by decide) rfl dX7_colour_5 ?_
  refine gf_X7_79 rfl (o2 := 2) (by decide) rfl dX7_colour_8 ?_
  refine J.il1 dX7_colour_11 ?_
  refine cl_X7_135 rfl (by decide) (k' := 0) (n' := 0) (c_colourIn _ (by decide) hCR₉.1.1 hCR₉.1.2.2.1 (by omega)) ⟨⟨by decide, by decide⟩, ⟨rfl, rfl⟩, by decide, by decide⟩ rfl dX7_colour_12 (fun μ9 h9₉ => ?_)
  rw [h9₉]; clear h9₉
  refine J.iret rfl (by decide) (by decide) dX7_colour_15 ⟨_, rfl, ?_, ?_⟩
  · rfl
  · exact ⟨hCR₉, FrC.rf⟩

set_option maxRecDepth 100000 in
set_option maxHeartbeats 4000000 in
theorem c_isDoneX0 {g : GP} {adr : Nat → Nat} (μ : Mem) {α : A7} (hCR₉ : CR μ α) {i : Int32} (hx₉ : ¬ (0 ≤ i ∧ i < nI 4)) : CT g yX7_isDone mX7_isDone (RM 20 1 6) (WM g adr μ) [.ref (adr 0), .int i] (PM g adr (.inr "java/lang/IndexOutOfBoundsException") (fun μ' => CR μ' α ∧ FrC μ' μ)) := by
  refine CT.of (l0 := [some (.ref (adr 0)), some (.int i)]) (by decide +kernel) rfl (Nat.le_of_ble_eq_true rfl) rfl ?_
  refine J.il1 dX7_isDone_0 ?_
  refine cx_X7_64 rfl (k' := 1) (n' := 6) (c_needRingX _ hx₉) ⟨⟨by decide, by decide⟩, ⟨rfl, rfl⟩, by decide, by decide⟩ rfl dX7_isDone_1 (fun μ9 h9₉ => ?_)
  exact JX.out ⟨_, rfl, rfl, (by rw [h9₉]; exact ⟨hCR₉, FrC.rf⟩)⟩ rfl rfl (by decide) (by decide)

set_option maxRecDepth 100000 in
set_option maxHeartbeats 4000000 in
theorem c_isDone {g : GP} {adr : Nat → Nat} (μ : Mem) {α : A7} (hCR₉ : CR μ α) {i : Nat} (hi1₉ : i < 4)  : CT g yX7_isDone mX7_isDone (RM 20 1 6) (WM g adr μ) [.ref (adr 0), .int (nI i)] (PM g adr ((.inl (some (.int (if oneB (fun s => aCol (qS α) (aAt (qS α) s)) i = true then nI 1 else nI 0))))) (fun μ' => CR μ' α ∧ FrC μ' μ)) := by
  refine CT.of (l0 := [some (.ref (adr 0)), some (.int (nI i))]) (by decide +kernel) rfl (Nat.le_of_ble_eq_true rfl) rfl ?_
  refine J.il1 dX7_isDone_0 ?_
  refine cl_X7_64 rfl (k' := 0) (n' := 0) (c_needRingOk _ (by omega)) ⟨⟨by decide, by decide⟩, ⟨rfl, rfl⟩, by decide, by decide⟩ rfl dX7_isDone_1 (fun μ9 h9₉ => ?_)
  rw [h9₉]; clear h9₉
  refine J.al0 dX7_isDone_4 ?_
  refine gf_X7_10 rfl (o2 := 1) (by decide) rfl dX7_isDone_5 ?_
  refine gf_X7_79 rfl (o2 := 2) (by decide) rfl dX7_isDone_8 ?_
  refine J.il1 dX7_isDone_11 ?_
  refine cl_X7_138 rfl (by decide) (k' := 0) (n' := 0) (c_hasOneColour _ (by decide) hCR₉.1.1 hCR₉.1.2.2.1 (by omega)) ⟨⟨by decide, by decide⟩, ⟨rfl, rfl⟩, by decide, by decide⟩ rfl dX7_isDone_12 (fun μ9 h9₉ => ?_)
  rw [h9₉]; clear h9₉
  refine J.zret (ty := .boolean) rfl (by split <;> rfl) (by decide) (by decide) dX7_isDone_15 ⟨_, rfl, ?_, ?_⟩
  · rfl
  · exact ⟨hCR₉, FrC.rf⟩

set_option maxRecDepth 100000 in
set_option maxHeartbeats 4000000 in
theorem c_seams {g : GP} {adr : Nat → Nat} (μ : Mem) {α : A7} (hCR₉ : CR μ α)  : CT g yX7_seams mX7_seams (RM 20 1 6) (WM g adr μ) [.ref (adr 0)] (PM g adr ((.inl (some (.int (nI (sumU (seam1 (fun s => aCol (qS α) (aAt (qS α) s))) 32)))))) (fun μ' => CR μ' α ∧ FrC μ' μ)) := by
  refine CT.of (l0 := [some (.ref (adr 0))]) (by decide +kernel) rfl (Nat.le_of_ble_eq_true rfl) rfl ?_
  refine J.al0 dX7_seams_0 ?_
  refine gf_X7_10 rfl (o2 := 1) (by decide) rfl dX7_seams_1 ?_
  refine gf_X7_79 rfl (o2 := 2) (by decide) rfl dX7_seams_4 ?_
  refine cl_X7_142 rfl (by decide) (k' := 0) (n' := 0) (c_countSeams _ (by decide) hCR₉.1.1 hCR₉.1.2.2.1) ⟨⟨by decide, by decide⟩, ⟨rfl, rfl⟩, by decide, by decide⟩ rfl dX7_seams_7 (fun μ9 h9₉ => ?_)
  rw [h9₉]; clear h9₉
  refine J.iret rfl (by decide) (by decide) dX7_seams_10 ⟨_, rfl, ?_, ?_⟩
  · rfl
  · exact ⟨hCR₉, FrC.rf⟩

set_option maxRecDepth 100000 in
set_option maxHeartbeats 4000000 in
theorem c_fewestX0 {g : GP} {adr : Nat → Nat} (μ : Mem) {α : A7} (hCR₉ : CR μ α) {i : Int32} (hx₉ : ¬ (0 ≤ i ∧ i < nI 32)) {j : Int32} : CT g yX7_fewest mX7_fewest (RM 20 1 6) (WM g adr μ) [.ref (adr 0), .int i, .int j] (PM g adr (.inr "java/lang/IndexOutOfBoundsException") (fun μ' => CR μ' α ∧ FrC μ' μ)) := by
  refine CT.of (l0 := [some (.ref (adr 0)), some (.int i), some (.int j)]) (by decide +kernel) rfl (Nat.le_of_ble_eq_true rfl) rfl ?_
  refine J.il1 dX7_fewest_0 ?_
  refine cx_X7_120 rfl (k' := 1) (n' := 6) (c_needSlotX _ hx₉) ⟨⟨by decide, by decide⟩, ⟨rfl, rfl⟩, by decide, by decide⟩ rfl dX7_fewest_1 (fun μ9 h9₉ => ?_)
  exact JX.out ⟨_, rfl, rfl, (by rw [h9₉]; exact ⟨hCR₉, FrC.rf⟩)⟩ rfl rfl (by decide) (by decide)

set_option maxRecDepth 100000 in
set_option maxHeartbeats 4000000 in
theorem c_fewestX1 {g : GP} {adr : Nat → Nat} (μ : Mem) {α : A7} (hCR₉ : CR μ α) {i : Nat} (hi1₉ : i < 32) {j : Int32} (hx₉ : ¬ (0 ≤ j ∧ j < nI 32)) : CT g yX7_fewest mX7_fewest (RM 20 1 6) (WM g adr μ) [.ref (adr 0), .int (nI i), .int j] (PM g adr (.inr "java/lang/IndexOutOfBoundsException") (fun μ' => CR μ' α ∧ FrC μ' μ)) := by
  refine CT.of (l0 := [some (.ref (adr 0)), some (.int (nI i)), some (.int j)]) (by decide +kernel) rfl (Nat.le_of_ble_eq_true rfl) rfl ?_
  refine J.il1 dX7_fewest_0 ?_
  refine cl_X7_120 rfl (k' := 0) (n' := 0) (c_needSlotOk _ (by omega)) ⟨⟨by decide, by decide⟩, ⟨rfl, rfl⟩, by decide, by decide⟩ rfl dX7_fewest_1 (fun μ9 h9₉ => ?_)
  rw [h9₉]; clear h9₉
  refine J.il2 dX7_fewest_4 ?_
  refine cx_X7_120 rfl (k' := 1) (n' := 6) (c_needSlotX _ hx₉) ⟨⟨by decide, by decide⟩, ⟨rfl, rfl⟩, by decide, by decide⟩ rfl dX7_fewest_5 (fun μ9 h9₉ => ?_)
  exact JX.out ⟨_, rfl, rfl, (by rw [h9₉]; exact ⟨hCR₉, FrC.rf⟩)⟩ rfl rfl (by decide) (by decide)

set_option maxRecDepth 100000 in
set_option maxHeartbeats 4000000 in
theorem c_fewest {g : GP} {adr : Nat → Nat} (μ : Mem) {α : A7} (hCR₉ : CR μ α) {i : Nat} (hi1₉ : i < 32) {j : Nat} (hj1₉ : j < 32)  : CT g yX7_fewest mX7_fewest (RM 20 1 6) (WM g adr μ) [.ref (adr 0), .int (nI i), .int (nI j)] (PM g adr ((.inl (some (.int (nI (apart i j)))))) (fun μ' => CR μ' α ∧ FrC μ' μ)) := by
  refine CT.of (l0 := [some (.ref (adr 0)), some (.int (nI i)), some (.int (nI j))]) (by decide +kernel) rfl (Nat.le_of_ble_eq_true rfl) rfl ?_
  refine J.il1 dX7_fewest_0 ?_
  refine cl_X7_120 rfl (k' := 0) (n' := 0) (c_needSlotOk _ (by omega)) ⟨⟨by decide, by decide⟩, ⟨rfl, rfl⟩, by decide, by decide⟩ rfl dX7_fewest_1 (fun μ9 h9₉ => ?_)
  rw [h9₉]; clear h9₉
  refine J.il2 dX7_fewest_4 ?_
  refine cl_X7_120 rfl (k' := 0) (n' := 0) (c_needSlotOk _ (by omega)) ⟨⟨by decide, by decide⟩, ⟨rfl, rfl⟩, by decide, by decide⟩ rfl dX7_fewest_5 (fun μ9 h9₉ => ?_)
  rw [h9₉]; clear h9₉
  refine J.il1 dX7_fewest_8 ?_
  refine J.il2 dX7_fewest_9 ?_
  refine cl_X7_145 rfl (k' := 0) (n' := 0) (c_movesBetween _ (by omega) (by omega)) ⟨⟨by decide, by decide⟩, ⟨rfl, rfl⟩, by decide, by decide⟩ rfl dX7_fewest_10 (fun μ9 h9₉ => ?_)
  rw [h9₉]; clear h9₉
  refine J.iret rfl (by decide) (by decide) dX7_fewest_13 ⟨_, rfl, ?_, ?_⟩
  · rfl
  · exact ⟨hCR₉, FrC.rf⟩

set_option maxRecDepth 100000 in
set_option maxHeartbeats 4000000 in
theorem c_paintX0 {g : GP} {adr : Nat → Nat} (μ : Mem) {α : A7} (hCR₉ : CR μ α) {i : Int32} (hx₉ : ¬ (0 ≤ i ∧ i < nI 32)) {j : Int32} : CT g yX7_paint mX7_paint (RM 20 1 6) (WM g adr μ) [.ref (adr 0), .int i, .int j] (PM g adr (.inr "java/lang/IndexOutOfBoundsException") (fun μ' => CR μ' α ∧ FrC μ' μ)) := by
  refine CT.of (l0 := [some (.ref (adr 0)), some (.int i), some (.int j), none]) (by decide +kernel) rfl (Nat.le_of_ble_eq_true rfl) rfl ?_
  refine J.il1 dX7_paint_0 ?_
  refine cx_X7_120 rfl (k' := 1) (n' := 6) (c_needSlotX _ hx₉) ⟨⟨by decide, by decide⟩, ⟨rfl, rfl⟩, by decide, by decide⟩ rfl dX7_paint_1 (fun μ9 h9₉ => ?_)
  exact JX.out ⟨_, rfl, rfl, (by rw [h9₉]; exact ⟨hCR₉, FrC.rf⟩)⟩ rfl rfl (by decide) (by decide)

set_option maxRecDepth 100000 in
set_option maxHeartbeats 4000000 in
theorem c_paintX1 {g : GP} {adr : Nat → Nat} (μ : Mem) {α : A7} (hCR₉ : CR μ α) {i : Nat} (hi1₉ : i < 32) {j : Int32} (hx₉ : j < nI 0 ∨ nI 5 < j) : CT g yX7_paint mX7_paint (RM 20 1 6) (WM g adr μ) [.ref (adr 0), .int (nI i), .int j] (PM g adr (.inr "java/lang/IllegalArgumentException") (fun μ' => CR μ' α ∧ FrC μ' μ)) := by
  refine CT.of (l0 := [some (.ref (adr 0)), some (.int (nI i)), some (.int j), none]) (by decide +kernel) rfl (Nat.le_of_ble_eq_true rfl) rfl ?_
  refine J.il1 dX7_paint_0 ?_
  refine cl_X7_120 rfl (k' := 0) (n' := 0) (c_needSlotOk _ (by omega)) ⟨⟨by decide, by decide⟩, ⟨rfl, rfl⟩, by decide, by decide⟩ rfl dX7_paint_1 (fun μ9 h9₉ => ?_)
  rw [h9₉]; clear h9₉
  refine J.il2 dX7_paint_4 ?_
  refine J.iconst dX7_paint_5 kI_0 ?_
  refine J.iconst dX7_paint_6 kI_5 ?_
  refine cx_X7_68 rfl (k' := 1) (n' := 6) (c_needFromToX _ hx₉) ⟨⟨by decide, by decide⟩, ⟨rfl, rfl⟩, by decide, by decide⟩ rfl dX7_paint_7 (fun μ9 h9₉ => ?_)
  exact JX.out ⟨_, rfl, rfl, (by rw [h9₉]; exact ⟨hCR₉, FrC.rf⟩)⟩ rfl rfl (by decide) (by decide)
