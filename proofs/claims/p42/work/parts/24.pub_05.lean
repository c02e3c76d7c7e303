/-! ===== printed: the class: texts and shelves ===== -/
set_option maxRecDepth 100000 in
set_option maxHeartbeats 4000000 in
theorem c_commutes {g : GP} {adr : Nat → Nat} (μ : Mem) {α : A7} (hCR₉ : CR μ α) {i : Nat} (hi1₉ : i < 5) {j : Nat} (hj1₉ : j < 5) (hfi₉ : aFl (qS α) i = true) (hfj₉ : aFl (qS α) j = true)  : CT g yX7_commutes mX7_commutes (RM 20 1 6) (WM g adr μ) [.ref (adr 0), .int (nI i), .int (nI j)] (PM g adr ((.inl (some (.int (if allU (fun k => decide (aSh (qS α) j (aSh (qS α) i k) = aSh (qS α) i (aSh (qS α) j k))) 32 = true then nI 1 else nI 0))))) (fun μ' => CR μ' α ∧ FrC μ' μ)) := by
  refine CT.of (l0 := [some (.ref (adr 0)), some (.int (nI i)), some (.int (nI j))]) (by decide +kernel) rfl (Nat.le_of_ble_eq_true rfl) rfl ?_
  refine J.il1 dX7_commutes_0 ?_
  refine cl_X7_176 rfl (k' := 0) (n' := 0) (c_needShelfOk _ (by omega)) ⟨⟨by decide, by decide⟩, ⟨rfl, rfl⟩, by decide, by decide⟩ rfl dX7_commutes_1 (fun μ9 h9₉ => ?_)
  rw [h9₉]; clear h9₉
  refine J.il2 dX7_commutes_4 ?_
  refine cl_X7_176 rfl (k' := 0) (n' := 0) (c_needShelfOk _ (by omega)) ⟨⟨by decide, by decide⟩, ⟨rfl, rfl⟩, by decide, by decide⟩ rfl dX7_commutes_5 (fun μ9 h9₉ => ?_)
  rw [h9₉]; clear h9₉
  refine J.al0 dX7_commutes_8 ?_
  refine J.il1 dX7_commutes_9 ?_
  refine cl_X7_217 rfl (by decide) (k' := 0) (n' := 0) (c_needLearntOk _ (by omega) hCR₉.1 hfi₉) ⟨⟨by decide, by decide⟩, ⟨rfl, rfl⟩, by decide, by decide⟩ rfl dX7_commutes_10 (fun μ9 h9₉ => ?_)
  rw [h9₉]; clear h9₉
  refine J.al0 dX7_commutes_13 ?_
  refine J.il2 dX7_commutes_14 ?_
  refine cl_X7_217 rfl (by decide) (k' := 0) (n' := 0) (c_needLearntOk _ (by omega) hCR₉.1 hfj₉) ⟨⟨by decide, by decide⟩, ⟨rfl, rfl⟩, by decide, by decide⟩ rfl dX7_commutes_15 (fun μ9 h9₉ => ?_)
  rw [h9₉]; clear h9₉
  refine J.al0 dX7_commutes_18 ?_
  refine gf_X7_10 rfl (o2 := 1) (by decide) rfl dX7_commutes_19 ?_
  refine J.il1 dX7_commutes_22 ?_
  have hosi := c_onShelf (g := g) (adr := adr) (μ) (t := 1) (i := i) (by decide) (by omega)
  refine cl_X7_182 rfl (by decide) (k' := 0) (n' := 0) (hosi) ⟨⟨by decide, by decide⟩, ⟨rfl, rfl⟩, by decide, by decide⟩ rfl dX7_commutes_23 (fun μ9 h9₉ => ?_)
  rw [h9₉]; clear h9₉
  refine J.al0 dX7_commutes_26 ?_
  refine gf_X7_10 rfl (o2 := 1) (by decide) rfl dX7_commutes_27 ?_
  refine J.il2 dX7_commutes_30 ?_
  have hosj := c_onShelf (g := g) (adr := adr) (μ) (t := 1) (i := j) (by decide) (by omega)
  refine cl_X7_182 rfl (by decide) (k' := 0) (n' := 0) (hosj) ⟨⟨by decide, by decide⟩, ⟨rfl, rfl⟩, by decide, by decide⟩ rfl dX7_commutes_31 (fun μ9 h9₉ => ?_)
  rw [h9₉]; clear h9₉
  refine cl_X7_249 rfl ((kt_st (b := 1) (by decide)).2.2.2.2 i (by omega)) (k' := 0) (n' := 0) (c_isInEitherOrder _ (kt_sh hi1₉) (kt_sh hj1₉) (fl_P hCR₉.1 hi1₉ hfi₉) (fl_P hCR₉.1 hj1₉ hfj₉)) ⟨⟨by decide, by decide⟩, ⟨rfl, rfl⟩, by decide, by decide⟩ rfl dX7_commutes_34 (fun μ9 h9₉ => ?_)
  rw [h9₉]; clear h9₉
  refine J.zret (ty := .boolean) rfl (by split <;> rfl) (by decide) (by decide) dX7_commutes_37 ⟨_, rfl, ?_, ?_⟩
  · rfl
  · exact ⟨hCR₉, FrC.rf⟩

set_option maxRecDepth 100000 in
set_option maxHeartbeats 4000000 in
theorem c_isEven1 {g : GP} {adr : Nat → Nat} (μ : Mem) {α : A7} (hCR₉ : CR μ α) {i : Nat} (hi1₉ : i < 5) (hfi₉ : aFl (qS α) i = true)  : CT g yX7_isEven mX7_isEven (RM 20 1 6) (WM g adr μ) [.ref (adr 0), .int (nI i), .int (nI 1)] (PM g adr ((.inl (some (.int (if (invN (aSh (qS α) i) 32) % 2 = 0 then nI 1 else nI 0))))) (fun μ' => CR μ' α ∧ FrC μ' μ)) := by
  refine CT.of (l0 := [some (.ref (adr 0)), some (.int (nI i)), some (.int (nI 1)), none]) (by decide +kernel) rfl (Nat.le_of_ble_eq_true rfl) rfl ?_
  refine J.il1 dX7_isEven_0 ?_
  refine cl_X7_176 rfl (k' := 0) (n' := 0) (c_needShelfOk _ (by omega)) ⟨⟨by decide, by decide⟩, ⟨rfl, rfl⟩, by decide, by decide⟩ rfl dX7_isEven_1 (fun μ9 h9₉ => ?_)
  rw [h9₉]; clear h9₉
  refine J.al0 dX7_isEven_4 ?_
  refine J.il1 dX7_isEven_5 ?_
  refine cl_X7_217 rfl (by decide) (k' := 0) (n' := 0) (c_needLearntOk _ (by omega) hCR₉.1 hfi₉) ⟨⟨by decide, by decide⟩, ⟨rfl, rfl⟩, by decide, by decide⟩ rfl dX7_isEven_6 (fun μ9 h9₉ => ?_)
  rw [h9₉]; clear h9₉
  refine J.al0 dX7_isEven_9 ?_
  refine gf_X7_10 rfl (o2 := 1) (by decide) rfl dX7_isEven_10 ?_
  refine J.il1 dX7_isEven_13 ?_
  have hosi := c_onShelf (g := g) (adr := adr) (μ) (t := 1) (i := i) (by decide) (by omega)
  refine cl_X7_182 rfl (by decide) (k' := 0) (n' := 0) (hosi) ⟨⟨by decide, by decide⟩, ⟨rfl, rfl⟩, by decide, by decide⟩ rfl dX7_isEven_14 (fun μ9 h9₉ => ?_)
  rw [h9₉]; clear h9₉
  refine J.as3 dX7_isEven_17 (by decide) rfl ?_
  refine J.il2 dX7_isEven_18 ?_
  refine J.if_eqN (tgt := 29) dX7_isEven_19 (by decide) (by omega) (fun c19₉ => absurd c19₉ (by first | omega | (simp only [not_true_eq_false, not_false_eq_true]; done) | (simp; done))) (fun c19₉ => ?_)
  refine J.al3 dX7_isEven_22 ?_
  refine cl_X7_239 rfl ((kt_st (b := 1) (by decide)).2.2.2.2 i (by omega)) (k' := 0) (n' := 0) (c_isEvenByPairs _ (kt_sh hi1₉) (fl_P hCR₉.1 hi1₉ hfi₉)) ⟨⟨by decide, by decide⟩, ⟨rfl, rfl⟩, by decide, by decide⟩ rfl dX7_isEven_23 (fun μ9 h9₉ => ?_)
  rw [h9₉]; clear h9₉
  refine J.goto (tgt := 33) dX7_isEven_26 (by decide) ?_
  refine J.zret (ty := .boolean) rfl (by split <;> rfl) (by decide) (by decide) dX7_isEven_33 ⟨_, rfl, ?_, ?_⟩
  · rfl
  · exact ⟨hCR₉, FrC.rf⟩

set_option maxRecDepth 100000 in
set_option maxHeartbeats 4000000 in
theorem c_isEven0 {g : GP} {adr : Nat → Nat} (μ : Mem) {α : A7} (hCR₉ : CR μ α) {i : Nat} (hi1₉ : i < 5) (hfi₉ : aFl (qS α) i = true)  : CT g yX7_isEven mX7_isEven (RM 20 1 6) (WM g adr μ) [.ref (adr 0), .int (nI i), .int (nI 0)] (PM g adr ((.inl (some (.int (if evC (aSh (qS α) i) = true then nI 1 else nI 0))))) (fun μ' => CR μ' α ∧ FrC μ' μ)) := by
  refine CT.of (l0 := [some (.ref (adr 0)), some (.int (nI i)), some (.int (nI 0)), none]) (by decide +kernel) rfl (Nat.le_of_ble_eq_true rfl) rfl ?_
  refine J.il1 dX7_isEven_0 ?_
  refine cl_X7_176 rfl (k' := 0) (n' := 0) (c_needShelfOk _ (by omega)) ⟨⟨by decide, by decide⟩, ⟨rfl, rfl⟩, by decide, by decide⟩ rfl dX7_isEven_1 (fun μ9 h9₉ => ?_)
  rw [h9₉]; clear h9₉
  refine J.al0 dX7_isEven_4 ?_
  refine J.il1 dX7_isEven_5 ?_
  refine cl_X7_217 rfl (by decide) (k' := 0) (n' := 0) (c_needLearntOk _ (by omega) hCR₉.1 hfi₉) ⟨⟨by decide, by decide⟩, ⟨rfl, rfl⟩, by decide, by decide⟩ rfl dX7_isEven_6 (fun μ9 h9₉ => ?_)
  rw [h9₉]; clear h9₉
  refine J.al0 dX7_isEven_9 ?_
  refine gf_X7_10 rfl (o2 := 1) (by decide) rfl dX7_isEven_10 ?_
  refine J.il1 dX7_isEven_13 ?_
  have hosi := c_onShelf (g := g) (adr := adr) (μ) (t := 1) (i := i) (by decide) (by omega)
  refine cl_X7_182 rfl (by decide) (k' := 0) (n' := 0) (hosi) ⟨⟨by decide, by decide⟩, ⟨rfl, rfl⟩, by decide, by decide⟩ rfl dX7_isEven_14 (fun μ9 h9₉ => ?_)
  rw [h9₉]; clear h9₉
  refine J.as3 dX7_isEven_17 (by decide) rfl ?_
  refine J.il2 dX7_isEven_18 ?_
  refine J.if_eqN (tgt := 29) dX7_isEven_19 (by decide) (by omega) (fun c19₉ => ?_) (fun c19₉ => absurd c19₉ (by first | omega | (simp only [not_true_eq_false, not_false_eq_true]; done) | (simp; done)))
  refine J.al3 dX7_isEven_29 ?_
  refine cl_X7_243 rfl ((kt_st (b := 1) (by decide)).2.2.2.2 i (by omega)) (k' := 0) (n' := 0) (c_isEvenByCycles _ (kt_sh hi1₉) (fl_P hCR₉.1 hi1₉ hfi₉)) ⟨⟨by decide, by decide⟩, ⟨rfl, rfl⟩, by decide, by decide⟩ rfl dX7_isEven_30 (fun μ9 h9₉ => ?_)
  rw [h9₉]; clear h9₉
  refine J.zret (ty := .boolean) rfl (by split <;> rfl) (by decide) (by decide) dX7_isEven_33 ⟨_, rfl, ?_, ?_⟩
  · rfl
  · exact ⟨hCR₉, FrC.rf⟩

set_option maxRecDepth 100000 in
set_option maxHeartbeats 4000000 in
theorem c_isEvenX0 {g : GP} {adr : Nat → Nat} (μ : Mem) {α : A7} (hCR₉ : CR μ α) {i : Int32} (hx₉ : ¬ (0 ≤ i ∧ i < nI 5)) {j : Int32} : CT g yX7_isEven mX7_isEven (RM 20 1 6) (WM g adr μ) [.ref (adr 0), .int i, .int j] (PM g adr (.inr "java/lang/IndexOutOfBoundsException") (fun μ' => CR μ' α ∧ FrC μ' μ)) := by
  refine CT.of (l0 := [some (.ref (adr 0)), some (.int i), some (.int j), none]) (by decide +kernel) rfl (Nat.le_of_ble_eq_true rfl) rfl ?_
  refine J.il1 dX7_isEven_0 ?_
  refine cx_X7_176 rfl (k' := 1) (n' := 6) (c_needShelfX _ hx₉) ⟨⟨by decide, by decide⟩, ⟨rfl, rfl⟩, by decide, by decide⟩ rfl dX7_isEven_1 (fun μ9 h9₉ => ?_)
  exact JX.out ⟨_, rfl, rfl, (by rw [h9₉]; exact ⟨hCR₉, FrC.rf⟩)⟩ rfl rfl (by decide) (by decide)

set_option maxRecDepth 100000 in
set_option maxHeartbeats 4000000 in
theorem c_isEvenX1 {g : GP} {adr : Nat → Nat} (μ : Mem) {α : A7} (hCR₉ : CR μ α) {i : Nat} (hi1₉ : i < 5) (hx₉ : ¬ aFl (qS α) i = true) {j : Int32} : CT g yX7_isEven mX7_isEven (RM 20 1 6) (WM g adr μ) [.ref (adr 0), .int (nI i), .int j] (PM g adr (.inr "java/util/NoSuchElementException") (fun μ' => CR μ' α ∧ FrC μ' μ)) := by
  refine CT.of (l0 := [some (.ref (adr 0)), some (.int (nI i)), some (.int j), none]) (by decide +kernel) rfl (Nat.le_of_ble_eq_true rfl) rfl ?_
  refine J.il1 dX7_isEven_0 ?_
  refine cl_X7_176 rfl (k' := 0) (n' := 0) (c_needShelfOk _ (by omega)) ⟨⟨by decide, by decide⟩, ⟨rfl, rfl⟩, by decide, by decide⟩ rfl dX7_isEven_1 (fun μ9 h9₉ => ?_)
  rw [h9₉]; clear h9₉
  refine J.al0 dX7_isEven_4 ?_
  refine J.il1 dX7_isEven_5 ?_
  refine cx_X7_217 rfl (by decide) (k' := 1) (n' := 6) (c_needLearntX _ (by omega) hCR₉.1 hx₉) ⟨⟨by decide, by decide⟩, ⟨rfl, rfl⟩, by decide, by decide⟩ rfl dX7_isEven_6 (fun μ9 h9₉ => ?_)
  exact JX.out ⟨_, rfl, rfl, (by rw [h9₉]; exact ⟨hCR₉, FrC.rf⟩)⟩ rfl rfl (by decide) (by decide)

set_option maxRecDepth 100000 in
set_option maxHeartbeats 4000000 in
theorem c_shelfOfX0 {g : GP} {adr : Nat → Nat} (μ : Mem) {α : A7} (hCR₉ : CR μ α) {i : Int32} (hx₉ : ¬ (0 ≤ i ∧ i < nI 5)) {j : Int32} : CT g yX7_shelfOf mX7_shelfOf (RM 20 1 6) (WM g adr μ) [.ref (adr 0), .int i, .int j] (PM g adr (.inr "java/lang/IndexOutOfBoundsException") (fun μ' => CR μ' α ∧ FrC μ' μ)) := by
  refine CT.of (l0 := [some (.ref (adr 0)), some (.int i), some (.int j), none]) (by decide +kernel) rfl (Nat.le_of_ble_eq_true rfl) rfl ?_
  refine J.il1 dX7_shelfOf_0 ?_
  refine cx_X7_176 rfl (k' := 1) (n' := 6) (c_needShelfX _ hx₉) ⟨⟨by decide, by decide⟩, ⟨rfl, rfl⟩, by decide, by decide⟩ rfl dX7_shelfOf_1 (fun μ9 h9₉ => ?_)
  exact JX.out ⟨_, rfl, rfl, (by rw [h9₉]; exact ⟨hCR₉, FrC.rf⟩)⟩ rfl rfl (by decide) (by decide)

set_option maxRecDepth 100000 in
set_option maxHeartbeats 4000000 in
theorem c_shelfOfX1 {g : GP} {adr : Nat → Nat} (μ : Mem) {α : A7} (hCR₉ : CR μ α) {i : Nat} (hi1₉ : i < 5) {j : Int32} (hx₉ : j < nI 0 ∨ nI 3 < j) : CT g yX7_shelfOf mX7_shelfOf (RM 20 1 6) (WM g adr μ) [.ref (adr 0), .int (nI i), .int j] (PM g adr (.inr "java/lang/IllegalArgumentException") (fun μ' => CR μ' α ∧ FrC μ' μ)) := by
  refine CT.of (l0 := [some (.ref (adr 0)), some (.int (nI i)), some (.int j), none]) (by decide +kernel) rfl (Nat.le_of_ble_eq_true rfl) rfl ?_
  refine J.il1 dX7_shelfOf_0 ?_
  refine cl_X7_176 rfl (k' := 0) (n' := 0) (c_needShelfOk _ (by omega)) ⟨⟨by decide, by decide⟩, ⟨rfl, rfl⟩, by decide, by decide⟩ rfl dX7_shelfOf_1 (fun μ9 h9₉ => ?_)
  rw [h9₉]; clear h9₉
  refine J.il2 dX7_shelfOf_4 ?_
  refine J.iconst dX7_shelfOf_5 kI_0 ?_
  refine J.iconst dX7_shelfOf_6 kI_3 ?_
  refine cx_X7_68 rfl (k' := 1) (n' := 6) (c_needFromToX _ hx₉) ⟨⟨by decide, by decide⟩, ⟨rfl, rfl⟩, by decide, by decide⟩ rfl dX7_shelfOf_7 (fun μ9 h9₉ => ?_)
  exact JX.out ⟨_, rfl, rfl, (by rw [h9₉]; exact ⟨hCR₉, FrC.rf⟩)⟩ rfl rfl (by decide) (by decide)

set_option maxRecDepth 100000 in
set_option maxHeartbeats 4000000 in
theorem c_shelfOfX2 {g : GP} {adr : Nat → Nat} (μ : Mem) {α : A7} (hCR₉ : CR μ α) {i : Nat} (hi1₉ : i < 5) {j : Nat} (hj1₉ : 0 ≤ j) (hj2₉ : j ≤ 3) (hx₉ : ¬ aFl (qS α) i = true) : CT g yX7_shelfOf mX7_shelfOf (RM 20 1 6) (WM g adr μ) [.ref (adr 0), .int (nI i), .int (nI j)] (PM g adr (.inr "java/util/NoSuchElementException") (fun μ' => CR μ' α ∧ FrC μ' μ)) := by
  refine CT.of (l0 := [some (.ref (adr 0)), some (.int (nI i)), some (.int (nI j)), none]) (by decide +kernel) rfl (Nat.le_of_ble_eq_true rfl) rfl ?_
  refine J.il1 dX7_shelfOf_0 ?_
  refine cl_X7_176 rfl (k' := 0) (n' := 0) (c_needShelfOk _ (by omega)) ⟨⟨by decide, by decide⟩, ⟨rfl, rfl⟩, by decide, by decide⟩ rfl dX7_shelfOf_1 (fun μ9 h9₉ => ?_)
  rw [h9₉]; clear h9₉
  refine J.il2 dX7_shelfOf_4 ?_
  refine J.iconst dX7_shelfOf_5 kI_0 ?_
  refine J.iconst dX7_shelfOf_6 kI_3 ?_
  refine cl_X7_68 rfl (k' := 0) (n' := 0) (c_needFromToOk _ (by omega) (by omega) (by decide)) ⟨⟨by decide, by decide⟩, ⟨rfl, rfl⟩, by decide, by decide⟩ rfl dX7_shelfOf_7 (fun μ9 h9₉ => ?_)
  rw [h9₉]; clear h9₉
  refine J.al0 dX7_shelfOf_10 ?_
  refine J.il1 dX7_shelfOf_11 ?_
  refine cx_X7_217 rfl (by decide) (k' := 1) (n' := 6) (c_needLearntX _ (by omega) hCR₉.1 hx₉) ⟨⟨by decide, by decide⟩, ⟨rfl, rfl⟩, by decide, by decide⟩ rfl dX7_shelfOf_12 (fun μ9 h9₉ => ?_)
  exact JX.out ⟨_, rfl, rfl, (by rw [h9₉]; exact ⟨hCR₉, FrC.rf⟩)⟩ rfl rfl (by decide) (by decide)

set_option maxRecDepth 100000 in
set_option maxHeartbeats 4000000 in
theorem c_shelfOf0 {g : GP} {adr : Nat → Nat} (μ : Mem) {α : A7} (hCR₉ : CR μ α) {i : Nat} (hi1₉ : i < 5) (hfi₉ : aFl (qS α) i = true)  : CT g yX7_shelfOf mX7_shelfOf (RM 20 1 6) (WM g adr μ) [.ref (adr 0), .int (nI i), .int (nI 0)] (PM g adr ((.inl (some (.int (nI (cnt (fun k => decide (aSh (qS α) i k ≠ k)) 32)))))) (fun μ' => CR μ' α ∧ FrC μ' μ)) := by
  refine CT.of (l0 := [some (.ref (adr 0)), some (.int (nI i)), some (.int (nI 0)), none]) (by decide +kernel) rfl (Nat.le_of_ble_eq_true rfl) rfl ?_
  refine J.il1 dX7_shelfOf_0 ?_
  refine cl_X7_176 rfl (k' := 0) (n' := 0) (c_needShelfOk _ (by omega)) ⟨⟨by decide, by decide⟩, ⟨rfl, rfl⟩, by decide, by decide⟩ rfl dX7_shelfOf_1 (fun μ9 h9₉ => ?_)
  rw [h9₉]; clear h9₉
  refine J.il2 dX7_shelfOf_4 ?_
  refine J.iconst dX7_shelfOf_5 kI_0 ?_
  refine J.iconst dX7_shelfOf_6 kI_3 ?_
  refine cl_X7_68 rfl (k' := 0) (n' := 0) (c_needFromToOk _ (by decide) (by decide) (by decide)) ⟨⟨by decide, by decide⟩, ⟨rfl, rfl⟩, by decide, by decide⟩ rfl dX7_shelfOf_7 (fun μ9 h9₉ => ?_)
  rw [h9₉]; clear h9₉
  refine J.al0 dX7_shelfOf_10 ?_
  refine J.il1 dX7_shelfOf_11 ?_
  refine cl_X7_217 rfl (by decide) (k' := 0) (n' := 0) (c_needLearntOk _ (by omega) hCR₉.1 hfi₉) ⟨⟨by decide, by decide⟩, ⟨rfl, rfl⟩, by decide, by decide⟩ rfl dX7_shelfOf_12 (fun μ9 h9₉ => ?_)
  rw [h9₉]; clear h9₉
  refine J.al0 dX7_shelfOf_15 ?_
  refine gf_X7_10 rfl (o2 := 1) (by decide) rfl dX7_shelfOf_16 ?_
  refine J.il1 dX7_shelfOf_19 ?_
  have hosi := c_onShelf (g := g) (adr := adr) (μ) (t := 1) (i := i) (by decide) (by omega)
  refine cl_X7_182 rfl (by decide) (k' := 0) (n' := 0) (hosi) ⟨⟨by decide, by decide⟩, ⟨rfl, rfl⟩, by decide, by decide⟩ rfl dX7_shelfOf_20 (fun μ9 h9₉ => ?_)
  rw [h9₉]; clear h9₉
  refine J.as3 dX7_shelfOf_23 (by decide) rfl ?_
  refine J.il2 dX7_shelfOf_24 ?_
  refine J.tableIn (tgt := 52) dX7_shelfOf_25 (by decide) (by decide) rfl (by decide) ?_
  refine J.al3 dX7_shelfOf_52 ?_
  refine cl_X7_223 rfl ((kt_st (b := 1) (by decide)).2.2.2.2 i (by omega)) (k' := 0) (n' := 0) (c_countMoved _ (kt_sh hi1₉) (fl_P hCR₉.1 hi1₉ hfi₉)) ⟨⟨by decide, by decide⟩, ⟨rfl, rfl⟩, by decide, by decide⟩ rfl dX7_shelfOf_53 (fun μ9 h9₉ => ?_)
  rw [h9₉]; clear h9₉
  refine J.iret rfl (by decide) (by decide) dX7_shelfOf_56 ⟨_, rfl, ?_, ?_⟩
  · rfl
  · exact ⟨hCR₉, FrC.rf⟩

set_option maxRecDepth 100000 in
set_option maxHeartbeats 4000000 in
theorem c_shelfOf1 {g : GP} {adr : Nat → Nat} (μ : Mem) {α : A7} (hCR₉ : CR μ α) {i : Nat} (hi1₉ : i < 5) (hfi₉ : aFl (qS α) i = true)  : CT g yX7_shelfOf mX7_shelfOf (RM 20 1 6) (WM g adr μ) [.ref (adr 0), .int (nI i), .int (nI 1)] (PM g adr ((.inl (some (.int (nI (cnt (fun s => lowB (aSh (qS α) i) s && decide (2 ≤ cyL (aSh (qS α) i) s)) 32)))))) (fun μ' => CR μ' α ∧ FrC μ' μ)) := by
  refine CT.of (l0 := [some (.ref (adr 0)), some (.int (nI i)), some (.int (nI 1)), none]) (by decide +kernel) rfl (Nat.le_of_ble_eq_true rfl) rfl ?_
  refine J.il1 dX7_shelfOf_0 ?_
  refine cl_X7_176 rfl (k' := 0) (n' := 0) (c_needShelfOk _ (by omega)) ⟨⟨by decide, by decide⟩, ⟨rfl, rfl⟩, by decide, by decide⟩ rfl dX7_shelfOf_1 (fun μ9 h9₉ => ?_)
  rw [h9₉]; clear h9₉
  refine J.il2 dX7_shelfOf_4 ?_
  refine J.iconst dX7_shelfOf_5 kI_0 ?_
  refine J.iconst dX7_shelfOf_6 kI_3 ?_
  refine cl_X7_68 rfl (k' := 0) (n' := 0) (c_needFromToOk _ (by decide) (by decide) (by decide)) ⟨⟨by decide, by decide⟩, ⟨rfl, rfl⟩, by decide, by decide⟩ rfl dX7_shelfOf_7 (fun μ9 h9₉ => ?_)
  rw [h9₉]; clear h9₉
  refine J.al0 dX7_shelfOf_10 ?_
  refine J.il1 dX7_shelfOf_11 ?_
  refine cl_X7_217 rfl (by decide) (k' := 0) (n' := 0) (c_needLearntOk _ (by omega) hCR₉.1 hfi₉) ⟨⟨by decide, by decide⟩, ⟨rfl, rfl⟩, by decide, by decide⟩ rfl dX7_shelfOf_12 (fun μ9 h9₉ => ?_)
  rw [h9₉]; clear h9₉
  refine J.al0 dX7_shelfOf_15 ?_
  refine gf_X7_10 rfl (o2 := 1) (by decide) rfl dX7_shelfOf_16 ?_
  refine J.il1 dX7_shelfOf_19 ?_
  have hosi := c_onShelf (g := g) (adr := adr) (μ) (t := 1) (i := i) (by decide) (by omega)
  refine cl_X7_182 rfl (by decide) (k' := 0) (n' := 0) (hosi) ⟨⟨by decide, by decide⟩, ⟨rfl, rfl⟩, by decide, by decide⟩ rfl dX7_shelfOf_20 (fun μ9 h9₉ => ?_)
  rw [h9₉]; clear h9₉
  refine J.as3 dX7_shelfOf_23 (by decide) rfl ?_
  refine J.il2 dX7_shelfOf_24 ?_
  refine J.tableIn (tgt := 57) dX7_shelfOf_25 (by decide) (by decide) rfl (by decide) ?_
  refine J.al3 dX7_shelfOf_57 ?_
  refine J.iconst dX7_shelfOf_58 kI_2 ?_
  refine cl_X7_226 rfl ((kt_st (b := 1) (by decide)).2.2.2.2 i (by omega)) (k' := 0) (n' := 0) (c_countCycles _ (kt_sh hi1₉) (fl_P hCR₉.1 hi1₉ hfi₉) (by decide)) ⟨⟨by decide, by decide⟩, ⟨rfl, rfl⟩, by decide, by decide⟩ rfl dX7_shelfOf_59 (fun μ9 h9₉ => ?_)
  rw [h9₉]; clear h9₉
  refine J.iret rfl (by decide) (by decide) dX7_shelfOf_62 ⟨_, rfl, ?_, ?_⟩
  · rfl
  · exact ⟨hCR₉, FrC.rf⟩

set_option maxRecDepth 100000 in
set_option maxHeartbeats 4000000 in
theorem c_shelfOf2 {g : GP} {adr : Nat → Nat} (μ : Mem) {α : A7} (hCR₉ : CR μ α) {i : Nat} (hi1₉ : i < 5) (hfi₉ : aFl (qS α) i = true)  : CT g yX7_shelfOf mX7_shelfOf (RM 20 1 6) (WM g adr μ) [.ref (adr 0), .int (nI i), .int (nI 2)] (PM g adr ((.inl (some (.int (nI (mxU (cyL (aSh (qS α) i)) 32)))))) (fun μ' => CR μ' α ∧ FrC μ' μ)) := by
  refine CT.of (l0 := [some (.ref (adr 0)), some (.int (nI i)), some (.int (nI 2)), none]) (by decide +kernel) rfl (Nat.le_of_ble_eq_true rfl) rfl ?_
  refine J.il1 dX7_shelfOf_0 ?_
  refine cl_X7_176 rfl (k' := 0) (n' := 0) (c_needShelfOk _ (by omega)) ⟨⟨by decide, by decide⟩, ⟨rfl, rfl⟩, by decide, by decide⟩ rfl dX7_shelfOf_1 (fun μ9 h9₉ => ?_)
  rw [h9₉]; clear h9₉
  refine J.il2 dX7_shelfOf_4 ?_
  refine J.iconst dX7_shelfOf_5 kI_0 ?_
  refine J.iconst dX7_shelfOf_6 kI_3 ?_
  refine cl_X7_68 rfl (k' := 0) (n' := 0) (c_needFromToOk _ (by decide) (by decide) (by decide)) ⟨⟨by decide, by decide⟩, ⟨rfl, rfl⟩, by decide, by decide⟩ rfl dX7_shelfOf_7 (fun μ9 h9₉ => ?_)
  rw [h9₉]; clear h9₉
  refine J.al0 dX7_shelfOf_10 ?_
  refine J.il1 dX7_shelfOf_11 ?_
  refine cl_X7_217 rfl (by decide) (k' := 0) (n' := 0) (c_needLearntOk _ (by omega) hCR₉.1 hfi₉) ⟨⟨by decide, by decide⟩, ⟨rfl, rfl⟩, by decide, by decide⟩ rfl dX7_shelfOf_12 (fun μ9 h9₉ => ?_)
  rw [h9₉]; clear h9₉
  refine J.al0 dX7_shelfOf_15 ?_
  refine gf_X7_10 rfl (o2 := 1) (by decide) rfl dX7_shelfOf_16 ?_
  refine J.il1 dX7_shelfOf_19 ?_
  have hosi := c_onShelf (g := g) (adr := adr) (μ) (t := 1) (i := i) (by decide) (by omega)
  refine cl_X7_182 rfl (by decide) (k' := 0) (n' := 0) (hosi) ⟨⟨by decide, by decide⟩, ⟨rfl, rfl⟩, by decide, by decide⟩ rfl dX7_shelfOf_20 (fun μ9 h9₉ => ?_)
  rw [h9₉]; clear h9₉
  refine J.as3 dX7_shelfOf_23 (by decide) rfl ?_
  refine J.il2 dX7_shelfOf_24 ?_
  refine J.tableIn (tgt := 63) dX7_shelfOf_25 (by decide) (by decide) rfl (by decide) ?_
  refine J.al3 dX7_shelfOf_63 ?_
  refine cl_X7_229 rfl ((kt_st (b := 1) (by decide)).2.2.2.2 i (by omega)) (k' := 0) (n' := 0) (c_longestCycle _ (kt_sh hi1₉) (fl_P hCR₉.1 hi1₉ hfi₉)) ⟨⟨by decide, by decide⟩, ⟨rfl, rfl⟩, by decide, by decide⟩ rfl dX7_shelfOf_64 (fun μ9 h9₉ => ?_)
  rw [h9₉]; clear h9₉
  refine J.iret rfl (by decide) (by decide) dX7_shelfOf_67 ⟨_, rfl, ?_, ?_⟩
  · rfl
  · exact ⟨hCR₉, FrC.rf⟩

set_option maxRecDepth 100000 in
set_option maxHeartbeats 4000000 in
theorem c_shelfOf3 {g : GP} {adr : Nat → Nat} (μ : Mem) {α : A7} (hCR₉ : CR μ α) {i : Nat} (hi1₉ : i < 5) (hfi₉ : aFl (qS α) i = true)  : CT g yX7_shelfOf mX7_shelfOf (RM 20 1 6) (WM g adr μ) [.ref (adr 0), .int (nI i), .int (nI 3)] (PM g adr ((.inl (some (.int (nI (ordL (aSh (qS α) i) 32)))))) (fun μ' => CR μ' α ∧ FrC μ' μ)) := by
  refine CT.of (l0 := [some (.ref (adr 0)), some (.int (nI i)), some (.int (nI 3)), none]) (by decide +kernel) rfl (Nat.le_of_ble_eq_true rfl) rfl ?_
  refine J.il1 dX7_shelfOf_0 ?_
  refine cl_X7_176 rfl (k' := 0) (n' := 0) (c_needShelfOk _ (by omega)) ⟨⟨by decide, by decide⟩, ⟨rfl, rfl⟩, by decide, by decide⟩ rfl dX7_shelfOf_1 (fun μ9 h9₉ => ?_)
  rw [h9₉]; clear h9₉
  refine J.il2 dX7_shelfOf_4 ?_
  refine J.iconst dX7_shelfOf_5 kI_0 ?_
  refine J.iconst dX7_shelfOf_6 kI_3 ?_
  refine cl_X7_68 rfl (k' := 0) (n' := 0) (c_needFromToOk _ (by decide) (by decide) (by decide)) ⟨⟨by decide, by decide⟩, ⟨rfl, rfl⟩, by decide, by decide⟩ rfl dX7_shelfOf_7 (fun μ9 h9₉ => ?_)
  rw [h9₉]; clear h9₉
  refine J.al0 dX7_shelfOf_10 ?_
  refine J.il1 dX7_shelfOf_11 ?_
  refine cl_X7_217 rfl (by decide) (k' := 0) (n' := 0) (c_needLearntOk _ (by omega) hCR₉.1 hfi₉) ⟨⟨by decide, by decide⟩, ⟨rfl, rfl⟩, by decide, by decide⟩ rfl dX7_shelfOf_12 (fun μ9 h9₉ => ?_)
  rw [h9₉]; clear h9₉
  refine J.al0 dX7_shelfOf_15 ?_
  refine gf_X7_10 rfl (o2 := 1) (by decide) rfl dX7_shelfOf_16 ?_
  refine J.il1 dX7_shelfOf_19 ?_
  have hosi := c_onShelf (g := g) (adr := adr) (μ) (t := 1) (i := i) (by decide) (by omega)
  refine cl_X7_182 rfl (by decide) (k' := 0) (n' := 0) (hosi) ⟨⟨by decide, by decide⟩, ⟨rfl, rfl⟩, by decide, by decide⟩ rfl dX7_shelfOf_20 (fun μ9 h9₉ => ?_)
  rw [h9₉]; clear h9₉
  refine J.as3 dX7_shelfOf_23 (by decide) rfl ?_
  refine J.il2 dX7_shelfOf_24 ?_
  refine J.tableOut (tgt := 68) dX7_shelfOf_25 (by decide) (by decide) ?_
  refine J.al3 dX7_shelfOf_68 ?_
  refine cl_X7_232 rfl ((kt_st (b := 1) (by decide)).2.2.2.2 i (by omega)) (k' := 0) (n' := 0) (c_orderByCycles _ (kt_sh hi1₉) (fl_P hCR₉.1 hi1₉ hfi₉) (hCR₉.1.sh i hi1₉ hfi₉)) ⟨⟨by decide, by decide⟩, ⟨rfl, rfl⟩, by decide, by decide⟩ rfl dX7_shelfOf_69 (fun μ9 h9₉ => ?_)
  rw [h9₉]; clear h9₉
  refine J.iret rfl (by decide) (by decide) dX7_shelfOf_72 ⟨_, rfl, ?_, ?_⟩
  · rfl
  · exact ⟨hCR₉, FrC.rf⟩
