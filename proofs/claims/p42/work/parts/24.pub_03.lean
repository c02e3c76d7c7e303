/-! ===== printed: the class: texts and shelves ===== -/
set_option maxRecDepth 100000 in
set_option maxHeartbeats 4000000 in
theorem c_commuteX0 {g : GP} {adr : Nat → Nat} (μ : Mem) {α : A7} (hCR₉ : CR μ α) {i : Int32} (hx₉ : ¬ (0 ≤ i ∧ i < nI 5)) {j : Int32} {k : Int32} : CT g yX7_commute mX7_commute (RM 20 1 6) (WM g adr μ) [.ref (adr 0), .int i, .int j, .int k] (PM g adr (.inr "java/lang/IndexOutOfBoundsException") (fun μ' => CR μ' α ∧ FrC μ' μ)) := by
  refine CT.of (l0 := [some (.ref (adr 0)), some (.int i), some (.int j), some (.int k)]) (by decide +kernel) rfl (Nat.le_of_ble_eq_true rfl) rfl ?_
  refine J.il1 dX7_commute_0 ?_
  refine cx_X7_176 rfl (k' := 1) (n' := 6) (c_needShelfX _ hx₉) ⟨⟨by decide, by decide⟩, ⟨rfl, rfl⟩, by decide, by decide⟩ rfl dX7_commute_1 (fun μ9 h9₉ => ?_)
  exact JX.out ⟨_, rfl, rfl, (by rw [h9₉]; exact ⟨hCR₉, FrC.rf⟩)⟩ rfl rfl (by decide) (by decide)

set_option maxRecDepth 100000 in
set_option maxHeartbeats 4000000 in
theorem c_commuteX1 {g : GP} {adr : Nat → Nat} (μ : Mem) {α : A7} (hCR₉ : CR μ α) {i : Nat} (hi1₉ : i < 5) {j : Int32} (hx₉ : ¬ (0 ≤ j ∧ j < nI 5)) {k : Int32} : CT g yX7_commute mX7_commute (RM 20 1 6) (WM g adr μ) [.ref (adr 0), .int (nI i), .int j, .int k] (PM g adr (.inr "java/lang/IndexOutOfBoundsException") (fun μ' => CR μ' α ∧ FrC μ' μ)) := by
  refine CT.of (l0 := [some (.ref (adr 0)), some (.int (nI i)), some (.int j), some (.int k)]) (by decide +kernel) rfl (Nat.le_of_ble_eq_true rfl) rfl ?_
  refine J.il1 dX7_commute_0 ?_
  refine cl_X7_176 rfl (k' := 0) (n' := 0) (c_needShelfOk _ (by omega)) ⟨⟨by decide, by decide⟩, ⟨rfl, rfl⟩, by decide, by decide⟩ rfl dX7_commute_1 (fun μ9 h9₉ => ?_)
  rw [h9₉]; clear h9₉
  refine J.il2 dX7_commute_4 ?_
  refine cx_X7_176 rfl (k' := 1) (n' := 6) (c_needShelfX _ hx₉) ⟨⟨by decide, by decide⟩, ⟨rfl, rfl⟩, by decide, by decide⟩ rfl dX7_commute_5 (fun μ9 h9₉ => ?_)
  exact JX.out ⟨_, rfl, rfl, (by rw [h9₉]; exact ⟨hCR₉, FrC.rf⟩)⟩ rfl rfl (by decide) (by decide)

set_option maxRecDepth 100000 in
set_option maxHeartbeats 4000000 in
theorem c_commuteX2 {g : GP} {adr : Nat → Nat} (μ : Mem) {α : A7} (hCR₉ : CR μ α) {i : Nat} (hi1₉ : i < 5) {j : Nat} (hj1₉ : j < 5) {k : Int32} (hx₉ : ¬ (0 ≤ k ∧ k < nI 5)) : CT g yX7_commute mX7_commute (RM 20 1 6) (WM g adr μ) [.ref (adr 0), .int (nI i), .int (nI j), .int k] (PM g adr (.inr "java/lang/IndexOutOfBoundsException") (fun μ' => CR μ' α ∧ FrC μ' μ)) := by
  refine CT.of (l0 := [some (.ref (adr 0)), some (.int (nI i)), some (.int (nI j)), some (.int k)]) (by decide +kernel) rfl (Nat.le_of_ble_eq_true rfl) rfl ?_
  refine J.il1 dX7_commute_0 ?_
  refine cl_X7_176 rfl (k' := 0) (n' := 0) (c_needShelfOk _ (by omega)) ⟨⟨by decide, by decide⟩, ⟨rfl, rfl⟩, by decide, by decide⟩ rfl dX7_commute_1 (fun μ9 h9₉ => ?_)
  rw [h9₉]; clear h9₉
  refine J.il2 dX7_commute_4 ?_
  refine cl_X7_176 rfl (k' := 0) (n' := 0) (c_needShelfOk _ (by omega)) ⟨⟨by decide, by decide⟩, ⟨rfl, rfl⟩, by decide, by decide⟩ rfl dX7_commute_5 (fun μ9 h9₉ => ?_)
  rw [h9₉]; clear h9₉
  refine J.il3 dX7_commute_8 ?_
  refine cx_X7_176 rfl (k' := 1) (n' := 6) (c_needShelfX _ hx₉) ⟨⟨by decide, by decide⟩, ⟨rfl, rfl⟩, by decide, by decide⟩ rfl dX7_commute_9 (fun μ9 h9₉ => ?_)
  exact JX.out ⟨_, rfl, rfl, (by rw [h9₉]; exact ⟨hCR₉, FrC.rf⟩)⟩ rfl rfl (by decide) (by decide)

set_option maxRecDepth 100000 in
set_option maxHeartbeats 4000000 in
theorem c_commuteX3 {g : GP} {adr : Nat → Nat} (μ : Mem) {α : A7} (hCR₉ : CR μ α) {i : Nat} (hi1₉ : i < 5) {j : Nat} (hj1₉ : j < 5) {k : Nat} (hk1₉ : k < 5) (hx₉ : ¬ aFl (qS α) i = true) : CT g yX7_commute mX7_commute (RM 20 1 6) (WM g adr μ) [.ref (adr 0), .int (nI i), .int (nI j), .int (nI k)] (PM g adr (.inr "java/lang/UnsupportedOperationException") (fun μ' => CR μ' (aRef 3 i α) ∧ FrC μ' μ)) := by
  refine CT.of (l0 := [some (.ref (adr 0)), some (.int (nI i)), some (.int (nI j)), some (.int (nI k))]) (by decide +kernel) rfl (Nat.le_of_ble_eq_true rfl) rfl ?_
  refine J.il1 dX7_commute_0 ?_
  refine cl_X7_176 rfl (k' := 0) (n' := 0) (c_needShelfOk _ (by omega)) ⟨⟨by decide, by decide⟩, ⟨rfl, rfl⟩, by decide, by decide⟩ rfl dX7_commute_1 (fun μ9 h9₉ => ?_)
  rw [h9₉]; clear h9₉
  refine J.il2 dX7_commute_4 ?_
  refine cl_X7_176 rfl (k' := 0) (n' := 0) (c_needShelfOk _ (by omega)) ⟨⟨by decide, by decide⟩, ⟨rfl, rfl⟩, by decide, by decide⟩ rfl dX7_commute_5 (fun μ9 h9₉ => ?_)
  rw [h9₉]; clear h9₉
  refine J.il3 dX7_commute_8 ?_
  refine cl_X7_176 rfl (k' := 0) (n' := 0) (c_needShelfOk _ (by omega)) ⟨⟨by decide, by decide⟩, ⟨rfl, rfl⟩, by decide, by decide⟩ rfl dX7_commute_9 (fun μ9 h9₉ => ?_)
  rw [h9₉]; clear h9₉
  refine J.al0 dX7_commute_12 ?_
  refine J.il1 dX7_commute_13 ?_
  refine cx_X7_179 rfl (by decide) (k' := 1) (n' := 6) (c_needFilledX _ (by omega) hCR₉.1 hx₉) ⟨⟨by decide, by decide⟩, ⟨rfl, rfl⟩, by decide, by decide⟩ rfl dX7_commute_14 (fun μ9 h9₉ => ?_)
  exact JX.out ⟨_, rfl, rfl, (by rw [h9₉]; exact ⟨hCR₉.ref (by decide), fun o ho₉ => by rw [wr_o (by omega), wr_o (by omega)]⟩)⟩ rfl rfl (by decide) (by decide)

set_option maxRecDepth 100000 in
set_option maxHeartbeats 4000000 in
theorem c_commuteX4 {g : GP} {adr : Nat → Nat} (μ : Mem) {α : A7} (hCR₉ : CR μ α) {i : Nat} (hi1₉ : i < 5) {j : Nat} (hj1₉ : j < 5) {k : Nat} (hk1₉ : k < 5) (hfi₉ : aFl (qS α) i = true) (hx₉ : ¬ aFl (qS α) j = true) : CT g yX7_commute mX7_commute (RM 20 1 6) (WM g adr μ) [.ref (adr 0), .int (nI i), .int (nI j), .int (nI k)] (PM g adr (.inr "java/lang/UnsupportedOperationException") (fun μ' => CR μ' (aRef 3 j α) ∧ FrC μ' μ)) := by
  refine CT.of (l0 := [some (.ref (adr 0)), some (.int (nI i)), some (.int (nI j)), some (.int (nI k))]) (by decide +kernel) rfl (Nat.le_of_ble_eq_true rfl) rfl ?_
  refine J.il1 dX7_commute_0 ?_
  refine cl_X7_176 rfl (k' := 0) (n' := 0) (c_needShelfOk _ (by omega)) ⟨⟨by decide, by decide⟩, ⟨rfl, rfl⟩, by decide, by decide⟩ rfl dX7_commute_1 (fun μ9 h9₉ => ?_)
  rw [h9₉]; clear h9₉
  refine J.il2 dX7_commute_4 ?_
  refine cl_X7_176 rfl (k' := 0) (n' := 0) (c_needShelfOk _ (by omega)) ⟨⟨by decide, by decide⟩, ⟨rfl, rfl⟩, by decide, by decide⟩ rfl dX7_commute_5 (fun μ9 h9₉ => ?_)
  rw [h9₉]; clear h9₉
  refine J.il3 dX7_commute_8 ?_
  refine cl_X7_176 rfl (k' := 0) (n' := 0) (c_needShelfOk _ (by omega)) ⟨⟨by decide, by decide⟩, ⟨rfl, rfl⟩, by decide, by decide⟩ rfl dX7_commute_9 (fun μ9 h9₉ => ?_)
  rw [h9₉]; clear h9₉
  refine J.al0 dX7_commute_12 ?_
  refine J.il1 dX7_commute_13 ?_
  refine cl_X7_179 rfl (by decide) (k' := 0) (n' := 0) (c_needFilledOk _ (by omega) hCR₉.1 hfi₉) ⟨⟨by decide, by decide⟩, ⟨rfl, rfl⟩, by decide, by decide⟩ rfl dX7_commute_14 (fun μ9 h9₉ => ?_)
  rw [h9₉]; clear h9₉
  refine J.al0 dX7_commute_17 ?_
  refine J.il2 dX7_commute_18 ?_
  refine cx_X7_179 rfl (by decide) (k' := 1) (n' := 6) (c_needFilledX _ (by omega) hCR₉.1 hx₉) ⟨⟨by decide, by decide⟩, ⟨rfl, rfl⟩, by decide, by decide⟩ rfl dX7_commute_19 (fun μ9 h9₉ => ?_)
  exact JX.out ⟨_, rfl, rfl, (by rw [h9₉]; exact ⟨hCR₉.ref (by decide), fun o ho₉ => by rw [wr_o (by omega), wr_o (by omega)]⟩)⟩ rfl rfl (by decide) (by decide)

set_option maxRecDepth 100000 in
set_option maxHeartbeats 4000000 in
theorem c_commute {g : GP} {adr : Nat → Nat} (μ : Mem) {α : A7} (hCR₉ : CR μ α) {i : Nat} (hi1₉ : i < 5) {j : Nat} (hj1₉ : j < 5) {k : Nat} (hk1₉ : k < 5) (hfi₉ : aFl (qS α) i = true) (hfj₉ : aFl (qS α) j = true)  : CT g yX7_commute mX7_commute (RM 20 1 6) (WM g adr μ) [.ref (adr 0), .int (nI i), .int (nI j), .int (nI k)] (PM g adr ((.inl (some (.int (nI (cnt (fun k => decide ((comF (aSh (qS α) i) (aSh (qS α) j)) k ≠ k)) 32)))))) (fun μ' => CR μ' (aPush (sPut k (comF (aSh (qS α) i) (aSh (qS α) j)) (qS α)) α) ∧ FrC μ' μ)) := by
  refine CT.of (l0 := [some (.ref (adr 0)), some (.int (nI i)), some (.int (nI j)), some (.int (nI k))]) (by decide +kernel) rfl (Nat.le_of_ble_eq_true rfl) rfl ?_
  refine J.il1 dX7_commute_0 ?_
  refine cl_X7_176 rfl (k' := 0) (n' := 0) (c_needShelfOk _ (by omega)) ⟨⟨by decide, by decide⟩, ⟨rfl, rfl⟩, by decide, by decide⟩ rfl dX7_commute_1 (fun μ9 h9₉ => ?_)
  rw [h9₉]; clear h9₉
  refine J.il2 dX7_commute_4 ?_
  refine cl_X7_176 rfl (k' := 0) (n' := 0) (c_needShelfOk _ (by omega)) ⟨⟨by decide, by decide⟩, ⟨rfl, rfl⟩, by decide, by decide⟩ rfl dX7_commute_5 (fun μ9 h9₉ => ?_)
  rw [h9₉]; clear h9₉
  refine J.il3 dX7_commute_8 ?_
  refine cl_X7_176 rfl (k' := 0) (n' := 0) (c_needShelfOk _ (by omega)) ⟨⟨by decide, by decide⟩, ⟨rfl, rfl⟩, by decide, by decide⟩ rfl dX7_commute_9 (fun μ9 h9₉ => ?_)
  rw [h9₉]; clear h9₉
  refine J.al0 dX7_commute_12 ?_
  refine J.il1 dX7_commute_13 ?_
  refine cl_X7_179 rfl (by decide) (k' := 0) (n' := 0) (c_needFilledOk _ (by omega) hCR₉.1 hfi₉) ⟨⟨by decide, by decide⟩, ⟨rfl, rfl⟩, by decide, by decide⟩ rfl dX7_commute_14 (fun μ9 h9₉ => ?_)
  rw [h9₉]; clear h9₉
  refine J.al0 dX7_commute_17 ?_
  refine J.il2 dX7_commute_18 ?_
  refine cl_X7_179 rfl (by decide) (k' := 0) (n' := 0) (c_needFilledOk _ (by omega) hCR₉.1 hfj₉) ⟨⟨by decide, by decide⟩, ⟨rfl, rfl⟩, by decide, by decide⟩ rfl dX7_commute_19 (fun μ9 h9₉ => ?_)
  rw [h9₉]; clear h9₉
  refine J.al0 dX7_commute_22 ?_
  refine gf_X7_47 rfl (o2 := 233) (by decide) rfl dX7_commute_23 ?_
  refine J.al0 dX7_commute_26 ?_
  refine gf_X7_10 rfl (o2 := 1) (by decide) rfl dX7_commute_27 ?_
  refine J.il1 dX7_commute_30 ?_
  have hosi := c_onShelf (g := g) (adr := adr) (μ) (t := 1) (i := i) (by decide) (by omega)
  refine cl_X7_182 rfl (by decide) (k' := 0) (n' := 0) (hosi) ⟨⟨by decide, by decide⟩, ⟨rfl, rfl⟩, by decide, by decide⟩ rfl dX7_commute_31 (fun μ9 h9₉ => ?_)
  rw [h9₉]; clear h9₉
  refine J.al0 dX7_commute_34 ?_
  refine gf_X7_10 rfl (o2 := 1) (by decide) rfl dX7_commute_35 ?_
  refine J.il2 dX7_commute_38 ?_
  have hosj := c_onShelf (g := g) (adr := adr) (μ) (t := 1) (i := j) (by decide) (by omega)
  refine cl_X7_182 rfl (by decide) (k' := 0) (n' := 0) (hosj) ⟨⟨by decide, by decide⟩, ⟨rfl, rfl⟩, by decide, by decide⟩ rfl dX7_commute_39 (fun μ9 h9₉ => ?_)
  rw [h9₉]; clear h9₉
  refine J.al0 dX7_commute_42 ?_
  refine gf_X7_51 rfl (o2 := 235) (by decide) rfl dX7_commute_43 ?_
  refine cl_X7_207 rfl (by decide) (k' := 0) (n' := 0) (c_toCommuted _ (by decide) (kt_sh hi1₉) (kt_sh hj1₉) (by decide) (by omega) (by omega) (by decide) (by omega) (by omega) (fl_P hCR₉.1 hi1₉ hfi₉) (fl_P hCR₉.1 hj1₉ hfj₉) (hCR₉.1.sh i hi1₉ hfi₉) (hCR₉.1.sh j hj1₉ hfj₉)) ⟨⟨by decide, by decide⟩, ⟨rfl, rfl⟩, by decide, by decide⟩ rfl dX7_commute_46 (fun μ2 ⟨h2₉, hO2₉⟩ => ?_)
  have hC3₉ : CR μ2 α := hCR₉.off (fun o ho₉ => by rw [hO2₉ o (by omega) (by omega)])
  refine J.al0 dX7_commute_49 ?_
  refine J.il3 dX7_commute_50 ?_
  refine cl_X7_204 rfl (by decide) (k' := 0) (n' := 0) (c_putMade _ (by omega) hC3₉ h2₉ (comF_bij (hCR₉.1.sh i hi1₉ hfi₉) (hCR₉.1.sh j hj1₉ hfj₉))) ⟨⟨by decide, by decide⟩, ⟨rfl, rfl⟩, by decide, by decide⟩ rfl dX7_commute_51 (fun μ7 ⟨hCf₉, hFf₉⟩ => ?_)
  refine J.iret rfl (by decide) (by decide) dX7_commute_54 ⟨_, rfl, ?_, ?_⟩
  · rfl
  · exact ⟨hCf₉, fun o ho₉ => by rw [hFf₉ o ho₉, hO2₉ o (by omega) (by omega)]⟩

set_option maxRecDepth 100000 in
set_option maxHeartbeats 4000000 in
theorem c_forgetX0 {g : GP} {adr : Nat → Nat} (μ : Mem) {α : A7} (hCR₉ : CR μ α) {i : Int32} (hx₉ : ¬ (0 ≤ i ∧ i < nI 5)) : CT g yX7_forget mX7_forget (RM 20 1 6) (WM g adr μ) [.ref (adr 0), .int i] (PM g adr (.inr "java/lang/IndexOutOfBoundsException") (fun μ' => CR μ' α ∧ FrC μ' μ)) := by
  refine CT.of (l0 := [some (.ref (adr 0)), some (.int i)]) (by decide +kernel) rfl (Nat.le_of_ble_eq_true rfl) rfl ?_
  refine J.il1 dX7_forget_0 ?_
  refine cx_X7_176 rfl (k' := 1) (n' := 6) (c_needShelfX _ hx₉) ⟨⟨by decide, by decide⟩, ⟨rfl, rfl⟩, by decide, by decide⟩ rfl dX7_forget_1 (fun μ9 h9₉ => ?_)
  exact JX.out ⟨_, rfl, rfl, (by rw [h9₉]; exact ⟨hCR₉, FrC.rf⟩)⟩ rfl rfl (by decide) (by decide)

set_option maxRecDepth 100000 in
set_option maxHeartbeats 4000000 in
theorem c_forgetX1 {g : GP} {adr : Nat → Nat} (μ : Mem) {α : A7} (hCR₉ : CR μ α) {i : Nat} (hi1₉ : i < 5) (hx₉ : ¬ aFl (qS α) i = true) : CT g yX7_forget mX7_forget (RM 20 1 6) (WM g adr μ) [.ref (adr 0), .int (nI i)] (PM g adr (.inr "java/lang/UnsupportedOperationException") (fun μ' => CR μ' (aRef 3 i α) ∧ FrC μ' μ)) := by
  refine CT.of (l0 := [some (.ref (adr 0)), some (.int (nI i))]) (by decide +kernel) rfl (Nat.le_of_ble_eq_true rfl) rfl ?_
  refine J.il1 dX7_forget_0 ?_
  refine cl_X7_176 rfl (k' := 0) (n' := 0) (c_needShelfOk _ (by omega)) ⟨⟨by decide, by decide⟩, ⟨rfl, rfl⟩, by decide, by decide⟩ rfl dX7_forget_1 (fun μ9 h9₉ => ?_)
  rw [h9₉]; clear h9₉
  refine J.al0 dX7_forget_4 ?_
  refine J.il1 dX7_forget_5 ?_
  refine cx_X7_179 rfl (by decide) (k' := 1) (n' := 6) (c_needFilledX _ (by omega) hCR₉.1 hx₉) ⟨⟨by decide, by decide⟩, ⟨rfl, rfl⟩, by decide, by decide⟩ rfl dX7_forget_6 (fun μ9 h9₉ => ?_)
  exact JX.out ⟨_, rfl, rfl, (by rw [h9₉]; exact ⟨hCR₉.ref (by decide), fun o ho₉ => by rw [wr_o (by omega), wr_o (by omega)]⟩)⟩ rfl rfl (by decide) (by decide)

set_option maxRecDepth 100000 in
set_option maxHeartbeats 4000000 in
theorem c_forget {g : GP} {adr : Nat → Nat} (μ : Mem) {α : A7} (hCR₉ : CR μ α) {i : Nat} (hi1₉ : i < 5) (hfi₉ : aFl (qS α) i = true)  : CT g yX7_forget mX7_forget (RM 20 1 6) (WM g adr μ) [.ref (adr 0), .int (nI i)] (PM g adr ((.inl (some (.int (nI (cnt (aFl (sTake i (qS α))) 5)))))) (fun μ' => CR μ' (aPush (sTake i (qS α)) α) ∧ FrC μ' μ)) := by
  refine CT.of (l0 := [some (.ref (adr 0)), some (.int (nI i))]) (by decide +kernel) rfl (Nat.le_of_ble_eq_true rfl) rfl ?_
  refine J.il1 dX7_forget_0 ?_
  refine cl_X7_176 rfl (k' := 0) (n' := 0) (c_needShelfOk _ (by omega)) ⟨⟨by decide, by decide⟩, ⟨rfl, rfl⟩, by decide, by decide⟩ rfl dX7_forget_1 (fun μ9 h9₉ => ?_)
  rw [h9₉]; clear h9₉
  refine J.al0 dX7_forget_4 ?_
  refine J.il1 dX7_forget_5 ?_
  refine cl_X7_179 rfl (by decide) (k' := 0) (n' := 0) (c_needFilledOk _ (by omega) hCR₉.1 hfi₉) ⟨⟨by decide, by decide⟩, ⟨rfl, rfl⟩, by decide, by decide⟩ rfl dX7_forget_6 (fun μ9 h9₉ => ?_)
  rw [h9₉]; clear h9₉
  refine J.al0 dX7_forget_9 ?_
  refine gf_X7_19 rfl (o2 := 20) (by decide) rfl dX7_forget_10 ?_
  refine J.al0 dX7_forget_13 ?_
  refine gf_X7_10 rfl (o2 := 1) (by decide) rfl dX7_forget_14 ?_
  refine cl_X7_72 rfl (by decide) (k' := 0) (n' := 0) (c_hold _ hCR₉.2.1 hCR₉.1) ⟨⟨by decide, by decide⟩, ⟨rfl, rfl⟩, by decide, by decide⟩ rfl dX7_forget_17 (fun μ2 ⟨hP2₉, hO2₉⟩ => ?_)
  have hC2₉ : CS μ2 1 (qS α) := hCR₉.1.off (fun o q1₉ q2₉ => hO2₉ o (by omega))
  refine J.al0 dX7_forget_20 ?_
  refine gf_X7_10 rfl (o2 := 1) (by decide) rfl dX7_forget_21 ?_
  refine J.il1 dX7_forget_24 ?_
  refine cl_X7_211 rfl (by decide) (k' := 0) (n' := 0) (c_takeFrom _ (by decide) (by omega)) ⟨⟨by decide, by decide⟩, ⟨rfl, rfl⟩, by decide, by decide⟩ rfl dX7_forget_25 (fun μ3 h3₉ => ?_)
  have hC3₉ : CS μ3 1 (sTake i (qS α)) := by rw [h3₉]; exact hC2₉.sTakeA
  refine J.al0 dX7_forget_28 ?_
  refine gf_X7_10 rfl (o2 := 1) (by decide) rfl dX7_forget_29 ?_
  refine cl_X7_214 rfl (by decide) (k' := 0) (n' := 0) (c_countFilled _ (by decide) hC3₉) ⟨⟨by decide, by decide⟩, ⟨rfl, rfl⟩, by decide, by decide⟩ rfl dX7_forget_32 (fun μ9 h9₉ => ?_)
  rw [h9₉]; clear h9₉
  refine J.iret rfl (by decide) (by decide) dX7_forget_35 ⟨_, rfl, ?_, ?_⟩
  · rfl
  · exact ⟨hCR₉.push hP2₉ hO2₉ hC3₉ (fun o ho₉ => by rw [h3₉, wr_o (by omega)]), fun o ho₉ => by rw [h3₉, wr_o (by omega), hO2₉ o (by omega)]⟩

set_option maxRecDepth 100000 in
set_option maxHeartbeats 4000000 in
theorem c_goesToX0 {g : GP} {adr : Nat → Nat} (μ : Mem) {α : A7} (hCR₉ : CR μ α) {i : Int32} (hx₉ : ¬ (0 ≤ i ∧ i < nI 5)) {j : Int32} : CT g yX7_goesTo mX7_goesTo (RM 20 1 6) (WM g adr μ) [.ref (adr 0), .int i, .int j] (PM g adr (.inr "java/lang/IndexOutOfBoundsException") (fun μ' => CR μ' α ∧ FrC μ' μ)) := by
  refine CT.of (l0 := [some (.ref (adr 0)), some (.int i), some (.int j)]) (by decide +kernel) rfl (Nat.le_of_ble_eq_true rfl) rfl ?_
  refine J.il1 dX7_goesTo_0 ?_
  refine cx_X7_176 rfl (k' := 1) (n' := 6) (c_needShelfX _ hx₉) ⟨⟨by decide, by decide⟩, ⟨rfl, rfl⟩, by decide, by decide⟩ rfl dX7_goesTo_1 (fun μ9 h9₉ => ?_)
  exact JX.out ⟨_, rfl, rfl, (by rw [h9₉]; exact ⟨hCR₉, FrC.rf⟩)⟩ rfl rfl (by decide) (by decide)

set_option maxRecDepth 100000 in
set_option maxHeartbeats 4000000 in
theorem c_goesToX1 {g : GP} {adr : Nat → Nat} (μ : Mem) {α : A7} (hCR₉ : CR μ α) {i : Nat} (hi1₉ : i < 5) {j : Int32} (hx₉ : ¬ (0 ≤ j ∧ j < nI 32)) : CT g yX7_goesTo mX7_goesTo (RM 20 1 6) (WM g adr μ) [.ref (adr 0), .int (nI i), .int j] (PM g adr (.inr "java/lang/IndexOutOfBoundsException") (fun μ' => CR μ' α ∧ FrC μ' μ)) := by
  refine CT.of (l0 := [some (.ref (adr 0)), some (.int (nI i)), some (.int j)]) (by decide +kernel) rfl (Nat.le_of_ble_eq_true rfl) rfl ?_
  refine J.il1 dX7_goesTo_0 ?_
  refine cl_X7_176 rfl (k' := 0) (n' := 0) (c_needShelfOk _ (by omega)) ⟨⟨by decide, by decide⟩, ⟨rfl, rfl⟩, by decide, by decide⟩ rfl dX7_goesTo_1 (fun μ9 h9₉ => ?_)
  rw [h9₉]; clear h9₉
  refine J.il2 dX7_goesTo_4 ?_
  refine cx_X7_120 rfl (k' := 1) (n' := 6) (c_needSlotX _ hx₉) ⟨⟨by decide, by decide⟩, ⟨rfl, rfl⟩, by decide, by decide⟩ rfl dX7_goesTo_5 (fun μ9 h9₉ => ?_)
  exact JX.out ⟨_, rfl, rfl, (by rw [h9₉]; exact ⟨hCR₉, FrC.rf⟩)⟩ rfl rfl (by decide) (by decide)

set_option maxRecDepth 100000 in
set_option maxHeartbeats 4000000 in
theorem c_goesToX2 {g : GP} {adr : Nat → Nat} (μ : Mem) {α : A7} (hCR₉ : CR μ α) {i : Nat} (hi1₉ : i < 5) {j : Nat} (hj1₉ : j < 32) (hx₉ : ¬ aFl (qS α) i = true) : CT g yX7_goesTo mX7_goesTo (RM 20 1 6) (WM g adr μ) [.ref (adr 0), .int (nI i), .int (nI j)] (PM g adr (.inr "java/util/NoSuchElementException") (fun μ' => CR μ' α ∧ FrC μ' μ)) := by
  refine CT.of (l0 := [some (.ref (adr 0)), some (.int (nI i)), some (.int (nI j))]) (by decide +kernel) rfl (Nat.le_of_ble_eq_true rfl) rfl ?_
  refine J.il1 dX7_goesTo_0 ?_
  refine cl_X7_176 rfl (k' := 0) (n' := 0) (c_needShelfOk _ (by omega)) ⟨⟨by decide, by decide⟩, ⟨rfl, rfl⟩, by decide, by decide⟩ rfl dX7_goesTo_1 (fun μ9 h9₉ => ?_)
  rw [h9₉]; clear h9₉
  refine J.il2 dX7_goesTo_4 ?_
  refine cl_X7_120 rfl (k' := 0) (n' := 0) (c_needSlotOk _ (by omega)) ⟨⟨by decide, by decide⟩, ⟨rfl, rfl⟩, by decide, by decide⟩ rfl dX7_goesTo_5 (fun μ9 h9₉ => ?_)
  rw [h9₉]; clear h9₉
  refine J.al0 dX7_goesTo_8 ?_
  refine J.il1 dX7_goesTo_9 ?_
  refine cx_X7_217 rfl (by decide) (k' := 1) (n' := 6) (c_needLearntX _ (by omega) hCR₉.1 hx₉) ⟨⟨by decide, by decide⟩, ⟨rfl, rfl⟩, by decide, by decide⟩ rfl dX7_goesTo_10 (fun μ9 h9₉ => ?_)
  exact JX.out ⟨_, rfl, rfl, (by rw [h9₉]; exact ⟨hCR₉, FrC.rf⟩)⟩ rfl rfl (by decide) (by decide)
