/-! ===== printed: the class: its helpers ===== -/
theorem kt_sh {i : Nat} (h : i < 5) : kt (1 + 9 + 2 * i) = 1 := (kt_st (b := 1) (by decide)).2.2.2.2 i h
set_option maxRecDepth 100000 in
set_option maxHeartbeats 4000000 in
theorem c_needIndexOk {g : GP} {adr : Nat → Nat} (μ : Mem) {a b : Nat} (hab₉ : a < b) (hb₉ : b < 2147483648) : CT g yX7_needIndex mX7_needIndex (RM 1 0 0) (WM g adr μ) [.int (nI a), .int (nI b)] (PM g adr (.inl none) (fun μ' => μ' = μ)) := by
  refine CT.of (l0 := [some (.int (nI a)), some (.int (nI b))]) (by decide +kernel) rfl (Nat.le_of_ble_eq_true rfl) rfl ?_
  refine J.il0 dX7_needIndex_0 ?_
  refine J.il1 dX7_needIndex_1 ?_
  refine cl_X7_148 rfl (k' := 0) (n' := 0) (isIndexT hab₉ hb₉) ⟨⟨by decide, by decide⟩, ⟨rfl, rfl⟩, by decide, by decide⟩ rfl dX7_needIndex_2 (fun μ9 h9₉ => ?_)
  rw [h9₉]; clear h9₉
  refine J.if_neN (tgt := 19) dX7_needIndex_5 (by decide) (by omega) (fun c5₉ => ?_) (fun c5₉ => absurd c5₉ (by first | omega | (simp only [not_true_eq_false, not_false_eq_true]; done) | (simp; done)))
  refine J.vret rfl (by decide) (by decide) dX7_needIndex_19 ⟨_, rfl, ?_, ?_⟩
  · rfl
  · rfl

set_option maxRecDepth 100000 in
set_option maxHeartbeats 4000000 in
theorem c_needIndexX {g : GP} {adr : Nat → Nat} (μ : Mem) {x : Int32} {b : Nat} (hx₉ : ¬ (0 ≤ x ∧ x < nI b)) (hb₉ : b < 2147483648) : CT g yX7_needIndex mX7_needIndex (RM 1 1 6) (WM g adr μ) [.int x, .int (nI b)] (PM g adr (.inr "java/lang/IndexOutOfBoundsException") (fun μ' => μ' = μ)) := by
  refine CT.of (l0 := [some (.int x), some (.int (nI b))]) (by decide +kernel) rfl (Nat.le_of_ble_eq_true rfl) rfl ?_
  refine J.il0 dX7_needIndex_0 ?_
  refine J.il1 dX7_needIndex_1 ?_
  have hxx₉ := c_isIndexI (g := g) (adr := adr) μ (x := x) (b := b) hb₉
  rw [if_neg hx₉] at hxx₉
  refine cl_X7_148 rfl (k' := 0) (n' := 0) (hxx₉) ⟨⟨by decide, by decide⟩, ⟨rfl, rfl⟩, by decide, by decide⟩ rfl dX7_needIndex_2 (fun μ9 h9₉ => ?_)
  rw [h9₉]; clear h9₉
  refine J.if_neN (tgt := 19) dX7_needIndex_5 (by decide) (by omega) (fun c5₉ => absurd c5₉ (by first | omega | (simp only [not_true_eq_false, not_false_eq_true]; done) | (simp; done))) (fun c5₉ => ?_)
  refine J.throwSW (E := "java/lang/IndexOutOfBoundsException") (tx := "there is no such place") (names := ["java/lang/RuntimeException", "java/lang/Exception"]) (by decide +kernel) (by decide +kernel) t_229 t_12 rfl (by decide +kernel) (fun p ln s m args meth c C9 => C9.at at_162) ao_162 dX7_needIndex_8 dX7_needIndex_11 dX7_needIndex_12 dX7_needIndex_15 dX7_needIndex_18 rfl rfl (by decide) (by decide) (by decide) (by decide) ⟨_, rfl, rfl, ?_⟩
  exact rfl

set_option maxRecDepth 100000 in
set_option maxHeartbeats 4000000 in
theorem c_needRingOk {g : GP} {adr : Nat → Nat} (μ : Mem) {a : Nat} (ha₉ : a < 4) : CT g yX7_needRing mX7_needRing (RM 2 0 0) (WM g adr μ) [.int (nI a)] (PM g adr (.inl none) (fun μ' => μ' = μ)) := by
  refine CT.of (l0 := [some (.int (nI a))]) (by decide +kernel) rfl (Nat.le_of_ble_eq_true rfl) rfl ?_
  refine J.il0 dX7_needRing_0 ?_
  refine J.iconst dX7_needRing_1 kI_4 ?_
  refine cl_X7_89 rfl (k' := 0) (n' := 0) (c_needIndexOk _ ha₉ (by decide)) ⟨⟨by decide, by decide⟩, ⟨rfl, rfl⟩, by decide, by decide⟩ rfl dX7_needRing_2 (fun μ9 h9₉ => ?_)
  rw [h9₉]; clear h9₉
  refine J.vret rfl (by decide) (by decide) dX7_needRing_5 ⟨_, rfl, ?_, ?_⟩
  · rfl
  · rfl

set_option maxRecDepth 100000 in
set_option maxHeartbeats 4000000 in
theorem c_needRingX {g : GP} {adr : Nat → Nat} (μ : Mem) {x : Int32} (hx₉ : ¬ (0 ≤ x ∧ x < nI 4)) : CT g yX7_needRing mX7_needRing (RM 2 1 6) (WM g adr μ) [.int x] (PM g adr (.inr "java/lang/IndexOutOfBoundsException") (fun μ' => μ' = μ)) := by
  refine CT.of (l0 := [some (.int x)]) (by decide +kernel) rfl (Nat.le_of_ble_eq_true rfl) rfl ?_
  refine J.il0 dX7_needRing_0 ?_
  refine J.iconst dX7_needRing_1 kI_4 ?_
  refine cx_X7_89 rfl (k' := 1) (n' := 6) (c_needIndexX _ hx₉ (by decide)) ⟨⟨by decide, by decide⟩, ⟨rfl, rfl⟩, by decide, by decide⟩ rfl dX7_needRing_2 (fun μ9 h9₉ => ?_)
  exact JX.out ⟨_, rfl, rfl, h9₉⟩ rfl rfl (by decide) (by decide)

set_option maxRecDepth 100000 in
set_option maxHeartbeats 4000000 in
theorem c_needSlotOk {g : GP} {adr : Nat → Nat} (μ : Mem) {a : Nat} (ha₉ : a < 32) : CT g yX7_needSlot mX7_needSlot (RM 2 0 0) (WM g adr μ) [.int (nI a)] (PM g adr (.inl none) (fun μ' => μ' = μ)) := by
  refine CT.of (l0 := [some (.int (nI a))]) (by decide +kernel) rfl (Nat.le_of_ble_eq_true rfl) rfl ?_
  refine J.il0 dX7_needSlot_0 ?_
  refine J.bipush dX7_needSlot_1 kb_32 ?_
  refine cl_X7_89 rfl (k' := 0) (n' := 0) (c_needIndexOk _ ha₉ (by decide)) ⟨⟨by decide, by decide⟩, ⟨rfl, rfl⟩, by decide, by decide⟩ rfl dX7_needSlot_3 (fun μ9 h9₉ => ?_)
  rw [h9₉]; clear h9₉
  refine J.vret rfl (by decide) (by decide) dX7_needSlot_6 ⟨_, rfl, ?_, ?_⟩
  · rfl
  · rfl

set_option maxRecDepth 100000 in
set_option maxHeartbeats 4000000 in
theorem c_needSlotX {g : GP} {adr : Nat → Nat} (μ : Mem) {x : Int32} (hx₉ : ¬ (0 ≤ x ∧ x < nI 32)) : CT g yX7_needSlot mX7_needSlot (RM 2 1 6) (WM g adr μ) [.int x] (PM g adr (.inr "java/lang/IndexOutOfBoundsException") (fun μ' => μ' = μ)) := by
  refine CT.of (l0 := [some (.int x)]) (by decide +kernel) rfl (Nat.le_of_ble_eq_true rfl) rfl ?_
  refine J.il0 dX7_needSlot_0 ?_
  refine J.bipush dX7_needSlot_1 kb_32 ?_
  refine cx_X7_89 rfl (k' := 1) (n' := 6) (c_needIndexX _ hx₉ (by decide)) ⟨⟨by decide, by decide⟩, ⟨rfl, rfl⟩, by decide, by decide⟩ rfl dX7_needSlot_3 (fun μ9 h9₉ => ?_)
  exact JX.out ⟨_, rfl, rfl, h9₉⟩ rfl rfl (by decide) (by decide)

set_option maxRecDepth 100000 in
set_option maxHeartbeats 4000000 in
theorem c_needShelfOk {g : GP} {adr : Nat → Nat} (μ : Mem) {a : Nat} (ha₉ : a < 5) : CT g yX7_needShelf mX7_needShelf (RM 2 0 0) (WM g adr μ) [.int (nI a)] (PM g adr (.inl none) (fun μ' => μ' = μ)) := by
  refine CT.of (l0 := [some (.int (nI a))]) (by decide +kernel) rfl (Nat.le_of_ble_eq_true rfl) rfl ?_
  refine J.il0 dX7_needShelf_0 ?_
  refine J.iconst dX7_needShelf_1 kI_5 ?_
  refine cl_X7_89 rfl (k' := 0) (n' := 0) (c_needIndexOk _ ha₉ (by decide)) ⟨⟨by decide, by decide⟩, ⟨rfl, rfl⟩, by decide, by decide⟩ rfl dX7_needShelf_2 (fun μ9 h9₉ => ?_)
  rw [h9₉]; clear h9₉
  refine J.vret rfl (by decide) (by decide) dX7_needShelf_5 ⟨_, rfl, ?_, ?_⟩
  · rfl
  · rfl

set_option maxRecDepth 100000 in
set_option maxHeartbeats 4000000 in
theorem c_needShelfX {g : GP} {adr : Nat → Nat} (μ : Mem) {x : Int32} (hx₉ : ¬ (0 ≤ x ∧ x < nI 5)) : CT g yX7_needShelf mX7_needShelf (RM 2 1 6) (WM g adr μ) [.int x] (PM g adr (.inr "java/lang/IndexOutOfBoundsException") (fun μ' => μ' = μ)) := by
  refine CT.of (l0 := [some (.int x)]) (by decide +kernel) rfl (Nat.le_of_ble_eq_true rfl) rfl ?_
  refine J.il0 dX7_needShelf_0 ?_
  refine J.iconst dX7_needShelf_1 kI_5 ?_
  refine cx_X7_89 rfl (k' := 1) (n' := 6) (c_needIndexX _ hx₉ (by decide)) ⟨⟨by decide, by decide⟩, ⟨rfl, rfl⟩, by decide, by decide⟩ rfl dX7_needShelf_2 (fun μ9 h9₉ => ?_)
  exact JX.out ⟨_, rfl, rfl, h9₉⟩ rfl rfl (by decide) (by decide)
