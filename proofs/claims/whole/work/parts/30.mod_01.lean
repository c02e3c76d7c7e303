/-! ===== printed: the model: its helpers ===== -/
set_option maxRecDepth 100000 in
set_option maxHeartbeats 4000000 in
theorem c_in {g : GP} {adr : Nat → Nat} (μ : Mem) {x a b : Int32} : CT g yX8_in mX8_in (RM 0 0 0) (WM g adr μ) [.int x, .int a, .int b] (PM g adr ((.inl (some (.int (if (a ≤ x ∧ x ≤ b) then nI 1 else nI 0))))) (fun μ' => μ' = μ)) := by
  refine CT.of (l0 := [some (.int x), some (.int a), some (.int b)]) (by decide +kernel) rfl (Nat.le_of_ble_eq_true rfl) rfl ?_
  refine J.il0 dX8_in_0 ?_
  refine J.il1 dX8_in_1 ?_
  refine J.icmp_lt (tgt := 14) dX8_in_2 (by decide) (fun c2₉ => ?_) (fun c2₉ => ?_)
  · refine J.iconst dX8_in_14 kI_0 ?_
    refine J.zret (ty := .boolean) rfl (by decide) (by decide) (by decide) dX8_in_15 ⟨_, rfl, ?_, ?_⟩
    · rw [if_neg (by first | exact fun q => absurd q.1 (Int32.not_le.mpr c2₉) | exact fun q => absurd q.2 (Int32.not_le.mpr c7₉))]
    · rfl
  · refine J.il0 dX8_in_5 ?_
    refine J.il2 dX8_in_6 ?_
    refine J.icmp_gt (tgt := 14) dX8_in_7 (by decide) (fun c7₉ => ?_) (fun c7₉ => ?_)
    · refine J.iconst dX8_in_14 kI_0 ?_
      refine J.zret (ty := .boolean) rfl (by decide) (by decide) (by decide) dX8_in_15 ⟨_, rfl, ?_, ?_⟩
      · rw [if_neg (by first | exact fun q => absurd q.1 (Int32.not_le.mpr c2₉) | exact fun q => absurd q.2 (Int32.not_le.mpr c7₉))]
      · rfl
    · refine J.iconst dX8_in_10 kI_1 ?_
      refine J.goto (tgt := 15) dX8_in_11 (by decide) ?_
      refine J.zret (ty := .boolean) rfl (by decide) (by decide) (by decide) dX8_in_15 ⟨_, rfl, ?_, ?_⟩
      · rw [if_pos ⟨Int32.not_lt.mp c2₉, Int32.not_lt.mp c7₉⟩]
      · rfl

theorem inT {g : GP} {adr : Nat → Nat} (μ : Mem) {a lo hi₉ : Nat} (h1₉ : lo ≤ a) (h2₉ : a ≤ hi₉) (h3₉ : hi₉ < 2147483648) : CT g yX8_in mX8_in (RM 0 0 0) (WM g adr μ) [.int (nI a), .int (nI lo), .int (nI hi₉)] (PM g adr (.inl (some (.int (nI 1)))) (fun μ' => μ' = μ)) := by
  have h := c_in (g := g) (adr := adr) μ (x := nI a) (a := nI lo) (b := nI hi₉)
  rw [if_pos ⟨(nI_leI (by omega) (by omega)).mpr h1₉, (nI_leI (by omega) (by omega)).mpr h2₉⟩] at h
  exact h
theorem inF {g : GP} {adr : Nat → Nat} (μ : Mem) {x a b : Int32} (q : ¬ (a ≤ x ∧ x ≤ b)) : CT g yX8_in mX8_in (RM 0 0 0) (WM g adr μ) [.int x, .int a, .int b] (PM g adr (.inl (some (.int (nI 0)))) (fun μ' => μ' = μ)) := by
  have h := c_in (g := g) (adr := adr) μ (x := x) (a := a) (b := b)
  rw [if_neg q] at h
  exact h

set_option maxRecDepth 100000 in
set_option maxHeartbeats 4000000 in
theorem c_m_isSlotT {g : GP} {adr : Nat → Nat} (μ : Mem) {a : Nat} (ha₉ : a < 32) : CT g yX8_isSlot mX8_isSlot (RM 1 0 0) (WM g adr μ) [.int (nI a)] (PM g adr ((.inl (some (.int (nI 1))))) (fun μ' => μ' = μ)) := by
  refine CT.of (l0 := [some (.int (nI a))]) (by decide +kernel) rfl (Nat.le_of_ble_eq_true rfl) rfl ?_
  refine J.il0 dX8_isSlot_0 ?_
  refine J.iconst dX8_isSlot_1 kI_0 ?_
  refine J.bipush dX8_isSlot_2 kb_31 ?_
  refine cl_X8_93 rfl (k' := 0) (n' := 0) (inT _ (by omega) (by omega) (by decide)) ⟨⟨by decide, by decide⟩, ⟨rfl, rfl⟩, by decide, by decide⟩ rfl dX8_isSlot_4 (fun μ9 h9₉ => ?_)
  rw [h9₉]; clear h9₉
  refine J.zret (ty := .boolean) rfl (by decide) (by decide) (by decide) dX8_isSlot_7 ⟨_, rfl, ?_, ?_⟩
  · rfl
  · rfl

set_option maxRecDepth 100000 in
set_option maxHeartbeats 4000000 in
theorem c_m_isSlotF {g : GP} {adr : Nat → Nat} (μ : Mem) {x : Int32} (hx₉ : ¬ (0 ≤ x ∧ x < nI 32)) : CT g yX8_isSlot mX8_isSlot (RM 1 0 0) (WM g adr μ) [.int x] (PM g adr ((.inl (some (.int (nI 0))))) (fun μ' => μ' = μ)) := by
  refine CT.of (l0 := [some (.int x)]) (by decide +kernel) rfl (Nat.le_of_ble_eq_true rfl) rfl ?_
  refine J.il0 dX8_isSlot_0 ?_
  refine J.iconst dX8_isSlot_1 kI_0 ?_
  refine J.bipush dX8_isSlot_2 kb_31 ?_
  refine cl_X8_93 rfl (k' := 0) (n' := 0) (inF _ (in_idx (by decide) hx₉)) ⟨⟨by decide, by decide⟩, ⟨rfl, rfl⟩, by decide, by decide⟩ rfl dX8_isSlot_4 (fun μ9 h9₉ => ?_)
  rw [h9₉]; clear h9₉
  refine J.zret (ty := .boolean) rfl (by decide) (by decide) (by decide) dX8_isSlot_7 ⟨_, rfl, ?_, ?_⟩
  · rfl
  · rfl

set_option maxRecDepth 100000 in
set_option maxHeartbeats 4000000 in
theorem c_m_isShelfT {g : GP} {adr : Nat → Nat} (μ : Mem) {a : Nat} (ha₉ : a < 5) : CT g yX8_isShelf mX8_isShelf (RM 1 0 0) (WM g adr μ) [.int (nI a)] (PM g adr ((.inl (some (.int (nI 1))))) (fun μ' => μ' = μ)) := by
  refine CT.of (l0 := [some (.int (nI a))]) (by decide +kernel) rfl (Nat.le_of_ble_eq_true rfl) rfl ?_
  refine J.il0 dX8_isShelf_0 ?_
  refine J.iconst dX8_isShelf_1 kI_0 ?_
  refine J.iconst dX8_isShelf_2 kI_4 ?_
  refine cl_X8_93 rfl (k' := 0) (n' := 0) (inT _ (by omega) (by omega) (by decide)) ⟨⟨by decide, by decide⟩, ⟨rfl, rfl⟩, by decide, by decide⟩ rfl dX8_isShelf_3 (fun μ9 h9₉ => ?_)
  rw [h9₉]; clear h9₉
  refine J.zret (ty := .boolean) rfl (by decide) (by decide) (by decide) dX8_isShelf_6 ⟨_, rfl, ?_, ?_⟩
  · rfl
  · rfl

set_option maxRecDepth 100000 in
set_option maxHeartbeats 4000000 in
theorem c_m_isShelfF {g : GP} {adr : Nat → Nat} (μ : Mem) {x : Int32} (hx₉ : ¬ (0 ≤ x ∧ x < nI 5)) : CT g yX8_isShelf mX8_isShelf (RM 1 0 0) (WM g adr μ) [.int x] (PM g adr ((.inl (some (.int (nI 0))))) (fun μ' => μ' = μ)) := by
  refine CT.of (l0 := [some (.int x)]) (by decide +kernel) rfl (Nat.le_of_ble_eq_true rfl) rfl ?_
  refine J.il0 dX8_isShelf_0 ?_
  refine J.iconst dX8_isShelf_1 kI_0 ?_
  refine J.iconst dX8_isShelf_2 kI_4 ?_
  refine cl_X8_93 rfl (k' := 0) (n' := 0) (inF _ (in_idx (by decide) hx₉)) ⟨⟨by decide, by decide⟩, ⟨rfl, rfl⟩, by decide, by decide⟩ rfl dX8_isShelf_3 (fun μ9 h9₉ => ?_)
  rw [h9₉]; clear h9₉
  refine J.zret (ty := .boolean) rfl (by decide) (by decide) (by decide) dX8_isShelf_6 ⟨_, rfl, ?_, ?_⟩
  · rfl
  · rfl
