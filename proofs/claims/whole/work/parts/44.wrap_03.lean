/-! ===== printed: the law's wrappers ===== -/
set_option maxRecDepth 100000 in
theorem w_refusal {g : GP} {adr : Nat → Nat} {μ : Mem} {x1 : Int32} {v : Int32} {φ : Mem → Prop} (hC₉ : CT g yX7_refusal mX7_refusal (RM 20 1 6) (WM g adr μ) (.ref (adr 0) :: [.int x1]) (PM g adr (.inl (some (.int v))) φ)) : CW g yL_refusal mL_refusal (RM 21 1 6) (WM g adr μ) [.ref (adr 0), .int x1, .ref (adr 247)] (PM g adr (.inl (some (.int (nI 0)))) (fun μ' => ∃ μ1, φ μ1 ∧ μ' = wr μ1 247 0 v)) := by
  refine CW.of (l0 := [some (.ref (adr 0)), some (.int x1), some (.ref (adr 247)), none]) (by decide +kernel) rfl (Nat.le_of_ble_eq_true rfl) rfl ?_
  refine J.al2 dL_refusal_0 ?_
  refine J.iconst dL_refusal_1 kI_0 ?_
  refine J.al0 dL_refusal_2 ?_
  refine J.il1 dL_refusal_3 ?_
  refine cl_L_115 rfl (by decide) (k' := 1) (n' := 6) hC₉ ⟨⟨by decide, by decide⟩, ⟨rfl, rfl⟩, by decide, by decide⟩ rfl dL_refusal_4 (fun μ1 h1₉ => ?_)
  refine J.i2l dL_refusal_7 ?_
  refine J.last (x := v) (by decide) (by decide) rfl dL_refusal_8 ?_
  refine J.goto (tgt := 15) dL_refusal_9 (by decide) ?_
  refine J.iconst dL_refusal_15 kI_0 ?_
  exact J.iret rfl (by decide) (by decide) dL_refusal_16 ⟨_, rfl, rfl, _, h1₉, by first | rfl | rw [if_pos hP₉] | rw [if_neg hP₉]⟩

set_option maxRecDepth 100000 in
theorem wx_refusal1 {g : GP} {adr : Nat → Nat} {μ : Mem} {x1 : Int32} {φ : Mem → Prop} (hC₉ : CT g yX7_refusal mX7_refusal (RM 20 1 6) (WM g adr μ) (.ref (adr 0) :: [.int x1]) (PM g adr (.inr "java/util/NoSuchElementException") φ)) : CW g yL_refusal mL_refusal (RM 21 1 6) (WM g adr μ) [.ref (adr 0), .int x1, .ref (adr 247)] (PM g adr (.inl (some (.int (nI 1)))) (φ)) := by
  refine CW.of (l0 := [some (.ref (adr 0)), some (.int x1), some (.ref (adr 247)), none]) (by decide +kernel) rfl (Nat.le_of_ble_eq_true rfl) rfl ?_
  refine J.al2 dL_refusal_0 ?_
  refine J.iconst dL_refusal_1 kI_0 ?_
  refine J.al0 dL_refusal_2 ?_
  refine J.il1 dL_refusal_3 ?_
  refine cx_L_115 rfl (by decide) (k' := 1) (n' := 6) hC₉ ⟨⟨by decide, by decide⟩, ⟨rfl, rfl⟩, by decide, by decide⟩ rfl dL_refusal_4 (fun μ1 h1₉ => ?_)
  refine JX.catch (pre := []) (suf := []) (lo := 0) (hi := 9) (h := 12) (ct := 74) rfl rfl (fun z hz₉ => by cases hz₉) (by decide) (by decide) (by decide) t_747 nw_756 (fun q => ?_)
  refine J.as3 dL_refusal_12 (by decide) rfl ?_
  refine J.iconst dL_refusal_13 kI_1 ?_
  exact J.iret rfl (by decide) (by decide) dL_refusal_14 ⟨_, rfl, rfl, h1₉⟩

set_option maxRecDepth 100000 in
theorem w_account {g : GP} {adr : Nat → Nat} {μ : Mem} {x1 : Int32} {v : Int32} {φ : Mem → Prop} (hC₉ : CT g yX7_account mX7_account (RM 20 1 6) (WM g adr μ) (.ref (adr 0) :: [.int x1]) (PM g adr (.inl (some (.int v))) φ)) : CW g yL_account mL_account (RM 21 1 6) (WM g adr μ) [.ref (adr 0), .int x1, .ref (adr 247)] (PM g adr (.inl (some (.int (nI 0)))) (fun μ' => ∃ μ1, φ μ1 ∧ μ' = wr μ1 247 0 v)) := by
  refine CW.of (l0 := [some (.ref (adr 0)), some (.int x1), some (.ref (adr 247)), none]) (by decide +kernel) rfl (Nat.le_of_ble_eq_true rfl) rfl ?_
  refine J.al2 dL_account_0 ?_
  refine J.iconst dL_account_1 kI_0 ?_
  refine J.al0 dL_account_2 ?_
  refine J.il1 dL_account_3 ?_
  refine cl_L_119 rfl (by decide) (k' := 1) (n' := 6) hC₉ ⟨⟨by decide, by decide⟩, ⟨rfl, rfl⟩, by decide, by decide⟩ rfl dL_account_4 (fun μ1 h1₉ => ?_)
  refine J.i2l dL_account_7 ?_
  refine J.last (x := v) (by decide) (by decide) rfl dL_account_8 ?_
  refine J.goto (tgt := 15) dL_account_9 (by decide) ?_
  refine J.iconst dL_account_15 kI_0 ?_
  exact J.iret rfl (by decide) (by decide) dL_account_16 ⟨_, rfl, rfl, _, h1₉, by first | rfl | rw [if_pos hP₉] | rw [if_neg hP₉]⟩

set_option maxRecDepth 100000 in
theorem wx_account1 {g : GP} {adr : Nat → Nat} {μ : Mem} {x1 : Int32} {φ : Mem → Prop} (hC₉ : CT g yX7_account mX7_account (RM 20 1 6) (WM g adr μ) (.ref (adr 0) :: [.int x1]) (PM g adr (.inr "java/lang/IllegalArgumentException") φ)) : CW g yL_account mL_account (RM 21 1 6) (WM g adr μ) [.ref (adr 0), .int x1, .ref (adr 247)] (PM g adr (.inl (some (.int (nI 1)))) (φ)) := by
  refine CW.of (l0 := [some (.ref (adr 0)), some (.int x1), some (.ref (adr 247)), none]) (by decide +kernel) rfl (Nat.le_of_ble_eq_true rfl) rfl ?_
  refine J.al2 dL_account_0 ?_
  refine J.iconst dL_account_1 kI_0 ?_
  refine J.al0 dL_account_2 ?_
  refine J.il1 dL_account_3 ?_
  refine cx_L_119 rfl (by decide) (k' := 1) (n' := 6) hC₉ ⟨⟨by decide, by decide⟩, ⟨rfl, rfl⟩, by decide, by decide⟩ rfl dL_account_4 (fun μ1 h1₉ => ?_)
  refine JX.catch (pre := []) (suf := []) (lo := 0) (hi := 9) (h := 12) (ct := 15) rfl rfl (fun z hz₉ => by cases hz₉) (by decide) (by decide) (by decide) t_332 nw_418 (fun q => ?_)
  refine J.as3 dL_account_12 (by decide) rfl ?_
  refine J.iconst dL_account_13 kI_1 ?_
  exact J.iret rfl (by decide) (by decide) dL_account_14 ⟨_, rfl, rfl, h1₉⟩

set_option maxRecDepth 100000 in
theorem w_undo {g : GP} {adr : Nat → Nat} {μ : Mem} {v : Int32} {φ : Mem → Prop} (hC₉ : CT g yX7_undo mX7_undo (RM 20 1 6) (WM g adr μ) (.ref (adr 0) :: []) (PM g adr (.inl (some (.int v))) φ)) : CW g yL_undo mL_undo (RM 21 1 6) (WM g adr μ) [.ref (adr 0), .ref (adr 247)] (PM g adr (.inl (some (.int (nI 0)))) (fun μ' => ∃ μ1, φ μ1 ∧ μ' = wr μ1 247 0 v)) := by
  refine CW.of (l0 := [some (.ref (adr 0)), some (.ref (adr 247)), none]) (by decide +kernel) rfl (Nat.le_of_ble_eq_true rfl) rfl ?_
  refine J.al1 dL_undo_0 ?_
  refine J.iconst dL_undo_1 kI_0 ?_
  refine J.al0 dL_undo_2 ?_
  refine cl_L_122 rfl (by decide) (k' := 1) (n' := 6) hC₉ ⟨⟨by decide, by decide⟩, ⟨rfl, rfl⟩, by decide, by decide⟩ rfl dL_undo_3 (fun μ1 h1₉ => ?_)
  refine J.i2l dL_undo_6 ?_
  refine J.last (x := v) (by decide) (by decide) rfl dL_undo_7 ?_
  refine J.goto (tgt := 14) dL_undo_8 (by decide) ?_
  refine J.iconst dL_undo_14 kI_0 ?_
  exact J.iret rfl (by decide) (by decide) dL_undo_15 ⟨_, rfl, rfl, _, h1₉, by first | rfl | rw [if_pos hP₉] | rw [if_neg hP₉]⟩

set_option maxRecDepth 100000 in
theorem wx_undo1 {g : GP} {adr : Nat → Nat} {μ : Mem} {φ : Mem → Prop} (hC₉ : CT g yX7_undo mX7_undo (RM 20 1 6) (WM g adr μ) (.ref (adr 0) :: []) (PM g adr (.inr "java/lang/IllegalStateException") φ)) : CW g yL_undo mL_undo (RM 21 1 6) (WM g adr μ) [.ref (adr 0), .ref (adr 247)] (PM g adr (.inl (some (.int (nI 1)))) (φ)) := by
  refine CW.of (l0 := [some (.ref (adr 0)), some (.ref (adr 247)), none]) (by decide +kernel) rfl (Nat.le_of_ble_eq_true rfl) rfl ?_
  refine J.al1 dL_undo_0 ?_
  refine J.iconst dL_undo_1 kI_0 ?_
  refine J.al0 dL_undo_2 ?_
  refine cx_L_122 rfl (by decide) (k' := 1) (n' := 6) hC₉ ⟨⟨by decide, by decide⟩, ⟨rfl, rfl⟩, by decide, by decide⟩ rfl dL_undo_3 (fun μ1 h1₉ => ?_)
  refine JX.catch (pre := []) (suf := []) (lo := 0) (hi := 8) (h := 11) (ct := 107) rfl rfl (fun z hz₉ => by cases hz₉) (by decide) (by decide) (by decide) t_887 nw_892 (fun q => ?_)
  refine J.as2 dL_undo_11 (by decide) rfl ?_
  refine J.iconst dL_undo_12 kI_1 ?_
  exact J.iret rfl (by decide) (by decide) dL_undo_13 ⟨_, rfl, rfl, h1₉⟩

set_option maxRecDepth 100000 in
theorem w_restore {g : GP} {adr : Nat → Nat} {μ : Mem} {v : Int32} {φ : Mem → Prop} (hC₉ : CT g yX7_restore mX7_restore (RM 20 1 6) (WM g adr μ) (.ref (adr 0) :: []) (PM g adr (.inl (some (.int v))) φ)) : CW g yL_restore mL_restore (RM 21 1 6) (WM g adr μ) [.ref (adr 0), .ref (adr 247)] (PM g adr (.inl (some (.int (nI 0)))) (fun μ' => ∃ μ1, φ μ1 ∧ μ' = wr μ1 247 0 v)) := by
  refine CW.of (l0 := [some (.ref (adr 0)), some (.ref (adr 247)), none]) (by decide +kernel) rfl (Nat.le_of_ble_eq_true rfl) rfl ?_
  refine J.al1 dL_restore_0 ?_
  refine J.iconst dL_restore_1 kI_0 ?_
  refine J.al0 dL_restore_2 ?_
  refine cl_L_125 rfl (by decide) (k' := 1) (n' := 6) hC₉ ⟨⟨by decide, by decide⟩, ⟨rfl, rfl⟩, by decide, by decide⟩ rfl dL_restore_3 (fun μ1 h1₉ => ?_)
  refine J.i2l dL_restore_6 ?_
  refine J.last (x := v) (by decide) (by decide) rfl dL_restore_7 ?_
  refine J.goto (tgt := 14) dL_restore_8 (by decide) ?_
  refine J.iconst dL_restore_14 kI_0 ?_
  exact J.iret rfl (by decide) (by decide) dL_restore_15 ⟨_, rfl, rfl, _, h1₉, by first | rfl | rw [if_pos hP₉] | rw [if_neg hP₉]⟩

set_option maxRecDepth 100000 in
theorem wx_restore1 {g : GP} {adr : Nat → Nat} {μ : Mem} {φ : Mem → Prop} (hC₉ : CT g yX7_restore mX7_restore (RM 20 1 6) (WM g adr μ) (.ref (adr 0) :: []) (PM g adr (.inr "java/lang/IllegalStateException") φ)) : CW g yL_restore mL_restore (RM 21 1 6) (WM g adr μ) [.ref (adr 0), .ref (adr 247)] (PM g adr (.inl (some (.int (nI 1)))) (φ)) := by
  refine CW.of (l0 := [some (.ref (adr 0)), some (.ref (adr 247)), none]) (by decide +kernel) rfl (Nat.le_of_ble_eq_true rfl) rfl ?_
  refine J.al1 dL_restore_0 ?_
  refine J.iconst dL_restore_1 kI_0 ?_
  refine J.al0 dL_restore_2 ?_
  refine cx_L_125 rfl (by decide) (k' := 1) (n' := 6) hC₉ ⟨⟨by decide, by decide⟩, ⟨rfl, rfl⟩, by decide, by decide⟩ rfl dL_restore_3 (fun μ1 h1₉ => ?_)
  refine JX.catch (pre := []) (suf := []) (lo := 0) (hi := 8) (h := 11) (ct := 107) rfl rfl (fun z hz₉ => by cases hz₉) (by decide) (by decide) (by decide) t_887 nw_892 (fun q => ?_)
  refine J.as2 dL_restore_11 (by decide) rfl ?_
  refine J.iconst dL_restore_12 kI_1 ?_
  exact J.iret rfl (by decide) (by decide) dL_restore_13 ⟨_, rfl, rfl, h1₉⟩
