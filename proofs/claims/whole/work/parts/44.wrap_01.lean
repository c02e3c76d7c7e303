/-! ===== printed: the law's wrappers ===== -/
set_option maxRecDepth 100000 in
theorem w_turn {g : GP} {adr : Nat → Nat} {μ : Mem} {x1 x2 : Int32} {v : Int32} {φ : Mem → Prop} (hC₉ : CT g yX7_turn mX7_turn (RM 20 1 6) (WM g adr μ) (.ref (adr 0) :: [.int x1, .int x2]) (PM g adr (.inl (some (.int v))) φ)) : CW g yL_turn mL_turn (RM 21 1 6) (WM g adr μ) [.ref (adr 0), .int x1, .int x2, .ref (adr 247)] (PM g adr (.inl (some (.int (nI 0)))) (fun μ' => ∃ μ1, φ μ1 ∧ μ' = wr μ1 247 0 v)) := by
  refine CW.of (l0 := [some (.ref (adr 0)), some (.int x1), some (.int x2), some (.ref (adr 247)), none]) (by decide +kernel) rfl (Nat.le_of_ble_eq_true rfl) rfl ?_
  refine J.al3 dL_turn_0 ?_
  refine J.iconst dL_turn_1 kI_0 ?_
  refine J.al0 dL_turn_2 ?_
  refine J.il1 dL_turn_3 ?_
  refine J.il2 dL_turn_4 ?_
  refine cl_L_7 rfl (by decide) (k' := 1) (n' := 6) hC₉ ⟨⟨by decide, by decide⟩, ⟨rfl, rfl⟩, by decide, by decide⟩ rfl dL_turn_5 (fun μ1 h1₉ => ?_)
  refine J.i2l dL_turn_8 ?_
  refine J.last (x := v) (by decide) (by decide) rfl dL_turn_9 ?_
  refine J.goto (tgt := 21) dL_turn_10 (by decide) ?_
  refine J.iconst dL_turn_21 kI_0 ?_
  exact J.iret rfl (by decide) (by decide) dL_turn_22 ⟨_, rfl, rfl, _, h1₉, by first | rfl | rw [if_pos hP₉] | rw [if_neg hP₉]⟩

set_option maxRecDepth 100000 in
theorem wx_turn1 {g : GP} {adr : Nat → Nat} {μ : Mem} {x1 x2 : Int32} {φ : Mem → Prop} (hC₉ : CT g yX7_turn mX7_turn (RM 20 1 6) (WM g adr μ) (.ref (adr 0) :: [.int x1, .int x2]) (PM g adr (.inr "java/lang/IndexOutOfBoundsException") φ)) : CW g yL_turn mL_turn (RM 21 1 6) (WM g adr μ) [.ref (adr 0), .int x1, .int x2, .ref (adr 247)] (PM g adr (.inl (some (.int (nI 1)))) (φ)) := by
  refine CW.of (l0 := [some (.ref (adr 0)), some (.int x1), some (.int x2), some (.ref (adr 247)), none]) (by decide +kernel) rfl (Nat.le_of_ble_eq_true rfl) rfl ?_
  refine J.al3 dL_turn_0 ?_
  refine J.iconst dL_turn_1 kI_0 ?_
  refine J.al0 dL_turn_2 ?_
  refine J.il1 dL_turn_3 ?_
  refine J.il2 dL_turn_4 ?_
  refine cx_L_7 rfl (by decide) (k' := 1) (n' := 6) hC₉ ⟨⟨by decide, by decide⟩, ⟨rfl, rfl⟩, by decide, by decide⟩ rfl dL_turn_5 (fun μ1 h1₉ => ?_)
  refine JX.catch (pre := []) (suf := [(0, 10, 17, 15)]) (lo := 0) (hi := 10) (h := 13) (ct := 13) rfl rfl (fun z hz₉ => by cases hz₉) (by decide) (by decide) (by decide) t_331 nw_345 (fun q => ?_)
  refine J.as4 dL_turn_13 (by decide) rfl ?_
  refine J.iconst dL_turn_15 kI_1 ?_
  exact J.iret rfl (by decide) (by decide) dL_turn_16 ⟨_, rfl, rfl, h1₉⟩

set_option maxRecDepth 100000 in
theorem wx_turn2 {g : GP} {adr : Nat → Nat} {μ : Mem} {x1 x2 : Int32} {φ : Mem → Prop} (hC₉ : CT g yX7_turn mX7_turn (RM 20 1 6) (WM g adr μ) (.ref (adr 0) :: [.int x1, .int x2]) (PM g adr (.inr "java/lang/IllegalArgumentException") φ)) : CW g yL_turn mL_turn (RM 21 1 6) (WM g adr μ) [.ref (adr 0), .int x1, .int x2, .ref (adr 247)] (PM g adr (.inl (some (.int (nI 2)))) (φ)) := by
  refine CW.of (l0 := [some (.ref (adr 0)), some (.int x1), some (.int x2), some (.ref (adr 247)), none]) (by decide +kernel) rfl (Nat.le_of_ble_eq_true rfl) rfl ?_
  refine J.al3 dL_turn_0 ?_
  refine J.iconst dL_turn_1 kI_0 ?_
  refine J.al0 dL_turn_2 ?_
  refine J.il1 dL_turn_3 ?_
  refine J.il2 dL_turn_4 ?_
  refine cx_L_7 rfl (by decide) (k' := 1) (n' := 6) hC₉ ⟨⟨by decide, by decide⟩, ⟨rfl, rfl⟩, by decide, by decide⟩ rfl dL_turn_5 (fun μ1 h1₉ => ?_)
  refine JX.catch (pre := [(0, 10, 13, 13)]) (suf := []) (lo := 0) (hi := 10) (h := 17) (ct := 15) rfl rfl (List.forall_mem_cons.mpr ⟨⟨by decide, _, t_331, by decide, by decide⟩, (fun z hz₉ => by cases hz₉)⟩) (by decide) (by decide) (by decide) t_332 nw_418 (fun q => ?_)
  refine J.as4 dL_turn_17 (by decide) rfl ?_
  refine J.iconst dL_turn_19 kI_2 ?_
  exact J.iret rfl (by decide) (by decide) dL_turn_20 ⟨_, rfl, rfl, h1₉⟩

set_option maxRecDepth 100000 in
theorem w_shift {g : GP} {adr : Nat → Nat} {μ : Mem} {x1 x2 : Int32} {v : Int32} {φ : Mem → Prop} (hC₉ : CT g yX7_shift mX7_shift (RM 20 1 6) (WM g adr μ) (.ref (adr 0) :: [.int x1, .int x2]) (PM g adr (.inl (some (.int v))) φ)) : CW g yL_shift mL_shift (RM 21 1 6) (WM g adr μ) [.ref (adr 0), .int x1, .int x2, .ref (adr 247)] (PM g adr (.inl (some (.int (nI 0)))) (fun μ' => ∃ μ1, φ μ1 ∧ μ' = wr μ1 247 0 v)) := by
  refine CW.of (l0 := [some (.ref (adr 0)), some (.int x1), some (.int x2), some (.ref (adr 247)), none]) (by decide +kernel) rfl (Nat.le_of_ble_eq_true rfl) rfl ?_
  refine J.al3 dL_shift_0 ?_
  refine J.iconst dL_shift_1 kI_0 ?_
  refine J.al0 dL_shift_2 ?_
  refine J.il1 dL_shift_3 ?_
  refine J.il2 dL_shift_4 ?_
  refine cl_L_17 rfl (by decide) (k' := 1) (n' := 6) hC₉ ⟨⟨by decide, by decide⟩, ⟨rfl, rfl⟩, by decide, by decide⟩ rfl dL_shift_5 (fun μ1 h1₉ => ?_)
  refine J.i2l dL_shift_8 ?_
  refine J.last (x := v) (by decide) (by decide) rfl dL_shift_9 ?_
  refine J.goto (tgt := 21) dL_shift_10 (by decide) ?_
  refine J.iconst dL_shift_21 kI_0 ?_
  exact J.iret rfl (by decide) (by decide) dL_shift_22 ⟨_, rfl, rfl, _, h1₉, by first | rfl | rw [if_pos hP₉] | rw [if_neg hP₉]⟩

set_option maxRecDepth 100000 in
theorem wx_shift1 {g : GP} {adr : Nat → Nat} {μ : Mem} {x1 x2 : Int32} {φ : Mem → Prop} (hC₉ : CT g yX7_shift mX7_shift (RM 20 1 6) (WM g adr μ) (.ref (adr 0) :: [.int x1, .int x2]) (PM g adr (.inr "java/lang/IndexOutOfBoundsException") φ)) : CW g yL_shift mL_shift (RM 21 1 6) (WM g adr μ) [.ref (adr 0), .int x1, .int x2, .ref (adr 247)] (PM g adr (.inl (some (.int (nI 1)))) (φ)) := by
  refine CW.of (l0 := [some (.ref (adr 0)), some (.int x1), some (.int x2), some (.ref (adr 247)), none]) (by decide +kernel) rfl (Nat.le_of_ble_eq_true rfl) rfl ?_
  refine J.al3 dL_shift_0 ?_
  refine J.iconst dL_shift_1 kI_0 ?_
  refine J.al0 dL_shift_2 ?_
  refine J.il1 dL_shift_3 ?_
  refine J.il2 dL_shift_4 ?_
  refine cx_L_17 rfl (by decide) (k' := 1) (n' := 6) hC₉ ⟨⟨by decide, by decide⟩, ⟨rfl, rfl⟩, by decide, by decide⟩ rfl dL_shift_5 (fun μ1 h1₉ => ?_)
  refine JX.catch (pre := []) (suf := [(0, 10, 17, 15)]) (lo := 0) (hi := 10) (h := 13) (ct := 13) rfl rfl (fun z hz₉ => by cases hz₉) (by decide) (by decide) (by decide) t_331 nw_345 (fun q => ?_)
  refine J.as4 dL_shift_13 (by decide) rfl ?_
  refine J.iconst dL_shift_15 kI_1 ?_
  exact J.iret rfl (by decide) (by decide) dL_shift_16 ⟨_, rfl, rfl, h1₉⟩

set_option maxRecDepth 100000 in
theorem wx_shift2 {g : GP} {adr : Nat → Nat} {μ : Mem} {x1 x2 : Int32} {φ : Mem → Prop} (hC₉ : CT g yX7_shift mX7_shift (RM 20 1 6) (WM g adr μ) (.ref (adr 0) :: [.int x1, .int x2]) (PM g adr (.inr "java/lang/IllegalArgumentException") φ)) : CW g yL_shift mL_shift (RM 21 1 6) (WM g adr μ) [.ref (adr 0), .int x1, .int x2, .ref (adr 247)] (PM g adr (.inl (some (.int (nI 2)))) (φ)) := by
  refine CW.of (l0 := [some (.ref (adr 0)), some (.int x1), some (.int x2), some (.ref (adr 247)), none]) (by decide +kernel) rfl (Nat.le_of_ble_eq_true rfl) rfl ?_
  refine J.al3 dL_shift_0 ?_
  refine J.iconst dL_shift_1 kI_0 ?_
  refine J.al0 dL_shift_2 ?_
  refine J.il1 dL_shift_3 ?_
  refine J.il2 dL_shift_4 ?_
  refine cx_L_17 rfl (by decide) (k' := 1) (n' := 6) hC₉ ⟨⟨by decide, by decide⟩, ⟨rfl, rfl⟩, by decide, by decide⟩ rfl dL_shift_5 (fun μ1 h1₉ => ?_)
  refine JX.catch (pre := [(0, 10, 13, 13)]) (suf := []) (lo := 0) (hi := 10) (h := 17) (ct := 15) rfl rfl (List.forall_mem_cons.mpr ⟨⟨by decide, _, t_331, by decide, by decide⟩, (fun z hz₉ => by cases hz₉)⟩) (by decide) (by decide) (by decide) t_332 nw_418 (fun q => ?_)
  refine J.as4 dL_shift_17 (by decide) rfl ?_
  refine J.iconst dL_shift_19 kI_2 ?_
  exact J.iret rfl (by decide) (by decide) dL_shift_20 ⟨_, rfl, rfl, h1₉⟩

set_option maxRecDepth 100000 in
theorem w_back {g : GP} {adr : Nat → Nat} {μ : Mem} {v : Int32} {φ : Mem → Prop} (hC₉ : CT g yX7_back mX7_back (RM 20 1 6) (WM g adr μ) (.ref (adr 0) :: []) (PM g adr (.inl (some (.int v))) φ)) : CW g yL_back mL_back (RM 21 1 6) (WM g adr μ) [.ref (adr 0), .ref (adr 247)] (PM g adr (.inl (some (.int (nI 0)))) (fun μ' => ∃ μ1, φ μ1 ∧ μ' = wr μ1 247 0 v)) := by
  refine CW.of (l0 := [some (.ref (adr 0)), some (.ref (adr 247)), none]) (by decide +kernel) rfl (Nat.le_of_ble_eq_true rfl) rfl ?_
  refine J.al1 dL_back_0 ?_
  refine J.iconst dL_back_1 kI_0 ?_
  refine J.al0 dL_back_2 ?_
  refine cl_L_20 rfl (by decide) (k' := 1) (n' := 6) hC₉ ⟨⟨by decide, by decide⟩, ⟨rfl, rfl⟩, by decide, by decide⟩ rfl dL_back_3 (fun μ1 h1₉ => ?_)
  refine J.i2l dL_back_6 ?_
  refine J.last (x := v) (by decide) (by decide) rfl dL_back_7 ?_
  refine J.goto (tgt := 14) dL_back_8 (by decide) ?_
  refine J.iconst dL_back_14 kI_0 ?_
  exact J.iret rfl (by decide) (by decide) dL_back_15 ⟨_, rfl, rfl, _, h1₉, by first | rfl | rw [if_pos hP₉] | rw [if_neg hP₉]⟩

set_option maxRecDepth 100000 in
theorem wx_back1 {g : GP} {adr : Nat → Nat} {μ : Mem} {φ : Mem → Prop} (hC₉ : CT g yX7_back mX7_back (RM 20 1 6) (WM g adr μ) (.ref (adr 0) :: []) (PM g adr (.inr "java/lang/UnsupportedOperationException") φ)) : CW g yL_back mL_back (RM 21 1 6) (WM g adr μ) [.ref (adr 0), .ref (adr 247)] (PM g adr (.inl (some (.int (nI 1)))) (φ)) := by
  refine CW.of (l0 := [some (.ref (adr 0)), some (.ref (adr 247)), none]) (by decide +kernel) rfl (Nat.le_of_ble_eq_true rfl) rfl ?_
  refine J.al1 dL_back_0 ?_
  refine J.iconst dL_back_1 kI_0 ?_
  refine J.al0 dL_back_2 ?_
  refine cx_L_20 rfl (by decide) (k' := 1) (n' := 6) hC₉ ⟨⟨by decide, by decide⟩, ⟨rfl, rfl⟩, by decide, by decide⟩ rfl dL_back_3 (fun μ1 h1₉ => ?_)
  refine JX.catch (pre := []) (suf := []) (lo := 0) (hi := 8) (h := 11) (ct := 24) rfl rfl (fun z hz₉ => by cases hz₉) (by decide) (by decide) (by decide) t_482 nw_491 (fun q => ?_)
  refine J.as2 dL_back_11 (by decide) rfl ?_
  refine J.iconst dL_back_12 kI_1 ?_
  exact J.iret rfl (by decide) (by decide) dL_back_13 ⟨_, rfl, rfl, h1₉⟩

set_option maxRecDepth 100000 in
theorem w_scramble {g : GP} {adr : Nat → Nat} {μ : Mem} {x1 x2 : Int32} {v : Int32} {φ : Mem → Prop} (hC₉ : CT g yX7_scramble mX7_scramble (RM 20 1 6) (WM g adr μ) (.ref (adr 0) :: [.int x1, .int x2]) (PM g adr (.inl (some (.int v))) φ)) : CW g yL_scramble mL_scramble (RM 21 1 6) (WM g adr μ) [.ref (adr 0), .int x1, .int x2, .ref (adr 247)] (PM g adr (.inl (some (.int (nI 0)))) (fun μ' => ∃ μ1, φ μ1 ∧ μ' = wr μ1 247 0 v)) := by
  refine CW.of (l0 := [some (.ref (adr 0)), some (.int x1), some (.int x2), some (.ref (adr 247)), none]) (by decide +kernel) rfl (Nat.le_of_ble_eq_true rfl) rfl ?_
  refine J.al3 dL_scramble_0 ?_
  refine J.iconst dL_scramble_1 kI_0 ?_
  refine J.al0 dL_scramble_2 ?_
  refine J.il1 dL_scramble_3 ?_
  refine J.il2 dL_scramble_4 ?_
  refine cl_L_26 rfl (by decide) (k' := 1) (n' := 6) hC₉ ⟨⟨by decide, by decide⟩, ⟨rfl, rfl⟩, by decide, by decide⟩ rfl dL_scramble_5 (fun μ1 h1₉ => ?_)
  refine J.i2l dL_scramble_8 ?_
  refine J.last (x := v) (by decide) (by decide) rfl dL_scramble_9 ?_
  refine J.goto (tgt := 17) dL_scramble_10 (by decide) ?_
  refine J.iconst dL_scramble_17 kI_0 ?_
  exact J.iret rfl (by decide) (by decide) dL_scramble_18 ⟨_, rfl, rfl, _, h1₉, by first | rfl | rw [if_pos hP₉] | rw [if_neg hP₉]⟩

set_option maxRecDepth 100000 in
theorem wx_scramble1 {g : GP} {adr : Nat → Nat} {μ : Mem} {x1 x2 : Int32} {φ : Mem → Prop} (hC₉ : CT g yX7_scramble mX7_scramble (RM 20 1 6) (WM g adr μ) (.ref (adr 0) :: [.int x1, .int x2]) (PM g adr (.inr "java/lang/IllegalArgumentException") φ)) : CW g yL_scramble mL_scramble (RM 21 1 6) (WM g adr μ) [.ref (adr 0), .int x1, .int x2, .ref (adr 247)] (PM g adr (.inl (some (.int (nI 1)))) (φ)) := by
  refine CW.of (l0 := [some (.ref (adr 0)), some (.int x1), some (.int x2), some (.ref (adr 247)), none]) (by decide +kernel) rfl (Nat.le_of_ble_eq_true rfl) rfl ?_
  refine J.al3 dL_scramble_0 ?_
  refine J.iconst dL_scramble_1 kI_0 ?_
  refine J.al0 dL_scramble_2 ?_
  refine J.il1 dL_scramble_3 ?_
  refine J.il2 dL_scramble_4 ?_
  refine cx_L_26 rfl (by decide) (k' := 1) (n' := 6) hC₉ ⟨⟨by decide, by decide⟩, ⟨rfl, rfl⟩, by decide, by decide⟩ rfl dL_scramble_5 (fun μ1 h1₉ => ?_)
  refine JX.catch (pre := []) (suf := []) (lo := 0) (hi := 10) (h := 13) (ct := 15) rfl rfl (fun z hz₉ => by cases hz₉) (by decide) (by decide) (by decide) t_332 nw_418 (fun q => ?_)
  refine J.as4 dL_scramble_13 (by decide) rfl ?_
  refine J.iconst dL_scramble_15 kI_1 ?_
  exact J.iret rfl (by decide) (by decide) dL_scramble_16 ⟨_, rfl, rfl, h1₉⟩

set_option maxRecDepth 100000 in
theorem w_logOf {g : GP} {adr : Nat → Nat} {μ : Mem} {x1 x2 : Int32} {v : Int32} {φ : Mem → Prop} (hC₉ : CT g yX7_logOf mX7_logOf (RM 20 1 6) (WM g adr μ) (.ref (adr 0) :: [.int x1, .int x2]) (PM g adr (.inl (some (.int v))) φ)) : CW g yL_logOf mL_logOf (RM 21 1 6) (WM g adr μ) [.ref (adr 0), .int x1, .int x2, .ref (adr 247)] (PM g adr (.inl (some (.int (nI 0)))) (fun μ' => ∃ μ1, φ μ1 ∧ μ' = wr μ1 247 0 v)) := by
  refine CW.of (l0 := [some (.ref (adr 0)), some (.int x1), some (.int x2), some (.ref (adr 247)), none]) (by decide +kernel) rfl (Nat.le_of_ble_eq_true rfl) rfl ?_
  refine J.al3 dL_logOf_0 ?_
  refine J.iconst dL_logOf_1 kI_0 ?_
  refine J.al0 dL_logOf_2 ?_
  refine J.il1 dL_logOf_3 ?_
  refine J.il2 dL_logOf_4 ?_
  refine cl_L_29 rfl (by decide) (k' := 1) (n' := 6) hC₉ ⟨⟨by decide, by decide⟩, ⟨rfl, rfl⟩, by decide, by decide⟩ rfl dL_logOf_5 (fun μ1 h1₉ => ?_)
  refine J.i2l dL_logOf_8 ?_
  refine J.last (x := v) (by decide) (by decide) rfl dL_logOf_9 ?_
  refine J.goto (tgt := 21) dL_logOf_10 (by decide) ?_
  refine J.iconst dL_logOf_21 kI_0 ?_
  exact J.iret rfl (by decide) (by decide) dL_logOf_22 ⟨_, rfl, rfl, _, h1₉, by first | rfl | rw [if_pos hP₉] | rw [if_neg hP₉]⟩

set_option maxRecDepth 100000 in
theorem wx_logOf1 {g : GP} {adr : Nat → Nat} {μ : Mem} {x1 x2 : Int32} {φ : Mem → Prop} (hC₉ : CT g yX7_logOf mX7_logOf (RM 20 1 6) (WM g adr μ) (.ref (adr 0) :: [.int x1, .int x2]) (PM g adr (.inr "java/lang/IndexOutOfBoundsException") φ)) : CW g yL_logOf mL_logOf (RM 21 1 6) (WM g adr μ) [.ref (adr 0), .int x1, .int x2, .ref (adr 247)] (PM g adr (.inl (some (.int (nI 1)))) (φ)) := by
  refine CW.of (l0 := [some (.ref (adr 0)), some (.int x1), some (.int x2), some (.ref (adr 247)), none]) (by decide +kernel) rfl (Nat.le_of_ble_eq_true rfl) rfl ?_
  refine J.al3 dL_logOf_0 ?_
  refine J.iconst dL_logOf_1 kI_0 ?_
  refine J.al0 dL_logOf_2 ?_
  refine J.il1 dL_logOf_3 ?_
  refine J.il2 dL_logOf_4 ?_
  refine cx_L_29 rfl (by decide) (k' := 1) (n' := 6) hC₉ ⟨⟨by decide, by decide⟩, ⟨rfl, rfl⟩, by decide, by decide⟩ rfl dL_logOf_5 (fun μ1 h1₉ => ?_)
  refine JX.catch (pre := []) (suf := [(0, 10, 17, 15)]) (lo := 0) (hi := 10) (h := 13) (ct := 13) rfl rfl (fun z hz₉ => by cases hz₉) (by decide) (by decide) (by decide) t_331 nw_345 (fun q => ?_)
  refine J.as4 dL_logOf_13 (by decide) rfl ?_
  refine J.iconst dL_logOf_15 kI_1 ?_
  exact J.iret rfl (by decide) (by decide) dL_logOf_16 ⟨_, rfl, rfl, h1₉⟩

set_option maxRecDepth 100000 in
theorem wx_logOf2 {g : GP} {adr : Nat → Nat} {μ : Mem} {x1 x2 : Int32} {φ : Mem → Prop} (hC₉ : CT g yX7_logOf mX7_logOf (RM 20 1 6) (WM g adr μ) (.ref (adr 0) :: [.int x1, .int x2]) (PM g adr (.inr "java/lang/IllegalArgumentException") φ)) : CW g yL_logOf mL_logOf (RM 21 1 6) (WM g adr μ) [.ref (adr 0), .int x1, .int x2, .ref (adr 247)] (PM g adr (.inl (some (.int (nI 2)))) (φ)) := by
  refine CW.of (l0 := [some (.ref (adr 0)), some (.int x1), some (.int x2), some (.ref (adr 247)), none]) (by decide +kernel) rfl (Nat.le_of_ble_eq_true rfl) rfl ?_
  refine J.al3 dL_logOf_0 ?_
  refine J.iconst dL_logOf_1 kI_0 ?_
  refine J.al0 dL_logOf_2 ?_
  refine J.il1 dL_logOf_3 ?_
  refine J.il2 dL_logOf_4 ?_
  refine cx_L_29 rfl (by decide) (k' := 1) (n' := 6) hC₉ ⟨⟨by decide, by decide⟩, ⟨rfl, rfl⟩, by decide, by decide⟩ rfl dL_logOf_5 (fun μ1 h1₉ => ?_)
  refine JX.catch (pre := [(0, 10, 13, 13)]) (suf := []) (lo := 0) (hi := 10) (h := 17) (ct := 15) rfl rfl (List.forall_mem_cons.mpr ⟨⟨by decide, _, t_331, by decide, by decide⟩, (fun z hz₉ => by cases hz₉)⟩) (by decide) (by decide) (by decide) t_332 nw_418 (fun q => ?_)
  refine J.as4 dL_logOf_17 (by decide) rfl ?_
  refine J.iconst dL_logOf_19 kI_2 ?_
  exact J.iret rfl (by decide) (by decide) dL_logOf_20 ⟨_, rfl, rfl, h1₉⟩

set_option maxRecDepth 100000 in
theorem w_at {g : GP} {adr : Nat → Nat} {μ : Mem} {x1 : Int32} {v : Int32} {φ : Mem → Prop} (hC₉ : CT g yX7_at mX7_at (RM 20 1 6) (WM g adr μ) (.ref (adr 0) :: [.int x1]) (PM g adr (.inl (some (.int v))) φ)) : CW g yL_at mL_at (RM 21 1 6) (WM g adr μ) [.ref (adr 0), .int x1, .ref (adr 247)] (PM g adr (.inl (some (.int (nI 0)))) (fun μ' => ∃ μ1, φ μ1 ∧ μ' = wr μ1 247 0 v)) := by
  refine CW.of (l0 := [some (.ref (adr 0)), some (.int x1), some (.ref (adr 247)), none]) (by decide +kernel) rfl (Nat.le_of_ble_eq_true rfl) rfl ?_
  refine J.al2 dL_at_0 ?_
  refine J.iconst dL_at_1 kI_0 ?_
  refine J.al0 dL_at_2 ?_
  refine J.il1 dL_at_3 ?_
  refine cl_L_32 rfl (by decide) (k' := 1) (n' := 6) hC₉ ⟨⟨by decide, by decide⟩, ⟨rfl, rfl⟩, by decide, by decide⟩ rfl dL_at_4 (fun μ1 h1₉ => ?_)
  refine J.i2l dL_at_7 ?_
  refine J.last (x := v) (by decide) (by decide) rfl dL_at_8 ?_
  refine J.goto (tgt := 15) dL_at_9 (by decide) ?_
  refine J.iconst dL_at_15 kI_0 ?_
  exact J.iret rfl (by decide) (by decide) dL_at_16 ⟨_, rfl, rfl, _, h1₉, by first | rfl | rw [if_pos hP₉] | rw [if_neg hP₉]⟩

set_option maxRecDepth 100000 in
theorem wx_at1 {g : GP} {adr : Nat → Nat} {μ : Mem} {x1 : Int32} {φ : Mem → Prop} (hC₉ : CT g yX7_at mX7_at (RM 20 1 6) (WM g adr μ) (.ref (adr 0) :: [.int x1]) (PM g adr (.inr "java/lang/IndexOutOfBoundsException") φ)) : CW g yL_at mL_at (RM 21 1 6) (WM g adr μ) [.ref (adr 0), .int x1, .ref (adr 247)] (PM g adr (.inl (some (.int (nI 1)))) (φ)) := by
  refine CW.of (l0 := [some (.ref (adr 0)), some (.int x1), some (.ref (adr 247)), none]) (by decide +kernel) rfl (Nat.le_of_ble_eq_true rfl) rfl ?_
  refine J.al2 dL_at_0 ?_
  refine J.iconst dL_at_1 kI_0 ?_
  refine J.al0 dL_at_2 ?_
  refine J.il1 dL_at_3 ?_
  refine cx_L_32 rfl (by decide) (k' := 1) (n' := 6) hC₉ ⟨⟨by decide, by decide⟩, ⟨rfl, rfl⟩, by decide, by decide⟩ rfl dL_at_4 (fun μ1 h1₉ => ?_)
  refine JX.catch (pre := []) (suf := []) (lo := 0) (hi := 9) (h := 12) (ct := 13) rfl rfl (fun z hz₉ => by cases hz₉) (by decide) (by decide) (by decide) t_331 nw_345 (fun q => ?_)
  refine J.as3 dL_at_12 (by decide) rfl ?_
  refine J.iconst dL_at_13 kI_1 ?_
  exact J.iret rfl (by decide) (by decide) dL_at_14 ⟨_, rfl, rfl, h1₉⟩

set_option maxRecDepth 100000 in
theorem w_where {g : GP} {adr : Nat → Nat} {μ : Mem} {x1 : Int32} {v : Int32} {φ : Mem → Prop} (hC₉ : CT g yX7_where mX7_where (RM 20 1 6) (WM g adr μ) (.ref (adr 0) :: [.int x1]) (PM g adr (.inl (some (.int v))) φ)) : CW g yL_where mL_where (RM 21 1 6) (WM g adr μ) [.ref (adr 0), .int x1, .ref (adr 247)] (PM g adr (.inl (some (.int (nI 0)))) (fun μ' => ∃ μ1, φ μ1 ∧ μ' = wr μ1 247 0 v)) := by
  refine CW.of (l0 := [some (.ref (adr 0)), some (.int x1), some (.ref (adr 247)), none]) (by decide +kernel) rfl (Nat.le_of_ble_eq_true rfl) rfl ?_
  refine J.al2 dL_where_0 ?_
  refine J.iconst dL_where_1 kI_0 ?_
  refine J.al0 dL_where_2 ?_
  refine J.il1 dL_where_3 ?_
  refine cl_L_36 rfl (by decide) (k' := 1) (n' := 6) hC₉ ⟨⟨by decide, by decide⟩, ⟨rfl, rfl⟩, by decide, by decide⟩ rfl dL_where_4 (fun μ1 h1₉ => ?_)
  refine J.i2l dL_where_7 ?_
  refine J.last (x := v) (by decide) (by decide) rfl dL_where_8 ?_
  refine J.goto (tgt := 15) dL_where_9 (by decide) ?_
  refine J.iconst dL_where_15 kI_0 ?_
  exact J.iret rfl (by decide) (by decide) dL_where_16 ⟨_, rfl, rfl, _, h1₉, by first | rfl | rw [if_pos hP₉] | rw [if_neg hP₉]⟩

set_option maxRecDepth 100000 in
theorem wx_where1 {g : GP} {adr : Nat → Nat} {μ : Mem} {x1 : Int32} {φ : Mem → Prop} (hC₉ : CT g yX7_where mX7_where (RM 20 1 6) (WM g adr μ) (.ref (adr 0) :: [.int x1]) (PM g adr (.inr "java/lang/IndexOutOfBoundsException") φ)) : CW g yL_where mL_where (RM 21 1 6) (WM g adr μ) [.ref (adr 0), .int x1, .ref (adr 247)] (PM g adr (.inl (some (.int (nI 1)))) (φ)) := by
  refine CW.of (l0 := [some (.ref (adr 0)), some (.int x1), some (.ref (adr 247)), none]) (by decide +kernel) rfl (Nat.le_of_ble_eq_true rfl) rfl ?_
  refine J.al2 dL_where_0 ?_
  refine J.iconst dL_where_1 kI_0 ?_
  refine J.al0 dL_where_2 ?_
  refine J.il1 dL_where_3 ?_
  refine cx_L_36 rfl (by decide) (k' := 1) (n' := 6) hC₉ ⟨⟨by decide, by decide⟩, ⟨rfl, rfl⟩, by decide, by decide⟩ rfl dL_where_4 (fun μ1 h1₉ => ?_)
  refine JX.catch (pre := []) (suf := []) (lo := 0) (hi := 9) (h := 12) (ct := 13) rfl rfl (fun z hz₉ => by cases hz₉) (by decide) (by decide) (by decide) t_331 nw_345 (fun q => ?_)
  refine J.as3 dL_where_12 (by decide) rfl ?_
  refine J.iconst dL_where_13 kI_1 ?_
  exact J.iret rfl (by decide) (by decide) dL_where_14 ⟨_, rfl, rfl, h1₉⟩

set_option maxRecDepth 100000 in
theorem w_paint {g : GP} {adr : Nat → Nat} {μ : Mem} {x1 x2 : Int32} {v : Int32} {φ : Mem → Prop} (hC₉ : CT g yX7_paint mX7_paint (RM 20 1 6) (WM g adr μ) (.ref (adr 0) :: [.int x1, .int x2]) (PM g adr (.inl (some (.int v))) φ)) : CW g yL_paint mL_paint (RM 21 1 6) (WM g adr μ) [.ref (adr 0), .int x1, .int x2, .ref (adr 247)] (PM g adr (.inl (some (.int (nI 0)))) (fun μ' => ∃ μ1, φ μ1 ∧ μ' = wr μ1 247 0 v)) := by
  refine CW.of (l0 := [some (.ref (adr 0)), some (.int x1), some (.int x2), some (.ref (adr 247)), none]) (by decide +kernel) rfl (Nat.le_of_ble_eq_true rfl) rfl ?_
  refine J.al3 dL_paint_0 ?_
  refine J.iconst dL_paint_1 kI_0 ?_
  refine J.al0 dL_paint_2 ?_
  refine J.il1 dL_paint_3 ?_
  refine J.il2 dL_paint_4 ?_
  refine cl_L_39 rfl (by decide) (k' := 1) (n' := 6) hC₉ ⟨⟨by decide, by decide⟩, ⟨rfl, rfl⟩, by decide, by decide⟩ rfl dL_paint_5 (fun μ1 h1₉ => ?_)
  refine J.i2l dL_paint_8 ?_
  refine J.last (x := v) (by decide) (by decide) rfl dL_paint_9 ?_
  refine J.goto (tgt := 25) dL_paint_10 (by decide) ?_
  refine J.iconst dL_paint_25 kI_0 ?_
  exact J.iret rfl (by decide) (by decide) dL_paint_26 ⟨_, rfl, rfl, _, h1₉, by first | rfl | rw [if_pos hP₉] | rw [if_neg hP₉]⟩

set_option maxRecDepth 100000 in
theorem wx_paint1 {g : GP} {adr : Nat → Nat} {μ : Mem} {x1 x2 : Int32} {φ : Mem → Prop} (hC₉ : CT g yX7_paint mX7_paint (RM 20 1 6) (WM g adr μ) (.ref (adr 0) :: [.int x1, .int x2]) (PM g adr (.inr "java/lang/IndexOutOfBoundsException") φ)) : CW g yL_paint mL_paint (RM 21 1 6) (WM g adr μ) [.ref (adr 0), .int x1, .int x2, .ref (adr 247)] (PM g adr (.inl (some (.int (nI 1)))) (φ)) := by
  refine CW.of (l0 := [some (.ref (adr 0)), some (.int x1), some (.int x2), some (.ref (adr 247)), none]) (by decide +kernel) rfl (Nat.le_of_ble_eq_true rfl) rfl ?_
  refine J.al3 dL_paint_0 ?_
  refine J.iconst dL_paint_1 kI_0 ?_
  refine J.al0 dL_paint_2 ?_
  refine J.il1 dL_paint_3 ?_
  refine J.il2 dL_paint_4 ?_
  refine cx_L_39 rfl (by decide) (k' := 1) (n' := 6) hC₉ ⟨⟨by decide, by decide⟩, ⟨rfl, rfl⟩, by decide, by decide⟩ rfl dL_paint_5 (fun μ1 h1₉ => ?_)
  refine JX.catch (pre := []) (suf := [(0, 10, 17, 15), (0, 10, 21, 24)]) (lo := 0) (hi := 10) (h := 13) (ct := 13) rfl rfl (fun z hz₉ => by cases hz₉) (by decide) (by decide) (by decide) t_331 nw_345 (fun q => ?_)
  refine J.as4 dL_paint_13 (by decide) rfl ?_
  refine J.iconst dL_paint_15 kI_1 ?_
  exact J.iret rfl (by decide) (by decide) dL_paint_16 ⟨_, rfl, rfl, h1₉⟩

set_option maxRecDepth 100000 in
theorem wx_paint2 {g : GP} {adr : Nat → Nat} {μ : Mem} {x1 x2 : Int32} {φ : Mem → Prop} (hC₉ : CT g yX7_paint mX7_paint (RM 20 1 6) (WM g adr μ) (.ref (adr 0) :: [.int x1, .int x2]) (PM g adr (.inr "java/lang/IllegalArgumentException") φ)) : CW g yL_paint mL_paint (RM 21 1 6) (WM g adr μ) [.ref (adr 0), .int x1, .int x2, .ref (adr 247)] (PM g adr (.inl (some (.int (nI 2)))) (φ)) := by
  refine CW.of (l0 := [some (.ref (adr 0)), some (.int x1), some (.int x2), some (.ref (adr 247)), none]) (by decide +kernel) rfl (Nat.le_of_ble_eq_true rfl) rfl ?_
  refine J.al3 dL_paint_0 ?_
  refine J.iconst dL_paint_1 kI_0 ?_
  refine J.al0 dL_paint_2 ?_
  refine J.il1 dL_paint_3 ?_
  refine J.il2 dL_paint_4 ?_
  refine cx_L_39 rfl (by decide) (k' := 1) (n' := 6) hC₉ ⟨⟨by decide, by decide⟩, ⟨rfl, rfl⟩, by decide, by decide⟩ rfl dL_paint_5 (fun μ1 h1₉ => ?_)
  refine JX.catch (pre := [(0, 10, 13, 13)]) (suf := [(0, 10, 21, 24)]) (lo := 0) (hi := 10) (h := 17) (ct := 15) rfl rfl (List.forall_mem_cons.mpr ⟨⟨by decide, _, t_331, by decide, by decide⟩, (fun z hz₉ => by cases hz₉)⟩) (by decide) (by decide) (by decide) t_332 nw_418 (fun q => ?_)
  refine J.as4 dL_paint_17 (by decide) rfl ?_
  refine J.iconst dL_paint_19 kI_2 ?_
  exact J.iret rfl (by decide) (by decide) dL_paint_20 ⟨_, rfl, rfl, h1₉⟩

set_option maxRecDepth 100000 in
theorem wx_paint3 {g : GP} {adr : Nat → Nat} {μ : Mem} {x1 x2 : Int32} {φ : Mem → Prop} (hC₉ : CT g yX7_paint mX7_paint (RM 20 1 6) (WM g adr μ) (.ref (adr 0) :: [.int x1, .int x2]) (PM g adr (.inr "java/lang/UnsupportedOperationException") φ)) : CW g yL_paint mL_paint (RM 21 1 6) (WM g adr μ) [.ref (adr 0), .int x1, .int x2, .ref (adr 247)] (PM g adr (.inl (some (.int (nI 3)))) (φ)) := by
  refine CW.of (l0 := [some (.ref (adr 0)), some (.int x1), some (.int x2), some (.ref (adr 247)), none]) (by decide +kernel) rfl (Nat.le_of_ble_eq_true rfl) rfl ?_
  refine J.al3 dL_paint_0 ?_
  refine J.iconst dL_paint_1 kI_0 ?_
  refine J.al0 dL_paint_2 ?_
  refine J.il1 dL_paint_3 ?_
  refine J.il2 dL_paint_4 ?_
  refine cx_L_39 rfl (by decide) (k' := 1) (n' := 6) hC₉ ⟨⟨by decide, by decide⟩, ⟨rfl, rfl⟩, by decide, by decide⟩ rfl dL_paint_5 (fun μ1 h1₉ => ?_)
  refine JX.catch (pre := [(0, 10, 13, 13), (0, 10, 17, 15)]) (suf := []) (lo := 0) (hi := 10) (h := 21) (ct := 24) rfl rfl (List.forall_mem_cons.mpr ⟨⟨by decide, _, t_331, by decide, by decide⟩, (List.forall_mem_cons.mpr ⟨⟨by decide, _, t_332, by decide, by decide⟩, (fun z hz₉ => by cases hz₉)⟩)⟩) (by decide) (by decide) (by decide) t_482 nw_491 (fun q => ?_)
  refine J.as4 dL_paint_21 (by decide) rfl ?_
  refine J.iconst dL_paint_23 kI_3 ?_
  exact J.iret rfl (by decide) (by decide) dL_paint_24 ⟨_, rfl, rfl, h1₉⟩

set_option maxRecDepth 100000 in
theorem w_colour {g : GP} {adr : Nat → Nat} {μ : Mem} {x1 : Int32} {v : Int32} {φ : Mem → Prop} (hC₉ : CT g yX7_colour mX7_colour (RM 20 1 6) (WM g adr μ) (.ref (adr 0) :: [.int x1]) (PM g adr (.inl (some (.int v))) φ)) : CW g yL_colour mL_colour (RM 21 1 6) (WM g adr μ) [.ref (adr 0), .int x1, .ref (adr 247)] (PM g adr (.inl (some (.int (nI 0)))) (fun μ' => ∃ μ1, φ μ1 ∧ μ' = wr μ1 247 0 v)) := by
  refine CW.of (l0 := [some (.ref (adr 0)), some (.int x1), some (.ref (adr 247)), none]) (by decide +kernel) rfl (Nat.le_of_ble_eq_true rfl) rfl ?_
  refine J.al2 dL_colour_0 ?_
  refine J.iconst dL_colour_1 kI_0 ?_
  refine J.al0 dL_colour_2 ?_
  refine J.il1 dL_colour_3 ?_
  refine cl_L_42 rfl (by decide) (k' := 1) (n' := 6) hC₉ ⟨⟨by decide, by decide⟩, ⟨rfl, rfl⟩, by decide, by decide⟩ rfl dL_colour_4 (fun μ1 h1₉ => ?_)
  refine J.i2l dL_colour_7 ?_
  refine J.last (x := v) (by decide) (by decide) rfl dL_colour_8 ?_
  refine J.goto (tgt := 15) dL_colour_9 (by decide) ?_
  refine J.iconst dL_colour_15 kI_0 ?_
  exact J.iret rfl (by decide) (by decide) dL_colour_16 ⟨_, rfl, rfl, _, h1₉, by first | rfl | rw [if_pos hP₉] | rw [if_neg hP₉]⟩

set_option maxRecDepth 100000 in
theorem wx_colour1 {g : GP} {adr : Nat → Nat} {μ : Mem} {x1 : Int32} {φ : Mem → Prop} (hC₉ : CT g yX7_colour mX7_colour (RM 20 1 6) (WM g adr μ) (.ref (adr 0) :: [.int x1]) (PM g adr (.inr "java/lang/IndexOutOfBoundsException") φ)) : CW g yL_colour mL_colour (RM 21 1 6) (WM g adr μ) [.ref (adr 0), .int x1, .ref (adr 247)] (PM g adr (.inl (some (.int (nI 1)))) (φ)) := by
  refine CW.of (l0 := [some (.ref (adr 0)), some (.int x1), some (.ref (adr 247)), none]) (by decide +kernel) rfl (Nat.le_of_ble_eq_true rfl) rfl ?_
  refine J.al2 dL_colour_0 ?_
  refine J.iconst dL_colour_1 kI_0 ?_
  refine J.al0 dL_colour_2 ?_
  refine J.il1 dL_colour_3 ?_
  refine cx_L_42 rfl (by decide) (k' := 1) (n' := 6) hC₉ ⟨⟨by decide, by decide⟩, ⟨rfl, rfl⟩, by decide, by decide⟩ rfl dL_colour_4 (fun μ1 h1₉ => ?_)
  refine JX.catch (pre := []) (suf := []) (lo := 0) (hi := 9) (h := 12) (ct := 13) rfl rfl (fun z hz₉ => by cases hz₉) (by decide) (by decide) (by decide) t_331 nw_345 (fun q => ?_)
  refine J.as3 dL_colour_12 (by decide) rfl ?_
  refine J.iconst dL_colour_13 kI_1 ?_
  exact J.iret rfl (by decide) (by decide) dL_colour_14 ⟨_, rfl, rfl, h1₉⟩

set_option maxRecDepth 100000 in
theorem w_isDone {g : GP} {adr : Nat → Nat} {μ : Mem} {x1 : Int32} {P : Prop} [Decidable P] {φ : Mem → Prop} (hC₉ : CT g yX7_isDone mX7_isDone (RM 20 1 6) (WM g adr μ) (.ref (adr 0) :: [.int x1]) (PM g adr (.inl (some (.int (if P then nI 1 else nI 0)))) φ)) : CW g yL_isDone mL_isDone (RM 21 1 6) (WM g adr μ) [.ref (adr 0), .int x1, .ref (adr 247)] (PM g adr (.inl (some (.int (nI 0)))) (fun μ' => ∃ μ1, φ μ1 ∧ μ' = wr μ1 247 0 (if P then nI 1 else nI 0))) := by
  refine CW.of (l0 := [some (.ref (adr 0)), some (.int x1), some (.ref (adr 247)), none]) (by decide +kernel) rfl (Nat.le_of_ble_eq_true rfl) rfl ?_
  refine J.al2 dL_isDone_0 ?_
  refine J.iconst dL_isDone_1 kI_0 ?_
  refine J.al0 dL_isDone_2 ?_
  refine J.il1 dL_isDone_3 ?_
  refine cl_L_45 rfl (by decide) (k' := 1) (n' := 6) hC₉ ⟨⟨by decide, by decide⟩, ⟨rfl, rfl⟩, by decide, by decide⟩ rfl dL_isDone_4 (fun μ1 h1₉ => ?_)
  refine J.if_eqB (tgt := 14) dL_isDone_7 (by decide) (fun hP₉ => ?_) (fun hP₉ => ?_)
  · refine J.lconst (i := 0) dL_isDone_14 rfl ?_
    refine J.last (x := nI 0) (by decide) (by decide) (by decide) dL_isDone_15 ?_
    refine J.goto (tgt := 22) dL_isDone_16 (by decide) ?_
    refine J.iconst dL_isDone_22 kI_0 ?_
    exact J.iret rfl (by decide) (by decide) dL_isDone_23 ⟨_, rfl, rfl, _, h1₉, by first | rfl | rw [if_pos hP₉] | rw [if_neg hP₉]⟩
  · refine J.lconst (i := 1) dL_isDone_10 rfl ?_
    refine J.goto (tgt := 15) dL_isDone_11 (by decide) ?_
    refine J.last (x := nI 1) (by decide) (by decide) (by decide) dL_isDone_15 ?_
    refine J.goto (tgt := 22) dL_isDone_16 (by decide) ?_
    refine J.iconst dL_isDone_22 kI_0 ?_
    exact J.iret rfl (by decide) (by decide) dL_isDone_23 ⟨_, rfl, rfl, _, h1₉, by first | rfl | rw [if_pos hP₉] | rw [if_neg hP₉]⟩

set_option maxRecDepth 100000 in
theorem wx_isDone1 {g : GP} {adr : Nat → Nat} {μ : Mem} {x1 : Int32} {φ : Mem → Prop} (hC₉ : CT g yX7_isDone mX7_isDone (RM 20 1 6) (WM g adr μ) (.ref (adr 0) :: [.int x1]) (PM g adr (.inr "java/lang/IndexOutOfBoundsException") φ)) : CW g yL_isDone mL_isDone (RM 21 1 6) (WM g adr μ) [.ref (adr 0), .int x1, .ref (adr 247)] (PM g adr (.inl (some (.int (nI 1)))) (φ)) := by
  refine CW.of (l0 := [some (.ref (adr 0)), some (.int x1), some (.ref (adr 247)), none]) (by decide +kernel) rfl (Nat.le_of_ble_eq_true rfl) rfl ?_
  refine J.al2 dL_isDone_0 ?_
  refine J.iconst dL_isDone_1 kI_0 ?_
  refine J.al0 dL_isDone_2 ?_
  refine J.il1 dL_isDone_3 ?_
  refine cx_L_45 rfl (by decide) (k' := 1) (n' := 6) hC₉ ⟨⟨by decide, by decide⟩, ⟨rfl, rfl⟩, by decide, by decide⟩ rfl dL_isDone_4 (fun μ1 h1₉ => ?_)
  refine JX.catch (pre := []) (suf := []) (lo := 0) (hi := 16) (h := 19) (ct := 13) rfl rfl (fun z hz₉ => by cases hz₉) (by decide) (by decide) (by decide) t_331 nw_345 (fun q => ?_)
  refine J.as3 dL_isDone_19 (by decide) rfl ?_
  refine J.iconst dL_isDone_20 kI_1 ?_
  exact J.iret rfl (by decide) (by decide) dL_isDone_21 ⟨_, rfl, rfl, h1₉⟩

set_option maxRecDepth 100000 in
theorem w_fewest {g : GP} {adr : Nat → Nat} {μ : Mem} {x1 x2 : Int32} {v : Int32} {φ : Mem → Prop} (hC₉ : CT g yX7_fewest mX7_fewest (RM 20 1 6) (WM g adr μ) (.ref (adr 0) :: [.int x1, .int x2]) (PM g adr (.inl (some (.int v))) φ)) : CW g yL_fewest mL_fewest (RM 21 1 6) (WM g adr μ) [.ref (adr 0), .int x1, .int x2, .ref (adr 247)] (PM g adr (.inl (some (.int (nI 0)))) (fun μ' => ∃ μ1, φ μ1 ∧ μ' = wr μ1 247 0 v)) := by
  refine CW.of (l0 := [some (.ref (adr 0)), some (.int x1), some (.int x2), some (.ref (adr 247)), none]) (by decide +kernel) rfl (Nat.le_of_ble_eq_true rfl) rfl ?_
  refine J.al3 dL_fewest_0 ?_
  refine J.iconst dL_fewest_1 kI_0 ?_
  refine J.al0 dL_fewest_2 ?_
  refine J.il1 dL_fewest_3 ?_
  refine J.il2 dL_fewest_4 ?_
  refine cl_L_49 rfl (by decide) (k' := 1) (n' := 6) hC₉ ⟨⟨by decide, by decide⟩, ⟨rfl, rfl⟩, by decide, by decide⟩ rfl dL_fewest_5 (fun μ1 h1₉ => ?_)
  refine J.i2l dL_fewest_8 ?_
  refine J.last (x := v) (by decide) (by decide) rfl dL_fewest_9 ?_
  refine J.goto (tgt := 17) dL_fewest_10 (by decide) ?_
  refine J.iconst dL_fewest_17 kI_0 ?_
  exact J.iret rfl (by decide) (by decide) dL_fewest_18 ⟨_, rfl, rfl, _, h1₉, by first | rfl | rw [if_pos hP₉] | rw [if_neg hP₉]⟩

set_option maxRecDepth 100000 in
theorem wx_fewest1 {g : GP} {adr : Nat → Nat} {μ : Mem} {x1 x2 : Int32} {φ : Mem → Prop} (hC₉ : CT g yX7_fewest mX7_fewest (RM 20 1 6) (WM g adr μ) (.ref (adr 0) :: [.int x1, .int x2]) (PM g adr (.inr "java/lang/IndexOutOfBoundsException") φ)) : CW g yL_fewest mL_fewest (RM 21 1 6) (WM g adr μ) [.ref (adr 0), .int x1, .int x2, .ref (adr 247)] (PM g adr (.inl (some (.int (nI 1)))) (φ)) := by
  refine CW.of (l0 := [some (.ref (adr 0)), some (.int x1), some (.int x2), some (.ref (adr 247)), none]) (by decide +kernel) rfl (Nat.le_of_ble_eq_true rfl) rfl ?_
  refine J.al3 dL_fewest_0 ?_
  refine J.iconst dL_fewest_1 kI_0 ?_
  refine J.al0 dL_fewest_2 ?_
  refine J.il1 dL_fewest_3 ?_
  refine J.il2 dL_fewest_4 ?_
  refine cx_L_49 rfl (by decide) (k' := 1) (n' := 6) hC₉ ⟨⟨by decide, by decide⟩, ⟨rfl, rfl⟩, by decide, by decide⟩ rfl dL_fewest_5 (fun μ1 h1₉ => ?_)
  refine JX.catch (pre := []) (suf := []) (lo := 0) (hi := 10) (h := 13) (ct := 13) rfl rfl (fun z hz₉ => by cases hz₉) (by decide) (by decide) (by decide) t_331 nw_345 (fun q => ?_)
  refine J.as4 dL_fewest_13 (by decide) rfl ?_
  refine J.iconst dL_fewest_15 kI_1 ?_
  exact J.iret rfl (by decide) (by decide) dL_fewest_16 ⟨_, rfl, rfl, h1₉⟩

set_option maxRecDepth 100000 in
theorem w_learn {g : GP} {adr : Nat → Nat} {μ : Mem} {x1 : Int32} {v : Int32} {φ : Mem → Prop} (hC₉ : CT g yX7_learn mX7_learn (RM 20 1 6) (WM g adr μ) (.ref (adr 0) :: [.int x1]) (PM g adr (.inl (some (.int v))) φ)) : CW g yL_learn mL_learn (RM 21 1 6) (WM g adr μ) [.ref (adr 0), .int x1, .ref (adr 247)] (PM g adr (.inl (some (.int (nI 0)))) (fun μ' => ∃ μ1, φ μ1 ∧ μ' = wr μ1 247 0 v)) := by
  refine CW.of (l0 := [some (.ref (adr 0)), some (.int x1), some (.ref (adr 247)), none]) (by decide +kernel) rfl (Nat.le_of_ble_eq_true rfl) rfl ?_
  refine J.al2 dL_learn_0 ?_
  refine J.iconst dL_learn_1 kI_0 ?_
  refine J.al0 dL_learn_2 ?_
  refine J.il1 dL_learn_3 ?_
  refine cl_L_52 rfl (by decide) (k' := 1) (n' := 6) hC₉ ⟨⟨by decide, by decide⟩, ⟨rfl, rfl⟩, by decide, by decide⟩ rfl dL_learn_4 (fun μ1 h1₉ => ?_)
  refine J.i2l dL_learn_7 ?_
  refine J.last (x := v) (by decide) (by decide) rfl dL_learn_8 ?_
  refine J.goto (tgt := 21) dL_learn_9 (by decide) ?_
  refine J.iconst dL_learn_21 kI_0 ?_
  exact J.iret rfl (by decide) (by decide) dL_learn_22 ⟨_, rfl, rfl, _, h1₉, by first | rfl | rw [if_pos hP₉] | rw [if_neg hP₉]⟩

set_option maxRecDepth 100000 in
theorem wx_learn1 {g : GP} {adr : Nat → Nat} {μ : Mem} {x1 : Int32} {φ : Mem → Prop} (hC₉ : CT g yX7_learn mX7_learn (RM 20 1 6) (WM g adr μ) (.ref (adr 0) :: [.int x1]) (PM g adr (.inr "java/lang/IndexOutOfBoundsException") φ)) : CW g yL_learn mL_learn (RM 21 1 6) (WM g adr μ) [.ref (adr 0), .int x1, .ref (adr 247)] (PM g adr (.inl (some (.int (nI 1)))) (φ)) := by
  refine CW.of (l0 := [some (.ref (adr 0)), some (.int x1), some (.ref (adr 247)), none]) (by decide +kernel) rfl (Nat.le_of_ble_eq_true rfl) rfl ?_
  refine J.al2 dL_learn_0 ?_
  refine J.iconst dL_learn_1 kI_0 ?_
  refine J.al0 dL_learn_2 ?_
  refine J.il1 dL_learn_3 ?_
  refine cx_L_52 rfl (by decide) (k' := 1) (n' := 6) hC₉ ⟨⟨by decide, by decide⟩, ⟨rfl, rfl⟩, by decide, by decide⟩ rfl dL_learn_4 (fun μ1 h1₉ => ?_)
  refine JX.catch (pre := []) (suf := [(0, 9, 15, 15), (0, 9, 18, 24)]) (lo := 0) (hi := 9) (h := 12) (ct := 13) rfl rfl (fun z hz₉ => by cases hz₉) (by decide) (by decide) (by decide) t_331 nw_345 (fun q => ?_)
  refine J.as3 dL_learn_12 (by decide) rfl ?_
  refine J.iconst dL_learn_13 kI_1 ?_
  exact J.iret rfl (by decide) (by decide) dL_learn_14 ⟨_, rfl, rfl, h1₉⟩

set_option maxRecDepth 100000 in
theorem wx_learn2 {g : GP} {adr : Nat → Nat} {μ : Mem} {x1 : Int32} {φ : Mem → Prop} (hC₉ : CT g yX7_learn mX7_learn (RM 20 1 6) (WM g adr μ) (.ref (adr 0) :: [.int x1]) (PM g adr (.inr "java/lang/IllegalArgumentException") φ)) : CW g yL_learn mL_learn (RM 21 1 6) (WM g adr μ) [.ref (adr 0), .int x1, .ref (adr 247)] (PM g adr (.inl (some (.int (nI 2)))) (φ)) := by
  refine CW.of (l0 := [some (.ref (adr 0)), some (.int x1), some (.ref (adr 247)), none]) (by decide +kernel) rfl (Nat.le_of_ble_eq_true rfl) rfl ?_
  refine J.al2 dL_learn_0 ?_
  refine J.iconst dL_learn_1 kI_0 ?_
  refine J.al0 dL_learn_2 ?_
  refine J.il1 dL_learn_3 ?_
  refine cx_L_52 rfl (by decide) (k' := 1) (n' := 6) hC₉ ⟨⟨by decide, by decide⟩, ⟨rfl, rfl⟩, by decide, by decide⟩ rfl dL_learn_4 (fun μ1 h1₉ => ?_)
  refine JX.catch (pre := [(0, 9, 12, 13)]) (suf := [(0, 9, 18, 24)]) (lo := 0) (hi := 9) (h := 15) (ct := 15) rfl rfl (List.forall_mem_cons.mpr ⟨⟨by decide, _, t_331, by decide, by decide⟩, (fun z hz₉ => by cases hz₉)⟩) (by decide) (by decide) (by decide) t_332 nw_418 (fun q => ?_)
  refine J.as3 dL_learn_15 (by decide) rfl ?_
  refine J.iconst dL_learn_16 kI_2 ?_
  exact J.iret rfl (by decide) (by decide) dL_learn_17 ⟨_, rfl, rfl, h1₉⟩

set_option maxRecDepth 100000 in
theorem wx_learn3 {g : GP} {adr : Nat → Nat} {μ : Mem} {x1 : Int32} {φ : Mem → Prop} (hC₉ : CT g yX7_learn mX7_learn (RM 20 1 6) (WM g adr μ) (.ref (adr 0) :: [.int x1]) (PM g adr (.inr "java/lang/UnsupportedOperationException") φ)) : CW g yL_learn mL_learn (RM 21 1 6) (WM g adr μ) [.ref (adr 0), .int x1, .ref (adr 247)] (PM g adr (.inl (some (.int (nI 3)))) (φ)) := by
  refine CW.of (l0 := [some (.ref (adr 0)), some (.int x1), some (.ref (adr 247)), none]) (by decide +kernel) rfl (Nat.le_of_ble_eq_true rfl) rfl ?_
  refine J.al2 dL_learn_0 ?_
  refine J.iconst dL_learn_1 kI_0 ?_
  refine J.al0 dL_learn_2 ?_
  refine J.il1 dL_learn_3 ?_
  refine cx_L_52 rfl (by decide) (k' := 1) (n' := 6) hC₉ ⟨⟨by decide, by decide⟩, ⟨rfl, rfl⟩, by decide, by decide⟩ rfl dL_learn_4 (fun μ1 h1₉ => ?_)
  refine JX.catch (pre := [(0, 9, 12, 13), (0, 9, 15, 15)]) (suf := []) (lo := 0) (hi := 9) (h := 18) (ct := 24) rfl rfl (List.forall_mem_cons.mpr ⟨⟨by decide, _, t_331, by decide, by decide⟩, (List.forall_mem_cons.mpr ⟨⟨by decide, _, t_332, by decide, by decide⟩, (fun z hz₉ => by cases hz₉)⟩)⟩) (by decide) (by decide) (by decide) t_482 nw_491 (fun q => ?_)
  refine J.as3 dL_learn_18 (by decide) rfl ?_
  refine J.iconst dL_learn_19 kI_3 ?_
  exact J.iret rfl (by decide) (by decide) dL_learn_20 ⟨_, rfl, rfl, h1₉⟩

set_option maxRecDepth 100000 in
theorem w_use {g : GP} {adr : Nat → Nat} {μ : Mem} {x1 x2 : Int32} {v : Int32} {φ : Mem → Prop} (hC₉ : CT g yX7_use mX7_use (RM 20 1 6) (WM g adr μ) (.ref (adr 0) :: [.int x1, .int x2]) (PM g adr (.inl (some (.int v))) φ)) : CW g yL_use mL_use (RM 21 1 6) (WM g adr μ) [.ref (adr 0), .int x1, .int x2, .ref (adr 247)] (PM g adr (.inl (some (.int (nI 0)))) (fun μ' => ∃ μ1, φ μ1 ∧ μ' = wr μ1 247 0 v)) := by
  refine CW.of (l0 := [some (.ref (adr 0)), some (.int x1), some (.int x2), some (.ref (adr 247)), none]) (by decide +kernel) rfl (Nat.le_of_ble_eq_true rfl) rfl ?_
  refine J.al3 dL_use_0 ?_
  refine J.iconst dL_use_1 kI_0 ?_
  refine J.al0 dL_use_2 ?_
  refine J.il1 dL_use_3 ?_
  refine J.il2 dL_use_4 ?_
  refine cl_L_55 rfl (by decide) (k' := 1) (n' := 6) hC₉ ⟨⟨by decide, by decide⟩, ⟨rfl, rfl⟩, by decide, by decide⟩ rfl dL_use_5 (fun μ1 h1₉ => ?_)
  refine J.i2l dL_use_8 ?_
  refine J.last (x := v) (by decide) (by decide) rfl dL_use_9 ?_
  refine J.goto (tgt := 25) dL_use_10 (by decide) ?_
  refine J.iconst dL_use_25 kI_0 ?_
  exact J.iret rfl (by decide) (by decide) dL_use_26 ⟨_, rfl, rfl, _, h1₉, by first | rfl | rw [if_pos hP₉] | rw [if_neg hP₉]⟩

set_option maxRecDepth 100000 in
theorem wx_use1 {g : GP} {adr : Nat → Nat} {μ : Mem} {x1 x2 : Int32} {φ : Mem → Prop} (hC₉ : CT g yX7_use mX7_use (RM 20 1 6) (WM g adr μ) (.ref (adr 0) :: [.int x1, .int x2]) (PM g adr (.inr "java/lang/IndexOutOfBoundsException") φ)) : CW g yL_use mL_use (RM 21 1 6) (WM g adr μ) [.ref (adr 0), .int x1, .int x2, .ref (adr 247)] (PM g adr (.inl (some (.int (nI 1)))) (φ)) := by
  refine CW.of (l0 := [some (.ref (adr 0)), some (.int x1), some (.int x2), some (.ref (adr 247)), none]) (by decide +kernel) rfl (Nat.le_of_ble_eq_true rfl) rfl ?_
  refine J.al3 dL_use_0 ?_
  refine J.iconst dL_use_1 kI_0 ?_
  refine J.al0 dL_use_2 ?_
  refine J.il1 dL_use_3 ?_
  refine J.il2 dL_use_4 ?_
  refine cx_L_55 rfl (by decide) (k' := 1) (n' := 6) hC₉ ⟨⟨by decide, by decide⟩, ⟨rfl, rfl⟩, by decide, by decide⟩ rfl dL_use_5 (fun μ1 h1₉ => ?_)
  refine JX.catch (pre := []) (suf := [(0, 10, 17, 15), (0, 10, 21, 24)]) (lo := 0) (hi := 10) (h := 13) (ct := 13) rfl rfl (fun z hz₉ => by cases hz₉) (by decide) (by decide) (by decide) t_331 nw_345 (fun q => ?_)
  refine J.as4 dL_use_13 (by decide) rfl ?_
  refine J.iconst dL_use_15 kI_1 ?_
  exact J.iret rfl (by decide) (by decide) dL_use_16 ⟨_, rfl, rfl, h1₉⟩

set_option maxRecDepth 100000 in
theorem wx_use2 {g : GP} {adr : Nat → Nat} {μ : Mem} {x1 x2 : Int32} {φ : Mem → Prop} (hC₉ : CT g yX7_use mX7_use (RM 20 1 6) (WM g adr μ) (.ref (adr 0) :: [.int x1, .int x2]) (PM g adr (.inr "java/lang/IllegalArgumentException") φ)) : CW g yL_use mL_use (RM 21 1 6) (WM g adr μ) [.ref (adr 0), .int x1, .int x2, .ref (adr 247)] (PM g adr (.inl (some (.int (nI 2)))) (φ)) := by
  refine CW.of (l0 := [some (.ref (adr 0)), some (.int x1), some (.int x2), some (.ref (adr 247)), none]) (by decide +kernel) rfl (Nat.le_of_ble_eq_true rfl) rfl ?_
  refine J.al3 dL_use_0 ?_
  refine J.iconst dL_use_1 kI_0 ?_
  refine J.al0 dL_use_2 ?_
  refine J.il1 dL_use_3 ?_
  refine J.il2 dL_use_4 ?_
  refine cx_L_55 rfl (by decide) (k' := 1) (n' := 6) hC₉ ⟨⟨by decide, by decide⟩, ⟨rfl, rfl⟩, by decide, by decide⟩ rfl dL_use_5 (fun μ1 h1₉ => ?_)
  refine JX.catch (pre := [(0, 10, 13, 13)]) (suf := [(0, 10, 21, 24)]) (lo := 0) (hi := 10) (h := 17) (ct := 15) rfl rfl (List.forall_mem_cons.mpr ⟨⟨by decide, _, t_331, by decide, by decide⟩, (fun z hz₉ => by cases hz₉)⟩) (by decide) (by decide) (by decide) t_332 nw_418 (fun q => ?_)
  refine J.as4 dL_use_17 (by decide) rfl ?_
  refine J.iconst dL_use_19 kI_2 ?_
  exact J.iret rfl (by decide) (by decide) dL_use_20 ⟨_, rfl, rfl, h1₉⟩

set_option maxRecDepth 100000 in
theorem wx_use3 {g : GP} {adr : Nat → Nat} {μ : Mem} {x1 x2 : Int32} {φ : Mem → Prop} (hC₉ : CT g yX7_use mX7_use (RM 20 1 6) (WM g adr μ) (.ref (adr 0) :: [.int x1, .int x2]) (PM g adr (.inr "java/lang/UnsupportedOperationException") φ)) : CW g yL_use mL_use (RM 21 1 6) (WM g adr μ) [.ref (adr 0), .int x1, .int x2, .ref (adr 247)] (PM g adr (.inl (some (.int (nI 3)))) (φ)) := by
  refine CW.of (l0 := [some (.ref (adr 0)), some (.int x1), some (.int x2), some (.ref (adr 247)), none]) (by decide +kernel) rfl (Nat.le_of_ble_eq_true rfl) rfl ?_
  refine J.al3 dL_use_0 ?_
  refine J.iconst dL_use_1 kI_0 ?_
  refine J.al0 dL_use_2 ?_
  refine J.il1 dL_use_3 ?_
  refine J.il2 dL_use_4 ?_
  refine cx_L_55 rfl (by decide) (k' := 1) (n' := 6) hC₉ ⟨⟨by decide, by decide⟩, ⟨rfl, rfl⟩, by decide, by decide⟩ rfl dL_use_5 (fun μ1 h1₉ => ?_)
  refine JX.catch (pre := [(0, 10, 13, 13), (0, 10, 17, 15)]) (suf := []) (lo := 0) (hi := 10) (h := 21) (ct := 24) rfl rfl (List.forall_mem_cons.mpr ⟨⟨by decide, _, t_331, by decide, by decide⟩, (List.forall_mem_cons.mpr ⟨⟨by decide, _, t_332, by decide, by decide⟩, (fun z hz₉ => by cases hz₉)⟩)⟩) (by decide) (by decide) (by decide) t_482 nw_491 (fun q => ?_)
  refine J.as4 dL_use_21 (by decide) rfl ?_
  refine J.iconst dL_use_23 kI_3 ?_
  exact J.iret rfl (by decide) (by decide) dL_use_24 ⟨_, rfl, rfl, h1₉⟩

set_option maxRecDepth 100000 in
theorem w_join {g : GP} {adr : Nat → Nat} {μ : Mem} {x1 x2 x3 : Int32} {v : Int32} {φ : Mem → Prop} (hC₉ : CT g yX7_join mX7_join (RM 20 1 6) (WM g adr μ) (.ref (adr 0) :: [.int x1, .int x2, .int x3]) (PM g adr (.inl (some (.int v))) φ)) : CW g yL_join mL_join (RM 21 1 6) (WM g adr μ) [.ref (adr 0), .int x1, .int x2, .int x3, .ref (adr 247)] (PM g adr (.inl (some (.int (nI 0)))) (fun μ' => ∃ μ1, φ μ1 ∧ μ' = wr μ1 247 0 v)) := by
  refine CW.of (l0 := [some (.ref (adr 0)), some (.int x1), some (.int x2), some (.int x3), some (.ref (adr 247)), none]) (by decide +kernel) rfl (Nat.le_of_ble_eq_true rfl) rfl ?_
  refine J.al4 dL_join_0 ?_
  refine J.iconst dL_join_2 kI_0 ?_
  refine J.al0 dL_join_3 ?_
  refine J.il1 dL_join_4 ?_
  refine J.il2 dL_join_5 ?_
  refine J.il3 dL_join_6 ?_
  refine cl_L_58 rfl (by decide) (k' := 1) (n' := 6) hC₉ ⟨⟨by decide, by decide⟩, ⟨rfl, rfl⟩, by decide, by decide⟩ rfl dL_join_7 (fun μ1 h1₉ => ?_)
  refine J.i2l dL_join_10 ?_
  refine J.last (x := v) (by decide) (by decide) rfl dL_join_11 ?_
  refine J.goto (tgt := 23) dL_join_12 (by decide) ?_
  refine J.iconst dL_join_23 kI_0 ?_
  exact J.iret rfl (by decide) (by decide) dL_join_24 ⟨_, rfl, rfl, _, h1₉, by first | rfl | rw [if_pos hP₉] | rw [if_neg hP₉]⟩

set_option maxRecDepth 100000 in
theorem wx_join1 {g : GP} {adr : Nat → Nat} {μ : Mem} {x1 x2 x3 : Int32} {φ : Mem → Prop} (hC₉ : CT g yX7_join mX7_join (RM 20 1 6) (WM g adr μ) (.ref (adr 0) :: [.int x1, .int x2, .int x3]) (PM g adr (.inr "java/lang/IndexOutOfBoundsException") φ)) : CW g yL_join mL_join (RM 21 1 6) (WM g adr μ) [.ref (adr 0), .int x1, .int x2, .int x3, .ref (adr 247)] (PM g adr (.inl (some (.int (nI 1)))) (φ)) := by
  refine CW.of (l0 := [some (.ref (adr 0)), some (.int x1), some (.int x2), some (.int x3), some (.ref (adr 247)), none]) (by decide +kernel) rfl (Nat.le_of_ble_eq_true rfl) rfl ?_
  refine J.al4 dL_join_0 ?_
  refine J.iconst dL_join_2 kI_0 ?_
  refine J.al0 dL_join_3 ?_
  refine J.il1 dL_join_4 ?_
  refine J.il2 dL_join_5 ?_
  refine J.il3 dL_join_6 ?_
  refine cx_L_58 rfl (by decide) (k' := 1) (n' := 6) hC₉ ⟨⟨by decide, by decide⟩, ⟨rfl, rfl⟩, by decide, by decide⟩ rfl dL_join_7 (fun μ1 h1₉ => ?_)
  refine JX.catch (pre := []) (suf := [(0, 12, 19, 24)]) (lo := 0) (hi := 12) (h := 15) (ct := 13) rfl rfl (fun z hz₉ => by cases hz₉) (by decide) (by decide) (by decide) t_331 nw_345 (fun q => ?_)
  refine J.as5 dL_join_15 (by decide) rfl ?_
  refine J.iconst dL_join_17 kI_1 ?_
  exact J.iret rfl (by decide) (by decide) dL_join_18 ⟨_, rfl, rfl, h1₉⟩

set_option maxRecDepth 100000 in
theorem wx_join2 {g : GP} {adr : Nat → Nat} {μ : Mem} {x1 x2 x3 : Int32} {φ : Mem → Prop} (hC₉ : CT g yX7_join mX7_join (RM 20 1 6) (WM g adr μ) (.ref (adr 0) :: [.int x1, .int x2, .int x3]) (PM g adr (.inr "java/lang/UnsupportedOperationException") φ)) : CW g yL_join mL_join (RM 21 1 6) (WM g adr μ) [.ref (adr 0), .int x1, .int x2, .int x3, .ref (adr 247)] (PM g adr (.inl (some (.int (nI 2)))) (φ)) := by
  refine CW.of (l0 := [some (.ref (adr 0)), some (.int x1), some (.int x2), some (.int x3), some (.ref (adr 247)), none]) (by decide +kernel) rfl (Nat.le_of_ble_eq_true rfl) rfl ?_
  refine J.al4 dL_join_0 ?_
  refine J.iconst dL_join_2 kI_0 ?_
  refine J.al0 dL_join_3 ?_
  refine J.il1 dL_join_4 ?_
  refine J.il2 dL_join_5 ?_
  refine J.il3 dL_join_6 ?_
  refine cx_L_58 rfl (by decide) (k' := 1) (n' := 6) hC₉ ⟨⟨by decide, by decide⟩, ⟨rfl, rfl⟩, by decide, by decide⟩ rfl dL_join_7 (fun μ1 h1₉ => ?_)
  refine JX.catch (pre := [(0, 12, 15, 13)]) (suf := []) (lo := 0) (hi := 12) (h := 19) (ct := 24) rfl rfl (List.forall_mem_cons.mpr ⟨⟨by decide, _, t_331, by decide, by decide⟩, (fun z hz₉ => by cases hz₉)⟩) (by decide) (by decide) (by decide) t_482 nw_491 (fun q => ?_)
  refine J.as5 dL_join_19 (by decide) rfl ?_
  refine J.iconst dL_join_21 kI_2 ?_
  exact J.iret rfl (by decide) (by decide) dL_join_22 ⟨_, rfl, rfl, h1₉⟩

set_option maxRecDepth 100000 in
theorem w_invert {g : GP} {adr : Nat → Nat} {μ : Mem} {x1 x2 : Int32} {v : Int32} {φ : Mem → Prop} (hC₉ : CT g yX7_invert mX7_invert (RM 20 1 6) (WM g adr μ) (.ref (adr 0) :: [.int x1, .int x2]) (PM g adr (.inl (some (.int v))) φ)) : CW g yL_invert mL_invert (RM 21 1 6) (WM g adr μ) [.ref (adr 0), .int x1, .int x2, .ref (adr 247)] (PM g adr (.inl (some (.int (nI 0)))) (fun μ' => ∃ μ1, φ μ1 ∧ μ' = wr μ1 247 0 v)) := by
  refine CW.of (l0 := [some (.ref (adr 0)), some (.int x1), some (.int x2), some (.ref (adr 247)), none]) (by decide +kernel) rfl (Nat.le_of_ble_eq_true rfl) rfl ?_
  refine J.al3 dL_invert_0 ?_
  refine J.iconst dL_invert_1 kI_0 ?_
  refine J.al0 dL_invert_2 ?_
  refine J.il1 dL_invert_3 ?_
  refine J.il2 dL_invert_4 ?_
  refine cl_L_62 rfl (by decide) (k' := 1) (n' := 6) hC₉ ⟨⟨by decide, by decide⟩, ⟨rfl, rfl⟩, by decide, by decide⟩ rfl dL_invert_5 (fun μ1 h1₉ => ?_)
  refine J.i2l dL_invert_8 ?_
  refine J.last (x := v) (by decide) (by decide) rfl dL_invert_9 ?_
  refine J.goto (tgt := 21) dL_invert_10 (by decide) ?_
  refine J.iconst dL_invert_21 kI_0 ?_
  exact J.iret rfl (by decide) (by decide) dL_invert_22 ⟨_, rfl, rfl, _, h1₉, by first | rfl | rw [if_pos hP₉] | rw [if_neg hP₉]⟩

set_option maxRecDepth 100000 in
theorem wx_invert1 {g : GP} {adr : Nat → Nat} {μ : Mem} {x1 x2 : Int32} {φ : Mem → Prop} (hC₉ : CT g yX7_invert mX7_invert (RM 20 1 6) (WM g adr μ) (.ref (adr 0) :: [.int x1, .int x2]) (PM g adr (.inr "java/lang/IndexOutOfBoundsException") φ)) : CW g yL_invert mL_invert (RM 21 1 6) (WM g adr μ) [.ref (adr 0), .int x1, .int x2, .ref (adr 247)] (PM g adr (.inl (some (.int (nI 1)))) (φ)) := by
  refine CW.of (l0 := [some (.ref (adr 0)), some (.int x1), some (.int x2), some (.ref (adr 247)), none]) (by decide +kernel) rfl (Nat.le_of_ble_eq_true rfl) rfl ?_
  refine J.al3 dL_invert_0 ?_
  refine J.iconst dL_invert_1 kI_0 ?_
  refine J.al0 dL_invert_2 ?_
  refine J.il1 dL_invert_3 ?_
  refine J.il2 dL_invert_4 ?_
  refine cx_L_62 rfl (by decide) (k' := 1) (n' := 6) hC₉ ⟨⟨by decide, by decide⟩, ⟨rfl, rfl⟩, by decide, by decide⟩ rfl dL_invert_5 (fun μ1 h1₉ => ?_)
  refine JX.catch (pre := []) (suf := [(0, 10, 17, 24)]) (lo := 0) (hi := 10) (h := 13) (ct := 13) rfl rfl (fun z hz₉ => by cases hz₉) (by decide) (by decide) (by decide) t_331 nw_345 (fun q => ?_)
  refine J.as4 dL_invert_13 (by decide) rfl ?_
  refine J.iconst dL_invert_15 kI_1 ?_
  exact J.iret rfl (by decide) (by decide) dL_invert_16 ⟨_, rfl, rfl, h1₉⟩
