/-! ===== printed: the law's wrappers ===== -/
set_option maxRecDepth 100000 in
theorem wx_invert2 {g : GP} {adr : Nat → Nat} {μ : Mem} {x1 x2 : Int32} {φ : Mem → Prop} (hC₉ : CT g yX7_invert mX7_invert (RM 20 1 6) (WM g adr μ) (.ref (adr 0) :: [.int x1, .int x2]) (PM g adr (.inr "java/lang/UnsupportedOperationException") φ)) : CW g yL_invert mL_invert (RM 21 1 6) (WM g adr μ) [.ref (adr 0), .int x1, .int x2, .ref (adr 247)] (PM g adr (.inl (some (.int (nI 2)))) (φ)) := by
  refine CW.of (l0 := [some (.ref (adr 0)), some (.int x1), some (.int x2), some (.ref (adr 247)), none]) (by decide +kernel) rfl (Nat.le_of_ble_eq_true rfl) rfl ?_
  refine J.al3 dL_invert_0 ?_
  refine J.iconst dL_invert_1 kI_0 ?_
  refine J.al0 dL_invert_2 ?_
  refine J.il1 dL_invert_3 ?_
  refine J.il2 dL_invert_4 ?_
  refine cx_L_62 rfl (by decide) (k' := 1) (n' := 6) hC₉ ⟨⟨by decide, by decide⟩, ⟨rfl, rfl⟩, by decide, by decide⟩ rfl dL_invert_5 (fun μ1 h1₉ => ?_)
  refine JX.catch (pre := [(0, 10, 13, 13)]) (suf := []) (lo := 0) (hi := 10) (h := 17) (ct := 24) rfl rfl (List.forall_mem_cons.mpr ⟨⟨by decide, _, t_331, by decide, by decide⟩, (fun z hz₉ => by cases hz₉)⟩) (by decide) (by decide) (by decide) t_482 nw_491 (fun q => ?_)
  refine J.as4 dL_invert_17 (by decide) rfl ?_
  refine J.iconst dL_invert_19 kI_2 ?_
  exact J.iret rfl (by decide) (by decide) dL_invert_20 ⟨_, rfl, rfl, h1₉⟩

set_option maxRecDepth 100000 in
theorem w_commute {g : GP} {adr : Nat → Nat} {μ : Mem} {x1 x2 x3 : Int32} {v : Int32} {φ : Mem → Prop} (hC₉ : CT g yX7_commute mX7_commute (RM 20 1 6) (WM g adr μ) (.ref (adr 0) :: [.int x1, .int x2, .int x3]) (PM g adr (.inl (some (.int v))) φ)) : CW g yL_commute mL_commute (RM 21 1 6) (WM g adr μ) [.ref (adr 0), .int x1, .int x2, .int x3, .ref (adr 247)] (PM g adr (.inl (some (.int (nI 0)))) (fun μ' => ∃ μ1, φ μ1 ∧ μ' = wr μ1 247 0 v)) := by
  refine CW.of (l0 := [some (.ref (adr 0)), some (.int x1), some (.int x2), some (.int x3), some (.ref (adr 247)), none]) (by decide +kernel) rfl (Nat.le_of_ble_eq_true rfl) rfl ?_
  refine J.al4 dL_commute_0 ?_
  refine J.iconst dL_commute_2 kI_0 ?_
  refine J.al0 dL_commute_3 ?_
  refine J.il1 dL_commute_4 ?_
  refine J.il2 dL_commute_5 ?_
  refine J.il3 dL_commute_6 ?_
  refine cl_L_65 rfl (by decide) (k' := 1) (n' := 6) hC₉ ⟨⟨by decide, by decide⟩, ⟨rfl, rfl⟩, by decide, by decide⟩ rfl dL_commute_7 (fun μ1 h1₉ => ?_)
  refine J.i2l dL_commute_10 ?_
  refine J.last (x := v) (by decide) (by decide) rfl dL_commute_11 ?_
  refine J.goto (tgt := 23) dL_commute_12 (by decide) ?_
  refine J.iconst dL_commute_23 kI_0 ?_
  exact J.iret rfl (by decide) (by decide) dL_commute_24 ⟨_, rfl, rfl, _, h1₉, by first | rfl | rw [if_pos hP₉] | rw [if_neg hP₉]⟩

set_option maxRecDepth 100000 in
theorem wx_commute1 {g : GP} {adr : Nat → Nat} {μ : Mem} {x1 x2 x3 : Int32} {φ : Mem → Prop} (hC₉ : CT g yX7_commute mX7_commute (RM 20 1 6) (WM g adr μ) (.ref (adr 0) :: [.int x1, .int x2, .int x3]) (PM g adr (.inr "java/lang/IndexOutOfBoundsException") φ)) : CW g yL_commute mL_commute (RM 21 1 6) (WM g adr μ) [.ref (adr 0), .int x1, .int x2, .int x3, .ref (adr 247)] (PM g adr (.inl (some (.int (nI 1)))) (φ)) := by
  refine CW.of (l0 := [some (.ref (adr 0)), some (.int x1), some (.int x2), some (.int x3), some (.ref (adr 247)), none]) (by decide +kernel) rfl (Nat.le_of_ble_eq_true rfl) rfl ?_
  refine J.al4 dL_commute_0 ?_
  refine J.iconst dL_commute_2 kI_0 ?_
  refine J.al0 dL_commute_3 ?_
  refine J.il1 dL_commute_4 ?_
  refine J.il2 dL_commute_5 ?_
  refine J.il3 dL_commute_6 ?_
  refine cx_L_65 rfl (by decide) (k' := 1) (n' := 6) hC₉ ⟨⟨by decide, by decide⟩, ⟨rfl, rfl⟩, by decide, by decide⟩ rfl dL_commute_7 (fun μ1 h1₉ => ?_)
  refine JX.catch (pre := []) (suf := [(0, 12, 19, 24)]) (lo := 0) (hi := 12) (h := 15) (ct := 13) rfl rfl (fun z hz₉ => by cases hz₉) (by decide) (by decide) (by decide) t_331 nw_345 (fun q => ?_)
  refine J.as5 dL_commute_15 (by decide) rfl ?_
  refine J.iconst dL_commute_17 kI_1 ?_
  exact J.iret rfl (by decide) (by decide) dL_commute_18 ⟨_, rfl, rfl, h1₉⟩

set_option maxRecDepth 100000 in
theorem wx_commute2 {g : GP} {adr : Nat → Nat} {μ : Mem} {x1 x2 x3 : Int32} {φ : Mem → Prop} (hC₉ : CT g yX7_commute mX7_commute (RM 20 1 6) (WM g adr μ) (.ref (adr 0) :: [.int x1, .int x2, .int x3]) (PM g adr (.inr "java/lang/UnsupportedOperationException") φ)) : CW g yL_commute mL_commute (RM 21 1 6) (WM g adr μ) [.ref (adr 0), .int x1, .int x2, .int x3, .ref (adr 247)] (PM g adr (.inl (some (.int (nI 2)))) (φ)) := by
  refine CW.of (l0 := [some (.ref (adr 0)), some (.int x1), some (.int x2), some (.int x3), some (.ref (adr 247)), none]) (by decide +kernel) rfl (Nat.le_of_ble_eq_true rfl) rfl ?_
  refine J.al4 dL_commute_0 ?_
  refine J.iconst dL_commute_2 kI_0 ?_
  refine J.al0 dL_commute_3 ?_
  refine J.il1 dL_commute_4 ?_
  refine J.il2 dL_commute_5 ?_
  refine J.il3 dL_commute_6 ?_
  refine cx_L_65 rfl (by decide) (k' := 1) (n' := 6) hC₉ ⟨⟨by decide, by decide⟩, ⟨rfl, rfl⟩, by decide, by decide⟩ rfl dL_commute_7 (fun μ1 h1₉ => ?_)
  refine JX.catch (pre := [(0, 12, 15, 13)]) (suf := []) (lo := 0) (hi := 12) (h := 19) (ct := 24) rfl rfl (List.forall_mem_cons.mpr ⟨⟨by decide, _, t_331, by decide, by decide⟩, (fun z hz₉ => by cases hz₉)⟩) (by decide) (by decide) (by decide) t_482 nw_491 (fun q => ?_)
  refine J.as5 dL_commute_19 (by decide) rfl ?_
  refine J.iconst dL_commute_21 kI_2 ?_
  exact J.iret rfl (by decide) (by decide) dL_commute_22 ⟨_, rfl, rfl, h1₉⟩

set_option maxRecDepth 100000 in
theorem w_forget {g : GP} {adr : Nat → Nat} {μ : Mem} {x1 : Int32} {v : Int32} {φ : Mem → Prop} (hC₉ : CT g yX7_forget mX7_forget (RM 20 1 6) (WM g adr μ) (.ref (adr 0) :: [.int x1]) (PM g adr (.inl (some (.int v))) φ)) : CW g yL_forget mL_forget (RM 21 1 6) (WM g adr μ) [.ref (adr 0), .int x1, .ref (adr 247)] (PM g adr (.inl (some (.int (nI 0)))) (fun μ' => ∃ μ1, φ μ1 ∧ μ' = wr μ1 247 0 v)) := by
  refine CW.of (l0 := [some (.ref (adr 0)), some (.int x1), some (.ref (adr 247)), none]) (by decide +kernel) rfl (Nat.le_of_ble_eq_true rfl) rfl ?_
  refine J.al2 dL_forget_0 ?_
  refine J.iconst dL_forget_1 kI_0 ?_
  refine J.al0 dL_forget_2 ?_
  refine J.il1 dL_forget_3 ?_
  refine cl_L_68 rfl (by decide) (k' := 1) (n' := 6) hC₉ ⟨⟨by decide, by decide⟩, ⟨rfl, rfl⟩, by decide, by decide⟩ rfl dL_forget_4 (fun μ1 h1₉ => ?_)
  refine J.i2l dL_forget_7 ?_
  refine J.last (x := v) (by decide) (by decide) rfl dL_forget_8 ?_
  refine J.goto (tgt := 18) dL_forget_9 (by decide) ?_
  refine J.iconst dL_forget_18 kI_0 ?_
  exact J.iret rfl (by decide) (by decide) dL_forget_19 ⟨_, rfl, rfl, _, h1₉, by first | rfl | rw [if_pos hP₉] | rw [if_neg hP₉]⟩

set_option maxRecDepth 100000 in
theorem wx_forget1 {g : GP} {adr : Nat → Nat} {μ : Mem} {x1 : Int32} {φ : Mem → Prop} (hC₉ : CT g yX7_forget mX7_forget (RM 20 1 6) (WM g adr μ) (.ref (adr 0) :: [.int x1]) (PM g adr (.inr "java/lang/IndexOutOfBoundsException") φ)) : CW g yL_forget mL_forget (RM 21 1 6) (WM g adr μ) [.ref (adr 0), .int x1, .ref (adr 247)] (PM g adr (.inl (some (.int (nI 1)))) (φ)) := by
  refine CW.of (l0 := [some (.ref (adr 0)), some (.int x1), some (.ref (adr 247)), none]) (by decide +kernel) rfl (Nat.le_of_ble_eq_true rfl) rfl ?_
  refine J.al2 dL_forget_0 ?_
  refine J.iconst dL_forget_1 kI_0 ?_
  refine J.al0 dL_forget_2 ?_
  refine J.il1 dL_forget_3 ?_
  refine cx_L_68 rfl (by decide) (k' := 1) (n' := 6) hC₉ ⟨⟨by decide, by decide⟩, ⟨rfl, rfl⟩, by decide, by decide⟩ rfl dL_forget_4 (fun μ1 h1₉ => ?_)
  refine JX.catch (pre := []) (suf := [(0, 9, 15, 24)]) (lo := 0) (hi := 9) (h := 12) (ct := 13) rfl rfl (fun z hz₉ => by cases hz₉) (by decide) (by decide) (by decide) t_331 nw_345 (fun q => ?_)
  refine J.as3 dL_forget_12 (by decide) rfl ?_
  refine J.iconst dL_forget_13 kI_1 ?_
  exact J.iret rfl (by decide) (by decide) dL_forget_14 ⟨_, rfl, rfl, h1₉⟩

set_option maxRecDepth 100000 in
theorem wx_forget2 {g : GP} {adr : Nat → Nat} {μ : Mem} {x1 : Int32} {φ : Mem → Prop} (hC₉ : CT g yX7_forget mX7_forget (RM 20 1 6) (WM g adr μ) (.ref (adr 0) :: [.int x1]) (PM g adr (.inr "java/lang/UnsupportedOperationException") φ)) : CW g yL_forget mL_forget (RM 21 1 6) (WM g adr μ) [.ref (adr 0), .int x1, .ref (adr 247)] (PM g adr (.inl (some (.int (nI 2)))) (φ)) := by
  refine CW.of (l0 := [some (.ref (adr 0)), some (.int x1), some (.ref (adr 247)), none]) (by decide +kernel) rfl (Nat.le_of_ble_eq_true rfl) rfl ?_
  refine J.al2 dL_forget_0 ?_
  refine J.iconst dL_forget_1 kI_0 ?_
  refine J.al0 dL_forget_2 ?_
  refine J.il1 dL_forget_3 ?_
  refine cx_L_68 rfl (by decide) (k' := 1) (n' := 6) hC₉ ⟨⟨by decide, by decide⟩, ⟨rfl, rfl⟩, by decide, by decide⟩ rfl dL_forget_4 (fun μ1 h1₉ => ?_)
  refine JX.catch (pre := [(0, 9, 12, 13)]) (suf := []) (lo := 0) (hi := 9) (h := 15) (ct := 24) rfl rfl (List.forall_mem_cons.mpr ⟨⟨by decide, _, t_331, by decide, by decide⟩, (fun z hz₉ => by cases hz₉)⟩) (by decide) (by decide) (by decide) t_482 nw_491 (fun q => ?_)
  refine J.as3 dL_forget_15 (by decide) rfl ?_
  refine J.iconst dL_forget_16 kI_2 ?_
  exact J.iret rfl (by decide) (by decide) dL_forget_17 ⟨_, rfl, rfl, h1₉⟩

set_option maxRecDepth 100000 in
theorem w_goesTo {g : GP} {adr : Nat → Nat} {μ : Mem} {x1 x2 : Int32} {v : Int32} {φ : Mem → Prop} (hC₉ : CT g yX7_goesTo mX7_goesTo (RM 20 1 6) (WM g adr μ) (.ref (adr 0) :: [.int x1, .int x2]) (PM g adr (.inl (some (.int v))) φ)) : CW g yL_goesTo mL_goesTo (RM 21 1 6) (WM g adr μ) [.ref (adr 0), .int x1, .int x2, .ref (adr 247)] (PM g adr (.inl (some (.int (nI 0)))) (fun μ' => ∃ μ1, φ μ1 ∧ μ' = wr μ1 247 0 v)) := by
  refine CW.of (l0 := [some (.ref (adr 0)), some (.int x1), some (.int x2), some (.ref (adr 247)), none]) (by decide +kernel) rfl (Nat.le_of_ble_eq_true rfl) rfl ?_
  refine J.al3 dL_goesTo_0 ?_
  refine J.iconst dL_goesTo_1 kI_0 ?_
  refine J.al0 dL_goesTo_2 ?_
  refine J.il1 dL_goesTo_3 ?_
  refine J.il2 dL_goesTo_4 ?_
  refine cl_L_71 rfl (by decide) (k' := 1) (n' := 6) hC₉ ⟨⟨by decide, by decide⟩, ⟨rfl, rfl⟩, by decide, by decide⟩ rfl dL_goesTo_5 (fun μ1 h1₉ => ?_)
  refine J.i2l dL_goesTo_8 ?_
  refine J.last (x := v) (by decide) (by decide) rfl dL_goesTo_9 ?_
  refine J.goto (tgt := 21) dL_goesTo_10 (by decide) ?_
  refine J.iconst dL_goesTo_21 kI_0 ?_
  exact J.iret rfl (by decide) (by decide) dL_goesTo_22 ⟨_, rfl, rfl, _, h1₉, by first | rfl | rw [if_pos hP₉] | rw [if_neg hP₉]⟩

set_option maxRecDepth 100000 in
theorem wx_goesTo1 {g : GP} {adr : Nat → Nat} {μ : Mem} {x1 x2 : Int32} {φ : Mem → Prop} (hC₉ : CT g yX7_goesTo mX7_goesTo (RM 20 1 6) (WM g adr μ) (.ref (adr 0) :: [.int x1, .int x2]) (PM g adr (.inr "java/lang/IndexOutOfBoundsException") φ)) : CW g yL_goesTo mL_goesTo (RM 21 1 6) (WM g adr μ) [.ref (adr 0), .int x1, .int x2, .ref (adr 247)] (PM g adr (.inl (some (.int (nI 1)))) (φ)) := by
  refine CW.of (l0 := [some (.ref (adr 0)), some (.int x1), some (.int x2), some (.ref (adr 247)), none]) (by decide +kernel) rfl (Nat.le_of_ble_eq_true rfl) rfl ?_
  refine J.al3 dL_goesTo_0 ?_
  refine J.iconst dL_goesTo_1 kI_0 ?_
  refine J.al0 dL_goesTo_2 ?_
  refine J.il1 dL_goesTo_3 ?_
  refine J.il2 dL_goesTo_4 ?_
  refine cx_L_71 rfl (by decide) (k' := 1) (n' := 6) hC₉ ⟨⟨by decide, by decide⟩, ⟨rfl, rfl⟩, by decide, by decide⟩ rfl dL_goesTo_5 (fun μ1 h1₉ => ?_)
  refine JX.catch (pre := []) (suf := [(0, 10, 17, 74)]) (lo := 0) (hi := 10) (h := 13) (ct := 13) rfl rfl (fun z hz₉ => by cases hz₉) (by decide) (by decide) (by decide) t_331 nw_345 (fun q => ?_)
  refine J.as4 dL_goesTo_13 (by decide) rfl ?_
  refine J.iconst dL_goesTo_15 kI_1 ?_
  exact J.iret rfl (by decide) (by decide) dL_goesTo_16 ⟨_, rfl, rfl, h1₉⟩

set_option maxRecDepth 100000 in
theorem wx_goesTo2 {g : GP} {adr : Nat → Nat} {μ : Mem} {x1 x2 : Int32} {φ : Mem → Prop} (hC₉ : CT g yX7_goesTo mX7_goesTo (RM 20 1 6) (WM g adr μ) (.ref (adr 0) :: [.int x1, .int x2]) (PM g adr (.inr "java/util/NoSuchElementException") φ)) : CW g yL_goesTo mL_goesTo (RM 21 1 6) (WM g adr μ) [.ref (adr 0), .int x1, .int x2, .ref (adr 247)] (PM g adr (.inl (some (.int (nI 2)))) (φ)) := by
  refine CW.of (l0 := [some (.ref (adr 0)), some (.int x1), some (.int x2), some (.ref (adr 247)), none]) (by decide +kernel) rfl (Nat.le_of_ble_eq_true rfl) rfl ?_
  refine J.al3 dL_goesTo_0 ?_
  refine J.iconst dL_goesTo_1 kI_0 ?_
  refine J.al0 dL_goesTo_2 ?_
  refine J.il1 dL_goesTo_3 ?_
  refine J.il2 dL_goesTo_4 ?_
  refine cx_L_71 rfl (by decide) (k' := 1) (n' := 6) hC₉ ⟨⟨by decide, by decide⟩, ⟨rfl, rfl⟩, by decide, by decide⟩ rfl dL_goesTo_5 (fun μ1 h1₉ => ?_)
  refine JX.catch (pre := [(0, 10, 13, 13)]) (suf := []) (lo := 0) (hi := 10) (h := 17) (ct := 74) rfl rfl (List.forall_mem_cons.mpr ⟨⟨by decide, _, t_331, by decide, by decide⟩, (fun z hz₉ => by cases hz₉)⟩) (by decide) (by decide) (by decide) t_747 nw_756 (fun q => ?_)
  refine J.as4 dL_goesTo_17 (by decide) rfl ?_
  refine J.iconst dL_goesTo_19 kI_2 ?_
  exact J.iret rfl (by decide) (by decide) dL_goesTo_20 ⟨_, rfl, rfl, h1₉⟩

set_option maxRecDepth 100000 in
theorem w_shelfOf {g : GP} {adr : Nat → Nat} {μ : Mem} {x1 x2 : Int32} {v : Int32} {φ : Mem → Prop} (hC₉ : CT g yX7_shelfOf mX7_shelfOf (RM 20 1 6) (WM g adr μ) (.ref (adr 0) :: [.int x1, .int x2]) (PM g adr (.inl (some (.int v))) φ)) : CW g yL_shelfOf mL_shelfOf (RM 21 1 6) (WM g adr μ) [.ref (adr 0), .int x1, .int x2, .ref (adr 247)] (PM g adr (.inl (some (.int (nI 0)))) (fun μ' => ∃ μ1, φ μ1 ∧ μ' = wr μ1 247 0 v)) := by
  refine CW.of (l0 := [some (.ref (adr 0)), some (.int x1), some (.int x2), some (.ref (adr 247)), none]) (by decide +kernel) rfl (Nat.le_of_ble_eq_true rfl) rfl ?_
  refine J.al3 dL_shelfOf_0 ?_
  refine J.iconst dL_shelfOf_1 kI_0 ?_
  refine J.al0 dL_shelfOf_2 ?_
  refine J.il1 dL_shelfOf_3 ?_
  refine J.il2 dL_shelfOf_4 ?_
  refine cl_L_76 rfl (by decide) (k' := 1) (n' := 6) hC₉ ⟨⟨by decide, by decide⟩, ⟨rfl, rfl⟩, by decide, by decide⟩ rfl dL_shelfOf_5 (fun μ1 h1₉ => ?_)
  refine J.i2l dL_shelfOf_8 ?_
  refine J.last (x := v) (by decide) (by decide) rfl dL_shelfOf_9 ?_
  refine J.goto (tgt := 25) dL_shelfOf_10 (by decide) ?_
  refine J.iconst dL_shelfOf_25 kI_0 ?_
  exact J.iret rfl (by decide) (by decide) dL_shelfOf_26 ⟨_, rfl, rfl, _, h1₉, by first | rfl | rw [if_pos hP₉] | rw [if_neg hP₉]⟩

set_option maxRecDepth 100000 in
theorem wx_shelfOf1 {g : GP} {adr : Nat → Nat} {μ : Mem} {x1 x2 : Int32} {φ : Mem → Prop} (hC₉ : CT g yX7_shelfOf mX7_shelfOf (RM 20 1 6) (WM g adr μ) (.ref (adr 0) :: [.int x1, .int x2]) (PM g adr (.inr "java/lang/IndexOutOfBoundsException") φ)) : CW g yL_shelfOf mL_shelfOf (RM 21 1 6) (WM g adr μ) [.ref (adr 0), .int x1, .int x2, .ref (adr 247)] (PM g adr (.inl (some (.int (nI 1)))) (φ)) := by
  refine CW.of (l0 := [some (.ref (adr 0)), some (.int x1), some (.int x2), some (.ref (adr 247)), none]) (by decide +kernel) rfl (Nat.le_of_ble_eq_true rfl) rfl ?_
  refine J.al3 dL_shelfOf_0 ?_
  refine J.iconst dL_shelfOf_1 kI_0 ?_
  refine J.al0 dL_shelfOf_2 ?_
  refine J.il1 dL_shelfOf_3 ?_
  refine J.il2 dL_shelfOf_4 ?_
  refine cx_L_76 rfl (by decide) (k' := 1) (n' := 6) hC₉ ⟨⟨by decide, by decide⟩, ⟨rfl, rfl⟩, by decide, by decide⟩ rfl dL_shelfOf_5 (fun μ1 h1₉ => ?_)
  refine JX.catch (pre := []) (suf := [(0, 10, 17, 15), (0, 10, 21, 74)]) (lo := 0) (hi := 10) (h := 13) (ct := 13) rfl rfl (fun z hz₉ => by cases hz₉) (by decide) (by decide) (by decide) t_331 nw_345 (fun q => ?_)
  refine J.as4 dL_shelfOf_13 (by decide) rfl ?_
  refine J.iconst dL_shelfOf_15 kI_1 ?_
  exact J.iret rfl (by decide) (by decide) dL_shelfOf_16 ⟨_, rfl, rfl, h1₉⟩

set_option maxRecDepth 100000 in
theorem wx_shelfOf2 {g : GP} {adr : Nat → Nat} {μ : Mem} {x1 x2 : Int32} {φ : Mem → Prop} (hC₉ : CT g yX7_shelfOf mX7_shelfOf (RM 20 1 6) (WM g adr μ) (.ref (adr 0) :: [.int x1, .int x2]) (PM g adr (.inr "java/lang/IllegalArgumentException") φ)) : CW g yL_shelfOf mL_shelfOf (RM 21 1 6) (WM g adr μ) [.ref (adr 0), .int x1, .int x2, .ref (adr 247)] (PM g adr (.inl (some (.int (nI 2)))) (φ)) := by
  refine CW.of (l0 := [some (.ref (adr 0)), some (.int x1), some (.int x2), some (.ref (adr 247)), none]) (by decide +kernel) rfl (Nat.le_of_ble_eq_true rfl) rfl ?_
  refine J.al3 dL_shelfOf_0 ?_
  refine J.iconst dL_shelfOf_1 kI_0 ?_
  refine J.al0 dL_shelfOf_2 ?_
  refine J.il1 dL_shelfOf_3 ?_
  refine J.il2 dL_shelfOf_4 ?_
  refine cx_L_76 rfl (by decide) (k' := 1) (n' := 6) hC₉ ⟨⟨by decide, by decide⟩, ⟨rfl, rfl⟩, by decide, by decide⟩ rfl dL_shelfOf_5 (fun μ1 h1₉ => ?_)
  refine JX.catch (pre := [(0, 10, 13, 13)]) (suf := [(0, 10, 21, 74)]) (lo := 0) (hi := 10) (h := 17) (ct := 15) rfl rfl (List.forall_mem_cons.mpr ⟨⟨by decide, _, t_331, by decide, by decide⟩, (fun z hz₉ => by cases hz₉)⟩) (by decide) (by decide) (by decide) t_332 nw_418 (fun q => ?_)
  refine J.as4 dL_shelfOf_17 (by decide) rfl ?_
  refine J.iconst dL_shelfOf_19 kI_2 ?_
  exact J.iret rfl (by decide) (by decide) dL_shelfOf_20 ⟨_, rfl, rfl, h1₉⟩

set_option maxRecDepth 100000 in
theorem wx_shelfOf3 {g : GP} {adr : Nat → Nat} {μ : Mem} {x1 x2 : Int32} {φ : Mem → Prop} (hC₉ : CT g yX7_shelfOf mX7_shelfOf (RM 20 1 6) (WM g adr μ) (.ref (adr 0) :: [.int x1, .int x2]) (PM g adr (.inr "java/util/NoSuchElementException") φ)) : CW g yL_shelfOf mL_shelfOf (RM 21 1 6) (WM g adr μ) [.ref (adr 0), .int x1, .int x2, .ref (adr 247)] (PM g adr (.inl (some (.int (nI 3)))) (φ)) := by
  refine CW.of (l0 := [some (.ref (adr 0)), some (.int x1), some (.int x2), some (.ref (adr 247)), none]) (by decide +kernel) rfl (Nat.le_of_ble_eq_true rfl) rfl ?_
  refine J.al3 dL_shelfOf_0 ?_
  refine J.iconst dL_shelfOf_1 kI_0 ?_
  refine J.al0 dL_shelfOf_2 ?_
  refine J.il1 dL_shelfOf_3 ?_
  refine J.il2 dL_shelfOf_4 ?_
  refine cx_L_76 rfl (by decide) (k' := 1) (n' := 6) hC₉ ⟨⟨by decide, by decide⟩, ⟨rfl, rfl⟩, by decide, by decide⟩ rfl dL_shelfOf_5 (fun μ1 h1₉ => ?_)
  refine JX.catch (pre := [(0, 10, 13, 13), (0, 10, 17, 15)]) (suf := []) (lo := 0) (hi := 10) (h := 21) (ct := 74) rfl rfl (List.forall_mem_cons.mpr ⟨⟨by decide, _, t_331, by decide, by decide⟩, (List.forall_mem_cons.mpr ⟨⟨by decide, _, t_332, by decide, by decide⟩, (fun z hz₉ => by cases hz₉)⟩)⟩) (by decide) (by decide) (by decide) t_747 nw_756 (fun q => ?_)
  refine J.as4 dL_shelfOf_21 (by decide) rfl ?_
  refine J.iconst dL_shelfOf_23 kI_3 ?_
  exact J.iret rfl (by decide) (by decide) dL_shelfOf_24 ⟨_, rfl, rfl, h1₉⟩

set_option maxRecDepth 100000 in
theorem w_orderAgain {g : GP} {adr : Nat → Nat} {μ : Mem} {x1 : Int32} {v : Int32} {φ : Mem → Prop} (hC₉ : CT g yX7_orderAgain mX7_orderAgain (RM 20 1 6) (WM g adr μ) (.ref (adr 0) :: [.int x1]) (PM g adr (.inl (some (.int v))) φ)) : CW g yL_orderAgain mL_orderAgain (RM 21 1 6) (WM g adr μ) [.ref (adr 0), .int x1, .ref (adr 247)] (PM g adr (.inl (some (.int (nI 0)))) (fun μ' => ∃ μ1, φ μ1 ∧ μ' = wr μ1 247 0 v)) := by
  refine CW.of (l0 := [some (.ref (adr 0)), some (.int x1), some (.ref (adr 247)), none]) (by decide +kernel) rfl (Nat.le_of_ble_eq_true rfl) rfl ?_
  refine J.al2 dL_orderAgain_0 ?_
  refine J.iconst dL_orderAgain_1 kI_0 ?_
  refine J.al0 dL_orderAgain_2 ?_
  refine J.il1 dL_orderAgain_3 ?_
  refine cl_L_79 rfl (by decide) (k' := 1) (n' := 6) hC₉ ⟨⟨by decide, by decide⟩, ⟨rfl, rfl⟩, by decide, by decide⟩ rfl dL_orderAgain_4 (fun μ1 h1₉ => ?_)
  refine J.i2l dL_orderAgain_7 ?_
  refine J.last (x := v) (by decide) (by decide) rfl dL_orderAgain_8 ?_
  refine J.goto (tgt := 18) dL_orderAgain_9 (by decide) ?_
  refine J.iconst dL_orderAgain_18 kI_0 ?_
  exact J.iret rfl (by decide) (by decide) dL_orderAgain_19 ⟨_, rfl, rfl, _, h1₉, by first | rfl | rw [if_pos hP₉] | rw [if_neg hP₉]⟩

set_option maxRecDepth 100000 in
theorem wx_orderAgain1 {g : GP} {adr : Nat → Nat} {μ : Mem} {x1 : Int32} {φ : Mem → Prop} (hC₉ : CT g yX7_orderAgain mX7_orderAgain (RM 20 1 6) (WM g adr μ) (.ref (adr 0) :: [.int x1]) (PM g adr (.inr "java/lang/IndexOutOfBoundsException") φ)) : CW g yL_orderAgain mL_orderAgain (RM 21 1 6) (WM g adr μ) [.ref (adr 0), .int x1, .ref (adr 247)] (PM g adr (.inl (some (.int (nI 1)))) (φ)) := by
  refine CW.of (l0 := [some (.ref (adr 0)), some (.int x1), some (.ref (adr 247)), none]) (by decide +kernel) rfl (Nat.le_of_ble_eq_true rfl) rfl ?_
  refine J.al2 dL_orderAgain_0 ?_
  refine J.iconst dL_orderAgain_1 kI_0 ?_
  refine J.al0 dL_orderAgain_2 ?_
  refine J.il1 dL_orderAgain_3 ?_
  refine cx_L_79 rfl (by decide) (k' := 1) (n' := 6) hC₉ ⟨⟨by decide, by decide⟩, ⟨rfl, rfl⟩, by decide, by decide⟩ rfl dL_orderAgain_4 (fun μ1 h1₉ => ?_)
  refine JX.catch (pre := []) (suf := [(0, 9, 15, 74)]) (lo := 0) (hi := 9) (h := 12) (ct := 13) rfl rfl (fun z hz₉ => by cases hz₉) (by decide) (by decide) (by decide) t_331 nw_345 (fun q => ?_)
  refine J.as3 dL_orderAgain_12 (by decide) rfl ?_
  refine J.iconst dL_orderAgain_13 kI_1 ?_
  exact J.iret rfl (by decide) (by decide) dL_orderAgain_14 ⟨_, rfl, rfl, h1₉⟩

set_option maxRecDepth 100000 in
theorem wx_orderAgain2 {g : GP} {adr : Nat → Nat} {μ : Mem} {x1 : Int32} {φ : Mem → Prop} (hC₉ : CT g yX7_orderAgain mX7_orderAgain (RM 20 1 6) (WM g adr μ) (.ref (adr 0) :: [.int x1]) (PM g adr (.inr "java/util/NoSuchElementException") φ)) : CW g yL_orderAgain mL_orderAgain (RM 21 1 6) (WM g adr μ) [.ref (adr 0), .int x1, .ref (adr 247)] (PM g adr (.inl (some (.int (nI 2)))) (φ)) := by
  refine CW.of (l0 := [some (.ref (adr 0)), some (.int x1), some (.ref (adr 247)), none]) (by decide +kernel) rfl (Nat.le_of_ble_eq_true rfl) rfl ?_
  refine J.al2 dL_orderAgain_0 ?_
  refine J.iconst dL_orderAgain_1 kI_0 ?_
  refine J.al0 dL_orderAgain_2 ?_
  refine J.il1 dL_orderAgain_3 ?_
  refine cx_L_79 rfl (by decide) (k' := 1) (n' := 6) hC₉ ⟨⟨by decide, by decide⟩, ⟨rfl, rfl⟩, by decide, by decide⟩ rfl dL_orderAgain_4 (fun μ1 h1₉ => ?_)
  refine JX.catch (pre := [(0, 9, 12, 13)]) (suf := []) (lo := 0) (hi := 9) (h := 15) (ct := 74) rfl rfl (List.forall_mem_cons.mpr ⟨⟨by decide, _, t_331, by decide, by decide⟩, (fun z hz₉ => by cases hz₉)⟩) (by decide) (by decide) (by decide) t_747 nw_756 (fun q => ?_)
  refine J.as3 dL_orderAgain_15 (by decide) rfl ?_
  refine J.iconst dL_orderAgain_16 kI_2 ?_
  exact J.iret rfl (by decide) (by decide) dL_orderAgain_17 ⟨_, rfl, rfl, h1₉⟩

set_option maxRecDepth 100000 in
theorem w_isEven {g : GP} {adr : Nat → Nat} {μ : Mem} {x1 x2 : Int32} {P : Prop} [Decidable P] {φ : Mem → Prop} (hC₉ : CT g yX7_isEven mX7_isEven (RM 20 1 6) (WM g adr μ) (.ref (adr 0) :: [.int x1, .int x2]) (PM g adr (.inl (some (.int (if P then nI 1 else nI 0)))) φ)) : CW g yL_isEven mL_isEven (RM 21 1 6) (WM g adr μ) [.ref (adr 0), .int x1, .int x2, .ref (adr 247)] (PM g adr (.inl (some (.int (nI 0)))) (fun μ' => ∃ μ1, φ μ1 ∧ μ' = wr μ1 247 0 (if P then nI 1 else nI 0))) := by
  refine CW.of (l0 := [some (.ref (adr 0)), some (.int x1), some (.int x2), some (.ref (adr 247)), none]) (by decide +kernel) rfl (Nat.le_of_ble_eq_true rfl) rfl ?_
  refine J.al3 dL_isEven_0 ?_
  refine J.iconst dL_isEven_1 kI_0 ?_
  refine J.al0 dL_isEven_2 ?_
  refine J.il1 dL_isEven_3 ?_
  refine J.il2 dL_isEven_4 ?_
  refine cl_L_82 rfl (by decide) (k' := 1) (n' := 6) hC₉ ⟨⟨by decide, by decide⟩, ⟨rfl, rfl⟩, by decide, by decide⟩ rfl dL_isEven_5 (fun μ1 h1₉ => ?_)
  refine J.if_eqB (tgt := 15) dL_isEven_8 (by decide) (fun hP₉ => ?_) (fun hP₉ => ?_)
  · refine J.lconst (i := 0) dL_isEven_15 rfl ?_
    refine J.last (x := nI 0) (by decide) (by decide) (by decide) dL_isEven_16 ?_
    refine J.goto (tgt := 28) dL_isEven_17 (by decide) ?_
    refine J.iconst dL_isEven_28 kI_0 ?_
    exact J.iret rfl (by decide) (by decide) dL_isEven_29 ⟨_, rfl, rfl, _, h1₉, by first | rfl | rw [if_pos hP₉] | rw [if_neg hP₉]⟩
  · refine J.lconst (i := 1) dL_isEven_11 rfl ?_
    refine J.goto (tgt := 16) dL_isEven_12 (by decide) ?_
    refine J.last (x := nI 1) (by decide) (by decide) (by decide) dL_isEven_16 ?_
    refine J.goto (tgt := 28) dL_isEven_17 (by decide) ?_
    refine J.iconst dL_isEven_28 kI_0 ?_
    exact J.iret rfl (by decide) (by decide) dL_isEven_29 ⟨_, rfl, rfl, _, h1₉, by first | rfl | rw [if_pos hP₉] | rw [if_neg hP₉]⟩

set_option maxRecDepth 100000 in
theorem wx_isEven1 {g : GP} {adr : Nat → Nat} {μ : Mem} {x1 x2 : Int32} {φ : Mem → Prop} (hC₉ : CT g yX7_isEven mX7_isEven (RM 20 1 6) (WM g adr μ) (.ref (adr 0) :: [.int x1, .int x2]) (PM g adr (.inr "java/lang/IndexOutOfBoundsException") φ)) : CW g yL_isEven mL_isEven (RM 21 1 6) (WM g adr μ) [.ref (adr 0), .int x1, .int x2, .ref (adr 247)] (PM g adr (.inl (some (.int (nI 1)))) (φ)) := by
  refine CW.of (l0 := [some (.ref (adr 0)), some (.int x1), some (.int x2), some (.ref (adr 247)), none]) (by decide +kernel) rfl (Nat.le_of_ble_eq_true rfl) rfl ?_
  refine J.al3 dL_isEven_0 ?_
  refine J.iconst dL_isEven_1 kI_0 ?_
  refine J.al0 dL_isEven_2 ?_
  refine J.il1 dL_isEven_3 ?_
  refine J.il2 dL_isEven_4 ?_
  refine cx_L_82 rfl (by decide) (k' := 1) (n' := 6) hC₉ ⟨⟨by decide, by decide⟩, ⟨rfl, rfl⟩, by decide, by decide⟩ rfl dL_isEven_5 (fun μ1 h1₉ => ?_)
  refine JX.catch (pre := []) (suf := [(0, 17, 24, 74)]) (lo := 0) (hi := 17) (h := 20) (ct := 13) rfl rfl (fun z hz₉ => by cases hz₉) (by decide) (by decide) (by decide) t_331 nw_345 (fun q => ?_)
  refine J.as4 dL_isEven_20 (by decide) rfl ?_
  refine J.iconst dL_isEven_22 kI_1 ?_
  exact J.iret rfl (by decide) (by decide) dL_isEven_23 ⟨_, rfl, rfl, h1₉⟩

set_option maxRecDepth 100000 in
theorem wx_isEven2 {g : GP} {adr : Nat → Nat} {μ : Mem} {x1 x2 : Int32} {φ : Mem → Prop} (hC₉ : CT g yX7_isEven mX7_isEven (RM 20 1 6) (WM g adr μ) (.ref (adr 0) :: [.int x1, .int x2]) (PM g adr (.inr "java/util/NoSuchElementException") φ)) : CW g yL_isEven mL_isEven (RM 21 1 6) (WM g adr μ) [.ref (adr 0), .int x1, .int x2, .ref (adr 247)] (PM g adr (.inl (some (.int (nI 2)))) (φ)) := by
  refine CW.of (l0 := [some (.ref (adr 0)), some (.int x1), some (.int x2), some (.ref (adr 247)), none]) (by decide +kernel) rfl (Nat.le_of_ble_eq_true rfl) rfl ?_
  refine J.al3 dL_isEven_0 ?_
  refine J.iconst dL_isEven_1 kI_0 ?_
  refine J.al0 dL_isEven_2 ?_
  refine J.il1 dL_isEven_3 ?_
  refine J.il2 dL_isEven_4 ?_
  refine cx_L_82 rfl (by decide) (k' := 1) (n' := 6) hC₉ ⟨⟨by decide, by decide⟩, ⟨rfl, rfl⟩, by decide, by decide⟩ rfl dL_isEven_5 (fun μ1 h1₉ => ?_)
  refine JX.catch (pre := [(0, 17, 20, 13)]) (suf := []) (lo := 0) (hi := 17) (h := 24) (ct := 74) rfl rfl (List.forall_mem_cons.mpr ⟨⟨by decide, _, t_331, by decide, by decide⟩, (fun z hz₉ => by cases hz₉)⟩) (by decide) (by decide) (by decide) t_747 nw_756 (fun q => ?_)
  refine J.as4 dL_isEven_24 (by decide) rfl ?_
  refine J.iconst dL_isEven_26 kI_2 ?_
  exact J.iret rfl (by decide) (by decide) dL_isEven_27 ⟨_, rfl, rfl, h1₉⟩

set_option maxRecDepth 100000 in
theorem w_cycle {g : GP} {adr : Nat → Nat} {μ : Mem} {x1 x2 : Int32} {v : Int32} {φ : Mem → Prop} (hC₉ : CT g yX7_cycle mX7_cycle (RM 20 1 6) (WM g adr μ) (.ref (adr 0) :: [.int x1, .int x2]) (PM g adr (.inl (some (.int v))) φ)) : CW g yL_cycle mL_cycle (RM 21 1 6) (WM g adr μ) [.ref (adr 0), .int x1, .int x2, .ref (adr 247)] (PM g adr (.inl (some (.int (nI 0)))) (fun μ' => ∃ μ1, φ μ1 ∧ μ' = wr μ1 247 0 v)) := by
  refine CW.of (l0 := [some (.ref (adr 0)), some (.int x1), some (.int x2), some (.ref (adr 247)), none]) (by decide +kernel) rfl (Nat.le_of_ble_eq_true rfl) rfl ?_
  refine J.al3 dL_cycle_0 ?_
  refine J.iconst dL_cycle_1 kI_0 ?_
  refine J.al0 dL_cycle_2 ?_
  refine J.il1 dL_cycle_3 ?_
  refine J.il2 dL_cycle_4 ?_
  refine cl_L_86 rfl (by decide) (k' := 1) (n' := 6) hC₉ ⟨⟨by decide, by decide⟩, ⟨rfl, rfl⟩, by decide, by decide⟩ rfl dL_cycle_5 (fun μ1 h1₉ => ?_)
  refine J.i2l dL_cycle_8 ?_
  refine J.last (x := v) (by decide) (by decide) rfl dL_cycle_9 ?_
  refine J.goto (tgt := 21) dL_cycle_10 (by decide) ?_
  refine J.iconst dL_cycle_21 kI_0 ?_
  exact J.iret rfl (by decide) (by decide) dL_cycle_22 ⟨_, rfl, rfl, _, h1₉, by first | rfl | rw [if_pos hP₉] | rw [if_neg hP₉]⟩

set_option maxRecDepth 100000 in
theorem wx_cycle1 {g : GP} {adr : Nat → Nat} {μ : Mem} {x1 x2 : Int32} {φ : Mem → Prop} (hC₉ : CT g yX7_cycle mX7_cycle (RM 20 1 6) (WM g adr μ) (.ref (adr 0) :: [.int x1, .int x2]) (PM g adr (.inr "java/lang/IndexOutOfBoundsException") φ)) : CW g yL_cycle mL_cycle (RM 21 1 6) (WM g adr μ) [.ref (adr 0), .int x1, .int x2, .ref (adr 247)] (PM g adr (.inl (some (.int (nI 1)))) (φ)) := by
  refine CW.of (l0 := [some (.ref (adr 0)), some (.int x1), some (.int x2), some (.ref (adr 247)), none]) (by decide +kernel) rfl (Nat.le_of_ble_eq_true rfl) rfl ?_
  refine J.al3 dL_cycle_0 ?_
  refine J.iconst dL_cycle_1 kI_0 ?_
  refine J.al0 dL_cycle_2 ?_
  refine J.il1 dL_cycle_3 ?_
  refine J.il2 dL_cycle_4 ?_
  refine cx_L_86 rfl (by decide) (k' := 1) (n' := 6) hC₉ ⟨⟨by decide, by decide⟩, ⟨rfl, rfl⟩, by decide, by decide⟩ rfl dL_cycle_5 (fun μ1 h1₉ => ?_)
  refine JX.catch (pre := []) (suf := [(0, 10, 17, 74)]) (lo := 0) (hi := 10) (h := 13) (ct := 13) rfl rfl (fun z hz₉ => by cases hz₉) (by decide) (by decide) (by decide) t_331 nw_345 (fun q => ?_)
  refine J.as4 dL_cycle_13 (by decide) rfl ?_
  refine J.iconst dL_cycle_15 kI_1 ?_
  exact J.iret rfl (by decide) (by decide) dL_cycle_16 ⟨_, rfl, rfl, h1₉⟩

set_option maxRecDepth 100000 in
theorem wx_cycle2 {g : GP} {adr : Nat → Nat} {μ : Mem} {x1 x2 : Int32} {φ : Mem → Prop} (hC₉ : CT g yX7_cycle mX7_cycle (RM 20 1 6) (WM g adr μ) (.ref (adr 0) :: [.int x1, .int x2]) (PM g adr (.inr "java/util/NoSuchElementException") φ)) : CW g yL_cycle mL_cycle (RM 21 1 6) (WM g adr μ) [.ref (adr 0), .int x1, .int x2, .ref (adr 247)] (PM g adr (.inl (some (.int (nI 2)))) (φ)) := by
  refine CW.of (l0 := [some (.ref (adr 0)), some (.int x1), some (.int x2), some (.ref (adr 247)), none]) (by decide +kernel) rfl (Nat.le_of_ble_eq_true rfl) rfl ?_
  refine J.al3 dL_cycle_0 ?_
  refine J.iconst dL_cycle_1 kI_0 ?_
  refine J.al0 dL_cycle_2 ?_
  refine J.il1 dL_cycle_3 ?_
  refine J.il2 dL_cycle_4 ?_
  refine cx_L_86 rfl (by decide) (k' := 1) (n' := 6) hC₉ ⟨⟨by decide, by decide⟩, ⟨rfl, rfl⟩, by decide, by decide⟩ rfl dL_cycle_5 (fun μ1 h1₉ => ?_)
  refine JX.catch (pre := [(0, 10, 13, 13)]) (suf := []) (lo := 0) (hi := 10) (h := 17) (ct := 74) rfl rfl (List.forall_mem_cons.mpr ⟨⟨by decide, _, t_331, by decide, by decide⟩, (fun z hz₉ => by cases hz₉)⟩) (by decide) (by decide) (by decide) t_747 nw_756 (fun q => ?_)
  refine J.as4 dL_cycle_17 (by decide) rfl ?_
  refine J.iconst dL_cycle_19 kI_2 ?_
  exact J.iret rfl (by decide) (by decide) dL_cycle_20 ⟨_, rfl, rfl, h1₉⟩

set_option maxRecDepth 100000 in
theorem w_commutes {g : GP} {adr : Nat → Nat} {μ : Mem} {x1 x2 : Int32} {P : Prop} [Decidable P] {φ : Mem → Prop} (hC₉ : CT g yX7_commutes mX7_commutes (RM 20 1 6) (WM g adr μ) (.ref (adr 0) :: [.int x1, .int x2]) (PM g adr (.inl (some (.int (if P then nI 1 else nI 0)))) φ)) : CW g yL_commutes mL_commutes (RM 21 1 6) (WM g adr μ) [.ref (adr 0), .int x1, .int x2, .ref (adr 247)] (PM g adr (.inl (some (.int (nI 0)))) (fun μ' => ∃ μ1, φ μ1 ∧ μ' = wr μ1 247 0 (if P then nI 1 else nI 0))) := by
  refine CW.of (l0 := [some (.ref (adr 0)), some (.int x1), some (.int x2), some (.ref (adr 247)), none]) (by decide +kernel) rfl (Nat.le_of_ble_eq_true rfl) rfl ?_
  refine J.al3 dL_commutes_0 ?_
  refine J.iconst dL_commutes_1 kI_0 ?_
  refine J.al0 dL_commutes_2 ?_
  refine J.il1 dL_commutes_3 ?_
  refine J.il2 dL_commutes_4 ?_
  refine cl_L_89 rfl (by decide) (k' := 1) (n' := 6) hC₉ ⟨⟨by decide, by decide⟩, ⟨rfl, rfl⟩, by decide, by decide⟩ rfl dL_commutes_5 (fun μ1 h1₉ => ?_)
  refine J.if_eqB (tgt := 15) dL_commutes_8 (by decide) (fun hP₉ => ?_) (fun hP₉ => ?_)
  · refine J.lconst (i := 0) dL_commutes_15 rfl ?_
    refine J.last (x := nI 0) (by decide) (by decide) (by decide) dL_commutes_16 ?_
    refine J.goto (tgt := 28) dL_commutes_17 (by decide) ?_
    refine J.iconst dL_commutes_28 kI_0 ?_
    exact J.iret rfl (by decide) (by decide) dL_commutes_29 ⟨_, rfl, rfl, _, h1₉, by first | rfl | rw [if_pos hP₉] | rw [if_neg hP₉]⟩
  · refine J.lconst (i := 1) dL_commutes_11 rfl ?_
    refine J.goto (tgt := 16) dL_commutes_12 (by decide) ?_
    refine J.last (x := nI 1) (by decide) (by decide) (by decide) dL_commutes_16 ?_
    refine J.goto (tgt := 28) dL_commutes_17 (by decide) ?_
    refine J.iconst dL_commutes_28 kI_0 ?_
    exact J.iret rfl (by decide) (by decide) dL_commutes_29 ⟨_, rfl, rfl, _, h1₉, by first | rfl | rw [if_pos hP₉] | rw [if_neg hP₉]⟩

set_option maxRecDepth 100000 in
theorem wx_commutes1 {g : GP} {adr : Nat → Nat} {μ : Mem} {x1 x2 : Int32} {φ : Mem → Prop} (hC₉ : CT g yX7_commutes mX7_commutes (RM 20 1 6) (WM g adr μ) (.ref (adr 0) :: [.int x1, .int x2]) (PM g adr (.inr "java/lang/IndexOutOfBoundsException") φ)) : CW g yL_commutes mL_commutes (RM 21 1 6) (WM g adr μ) [.ref (adr 0), .int x1, .int x2, .ref (adr 247)] (PM g adr (.inl (some (.int (nI 1)))) (φ)) := by
  refine CW.of (l0 := [some (.ref (adr 0)), some (.int x1), some (.int x2), some (.ref (adr 247)), none]) (by decide +kernel) rfl (Nat.le_of_ble_eq_true rfl) rfl ?_
  refine J.al3 dL_commutes_0 ?_
  refine J.iconst dL_commutes_1 kI_0 ?_
  refine J.al0 dL_commutes_2 ?_
  refine J.il1 dL_commutes_3 ?_
  refine J.il2 dL_commutes_4 ?_
  refine cx_L_89 rfl (by decide) (k' := 1) (n' := 6) hC₉ ⟨⟨by decide, by decide⟩, ⟨rfl, rfl⟩, by decide, by decide⟩ rfl dL_commutes_5 (fun μ1 h1₉ => ?_)
  refine JX.catch (pre := []) (suf := [(0, 17, 24, 74)]) (lo := 0) (hi := 17) (h := 20) (ct := 13) rfl rfl (fun z hz₉ => by cases hz₉) (by decide) (by decide) (by decide) t_331 nw_345 (fun q => ?_)
  refine J.as4 dL_commutes_20 (by decide) rfl ?_
  refine J.iconst dL_commutes_22 kI_1 ?_
  exact J.iret rfl (by decide) (by decide) dL_commutes_23 ⟨_, rfl, rfl, h1₉⟩

set_option maxRecDepth 100000 in
theorem wx_commutes2 {g : GP} {adr : Nat → Nat} {μ : Mem} {x1 x2 : Int32} {φ : Mem → Prop} (hC₉ : CT g yX7_commutes mX7_commutes (RM 20 1 6) (WM g adr μ) (.ref (adr 0) :: [.int x1, .int x2]) (PM g adr (.inr "java/util/NoSuchElementException") φ)) : CW g yL_commutes mL_commutes (RM 21 1 6) (WM g adr μ) [.ref (adr 0), .int x1, .int x2, .ref (adr 247)] (PM g adr (.inl (some (.int (nI 2)))) (φ)) := by
  refine CW.of (l0 := [some (.ref (adr 0)), some (.int x1), some (.int x2), some (.ref (adr 247)), none]) (by decide +kernel) rfl (Nat.le_of_ble_eq_true rfl) rfl ?_
  refine J.al3 dL_commutes_0 ?_
  refine J.iconst dL_commutes_1 kI_0 ?_
  refine J.al0 dL_commutes_2 ?_
  refine J.il1 dL_commutes_3 ?_
  refine J.il2 dL_commutes_4 ?_
  refine cx_L_89 rfl (by decide) (k' := 1) (n' := 6) hC₉ ⟨⟨by decide, by decide⟩, ⟨rfl, rfl⟩, by decide, by decide⟩ rfl dL_commutes_5 (fun μ1 h1₉ => ?_)
  refine JX.catch (pre := [(0, 17, 20, 13)]) (suf := []) (lo := 0) (hi := 17) (h := 24) (ct := 74) rfl rfl (List.forall_mem_cons.mpr ⟨⟨by decide, _, t_331, by decide, by decide⟩, (fun z hz₉ => by cases hz₉)⟩) (by decide) (by decide) (by decide) t_747 nw_756 (fun q => ?_)
  refine J.as4 dL_commutes_24 (by decide) rfl ?_
  refine J.iconst dL_commutes_26 kI_2 ?_
  exact J.iret rfl (by decide) (by decide) dL_commutes_27 ⟨_, rfl, rfl, h1₉⟩

set_option maxRecDepth 100000 in
theorem w_line {g : GP} {adr : Nat → Nat} {μ : Mem} {x1 : Int32} {v : Int32} {φ : Mem → Prop} (hC₉ : CT g yX7_line mX7_line (RM 20 1 6) (WM g adr μ) (.ref (adr 0) :: [.int x1]) (PM g adr (.inl (some (.int v))) φ)) : CW g yL_line mL_line (RM 21 1 6) (WM g adr μ) [.ref (adr 0), .int x1, .ref (adr 247)] (PM g adr (.inl (some (.int (nI 0)))) (fun μ' => ∃ μ1, φ μ1 ∧ μ' = wr μ1 247 0 v)) := by
  refine CW.of (l0 := [some (.ref (adr 0)), some (.int x1), some (.ref (adr 247)), none]) (by decide +kernel) rfl (Nat.le_of_ble_eq_true rfl) rfl ?_
  refine J.al2 dL_line_0 ?_
  refine J.iconst dL_line_1 kI_0 ?_
  refine J.al0 dL_line_2 ?_
  refine J.il1 dL_line_3 ?_
  refine cl_L_93 rfl (by decide) (k' := 1) (n' := 6) hC₉ ⟨⟨by decide, by decide⟩, ⟨rfl, rfl⟩, by decide, by decide⟩ rfl dL_line_4 (fun μ1 h1₉ => ?_)
  refine J.i2l dL_line_7 ?_
  refine J.last (x := v) (by decide) (by decide) rfl dL_line_8 ?_
  refine J.goto (tgt := 15) dL_line_9 (by decide) ?_
  refine J.iconst dL_line_15 kI_0 ?_
  exact J.iret rfl (by decide) (by decide) dL_line_16 ⟨_, rfl, rfl, _, h1₉, by first | rfl | rw [if_pos hP₉] | rw [if_neg hP₉]⟩

set_option maxRecDepth 100000 in
theorem wx_line1 {g : GP} {adr : Nat → Nat} {μ : Mem} {x1 : Int32} {φ : Mem → Prop} (hC₉ : CT g yX7_line mX7_line (RM 20 1 6) (WM g adr μ) (.ref (adr 0) :: [.int x1]) (PM g adr (.inr "java/lang/IndexOutOfBoundsException") φ)) : CW g yL_line mL_line (RM 21 1 6) (WM g adr μ) [.ref (adr 0), .int x1, .ref (adr 247)] (PM g adr (.inl (some (.int (nI 1)))) (φ)) := by
  refine CW.of (l0 := [some (.ref (adr 0)), some (.int x1), some (.ref (adr 247)), none]) (by decide +kernel) rfl (Nat.le_of_ble_eq_true rfl) rfl ?_
  refine J.al2 dL_line_0 ?_
  refine J.iconst dL_line_1 kI_0 ?_
  refine J.al0 dL_line_2 ?_
  refine J.il1 dL_line_3 ?_
  refine cx_L_93 rfl (by decide) (k' := 1) (n' := 6) hC₉ ⟨⟨by decide, by decide⟩, ⟨rfl, rfl⟩, by decide, by decide⟩ rfl dL_line_4 (fun μ1 h1₉ => ?_)
  refine JX.catch (pre := []) (suf := []) (lo := 0) (hi := 9) (h := 12) (ct := 13) rfl rfl (fun z hz₉ => by cases hz₉) (by decide) (by decide) (by decide) t_331 nw_345 (fun q => ?_)
  refine J.as3 dL_line_12 (by decide) rfl ?_
  refine J.iconst dL_line_13 kI_1 ?_
  exact J.iret rfl (by decide) (by decide) dL_line_14 ⟨_, rfl, rfl, h1₉⟩

set_option maxRecDepth 100000 in
theorem w_cycleLine {g : GP} {adr : Nat → Nat} {μ : Mem} {x1 : Int32} {v : Int32} {φ : Mem → Prop} (hC₉ : CT g yX7_cycleLine mX7_cycleLine (RM 20 1 6) (WM g adr μ) (.ref (adr 0) :: [.int x1]) (PM g adr (.inl (some (.int v))) φ)) : CW g yL_cycleLine mL_cycleLine (RM 21 1 6) (WM g adr μ) [.ref (adr 0), .int x1, .ref (adr 247)] (PM g adr (.inl (some (.int (nI 0)))) (fun μ' => ∃ μ1, φ μ1 ∧ μ' = wr μ1 247 0 v)) := by
  refine CW.of (l0 := [some (.ref (adr 0)), some (.int x1), some (.ref (adr 247)), none]) (by decide +kernel) rfl (Nat.le_of_ble_eq_true rfl) rfl ?_
  refine J.al2 dL_cycleLine_0 ?_
  refine J.iconst dL_cycleLine_1 kI_0 ?_
  refine J.al0 dL_cycleLine_2 ?_
  refine J.il1 dL_cycleLine_3 ?_
  refine cl_L_96 rfl (by decide) (k' := 1) (n' := 6) hC₉ ⟨⟨by decide, by decide⟩, ⟨rfl, rfl⟩, by decide, by decide⟩ rfl dL_cycleLine_4 (fun μ1 h1₉ => ?_)
  refine J.i2l dL_cycleLine_7 ?_
  refine J.last (x := v) (by decide) (by decide) rfl dL_cycleLine_8 ?_
  refine J.goto (tgt := 18) dL_cycleLine_9 (by decide) ?_
  refine J.iconst dL_cycleLine_18 kI_0 ?_
  exact J.iret rfl (by decide) (by decide) dL_cycleLine_19 ⟨_, rfl, rfl, _, h1₉, by first | rfl | rw [if_pos hP₉] | rw [if_neg hP₉]⟩

set_option maxRecDepth 100000 in
theorem wx_cycleLine1 {g : GP} {adr : Nat → Nat} {μ : Mem} {x1 : Int32} {φ : Mem → Prop} (hC₉ : CT g yX7_cycleLine mX7_cycleLine (RM 20 1 6) (WM g adr μ) (.ref (adr 0) :: [.int x1]) (PM g adr (.inr "java/lang/IndexOutOfBoundsException") φ)) : CW g yL_cycleLine mL_cycleLine (RM 21 1 6) (WM g adr μ) [.ref (adr 0), .int x1, .ref (adr 247)] (PM g adr (.inl (some (.int (nI 1)))) (φ)) := by
  refine CW.of (l0 := [some (.ref (adr 0)), some (.int x1), some (.ref (adr 247)), none]) (by decide +kernel) rfl (Nat.le_of_ble_eq_true rfl) rfl ?_
  refine J.al2 dL_cycleLine_0 ?_
  refine J.iconst dL_cycleLine_1 kI_0 ?_
  refine J.al0 dL_cycleLine_2 ?_
  refine J.il1 dL_cycleLine_3 ?_
  refine cx_L_96 rfl (by decide) (k' := 1) (n' := 6) hC₉ ⟨⟨by decide, by decide⟩, ⟨rfl, rfl⟩, by decide, by decide⟩ rfl dL_cycleLine_4 (fun μ1 h1₉ => ?_)
  refine JX.catch (pre := []) (suf := [(0, 9, 15, 74)]) (lo := 0) (hi := 9) (h := 12) (ct := 13) rfl rfl (fun z hz₉ => by cases hz₉) (by decide) (by decide) (by decide) t_331 nw_345 (fun q => ?_)
  refine J.as3 dL_cycleLine_12 (by decide) rfl ?_
  refine J.iconst dL_cycleLine_13 kI_1 ?_
  exact J.iret rfl (by decide) (by decide) dL_cycleLine_14 ⟨_, rfl, rfl, h1₉⟩

set_option maxRecDepth 100000 in
theorem wx_cycleLine2 {g : GP} {adr : Nat → Nat} {μ : Mem} {x1 : Int32} {φ : Mem → Prop} (hC₉ : CT g yX7_cycleLine mX7_cycleLine (RM 20 1 6) (WM g adr μ) (.ref (adr 0) :: [.int x1]) (PM g adr (.inr "java/util/NoSuchElementException") φ)) : CW g yL_cycleLine mL_cycleLine (RM 21 1 6) (WM g adr μ) [.ref (adr 0), .int x1, .ref (adr 247)] (PM g adr (.inl (some (.int (nI 2)))) (φ)) := by
  refine CW.of (l0 := [some (.ref (adr 0)), some (.int x1), some (.ref (adr 247)), none]) (by decide +kernel) rfl (Nat.le_of_ble_eq_true rfl) rfl ?_
  refine J.al2 dL_cycleLine_0 ?_
  refine J.iconst dL_cycleLine_1 kI_0 ?_
  refine J.al0 dL_cycleLine_2 ?_
  refine J.il1 dL_cycleLine_3 ?_
  refine cx_L_96 rfl (by decide) (k' := 1) (n' := 6) hC₉ ⟨⟨by decide, by decide⟩, ⟨rfl, rfl⟩, by decide, by decide⟩ rfl dL_cycleLine_4 (fun μ1 h1₉ => ?_)
  refine JX.catch (pre := [(0, 9, 12, 13)]) (suf := []) (lo := 0) (hi := 9) (h := 15) (ct := 74) rfl rfl (List.forall_mem_cons.mpr ⟨⟨by decide, _, t_331, by decide, by decide⟩, (fun z hz₉ => by cases hz₉)⟩) (by decide) (by decide) (by decide) t_747 nw_756 (fun q => ?_)
  refine J.as3 dL_cycleLine_15 (by decide) rfl ?_
  refine J.iconst dL_cycleLine_16 kI_2 ?_
  exact J.iret rfl (by decide) (by decide) dL_cycleLine_17 ⟨_, rfl, rfl, h1₉⟩

set_option maxRecDepth 100000 in
theorem w_character {g : GP} {adr : Nat → Nat} {μ : Mem} {x1 : Int32} {v : Int32} {φ : Mem → Prop} (hC₉ : CT g yX7_character mX7_character (RM 20 1 6) (WM g adr μ) (.ref (adr 0) :: [.int x1]) (PM g adr (.inl (some (.int v))) φ)) : CW g yL_character mL_character (RM 21 1 6) (WM g adr μ) [.ref (adr 0), .int x1, .ref (adr 247)] (PM g adr (.inl (some (.int (nI 0)))) (fun μ' => ∃ μ1, φ μ1 ∧ μ' = wr μ1 247 0 v)) := by
  refine CW.of (l0 := [some (.ref (adr 0)), some (.int x1), some (.ref (adr 247)), none]) (by decide +kernel) rfl (Nat.le_of_ble_eq_true rfl) rfl ?_
  refine J.al2 dL_character_0 ?_
  refine J.iconst dL_character_1 kI_0 ?_
  refine J.al0 dL_character_2 ?_
  refine J.il1 dL_character_3 ?_
  refine cl_L_99 rfl (by decide) (k' := 1) (n' := 6) hC₉ ⟨⟨by decide, by decide⟩, ⟨rfl, rfl⟩, by decide, by decide⟩ rfl dL_character_4 (fun μ1 h1₉ => ?_)
  refine J.i2l dL_character_7 ?_
  refine J.last (x := v) (by decide) (by decide) rfl dL_character_8 ?_
  refine J.goto (tgt := 15) dL_character_9 (by decide) ?_
  refine J.iconst dL_character_15 kI_0 ?_
  exact J.iret rfl (by decide) (by decide) dL_character_16 ⟨_, rfl, rfl, _, h1₉, by first | rfl | rw [if_pos hP₉] | rw [if_neg hP₉]⟩

set_option maxRecDepth 100000 in
theorem wx_character1 {g : GP} {adr : Nat → Nat} {μ : Mem} {x1 : Int32} {φ : Mem → Prop} (hC₉ : CT g yX7_character mX7_character (RM 20 1 6) (WM g adr μ) (.ref (adr 0) :: [.int x1]) (PM g adr (.inr "java/lang/IndexOutOfBoundsException") φ)) : CW g yL_character mL_character (RM 21 1 6) (WM g adr μ) [.ref (adr 0), .int x1, .ref (adr 247)] (PM g adr (.inl (some (.int (nI 1)))) (φ)) := by
  refine CW.of (l0 := [some (.ref (adr 0)), some (.int x1), some (.ref (adr 247)), none]) (by decide +kernel) rfl (Nat.le_of_ble_eq_true rfl) rfl ?_
  refine J.al2 dL_character_0 ?_
  refine J.iconst dL_character_1 kI_0 ?_
  refine J.al0 dL_character_2 ?_
  refine J.il1 dL_character_3 ?_
  refine cx_L_99 rfl (by decide) (k' := 1) (n' := 6) hC₉ ⟨⟨by decide, by decide⟩, ⟨rfl, rfl⟩, by decide, by decide⟩ rfl dL_character_4 (fun μ1 h1₉ => ?_)
  refine JX.catch (pre := []) (suf := []) (lo := 0) (hi := 9) (h := 12) (ct := 13) rfl rfl (fun z hz₉ => by cases hz₉) (by decide) (by decide) (by decide) t_331 nw_345 (fun q => ?_)
  refine J.as3 dL_character_12 (by decide) rfl ?_
  refine J.iconst dL_character_13 kI_1 ?_
  exact J.iret rfl (by decide) (by decide) dL_character_14 ⟨_, rfl, rfl, h1₉⟩

set_option maxRecDepth 100000 in
theorem w_append {g : GP} {adr : Nat → Nat} {μ : Mem} {x1 : Int32} {v : Int32} {φ : Mem → Prop} (hC₉ : CT g yX7_append mX7_append (RM 20 1 6) (WM g adr μ) (.ref (adr 0) :: [.int x1]) (PM g adr (.inl (some (.int v))) φ)) : CW g yL_append mL_append (RM 21 1 6) (WM g adr μ) [.ref (adr 0), .int x1, .ref (adr 247)] (PM g adr (.inl (some (.int (nI 0)))) (fun μ' => ∃ μ1, φ μ1 ∧ μ' = wr μ1 247 0 v)) := by
  refine CW.of (l0 := [some (.ref (adr 0)), some (.int x1), some (.ref (adr 247)), none]) (by decide +kernel) rfl (Nat.le_of_ble_eq_true rfl) rfl ?_
  refine J.al2 dL_append_0 ?_
  refine J.iconst dL_append_1 kI_0 ?_
  refine J.al0 dL_append_2 ?_
  refine J.il1 dL_append_3 ?_
  refine cl_L_103 rfl (by decide) (k' := 1) (n' := 6) hC₉ ⟨⟨by decide, by decide⟩, ⟨rfl, rfl⟩, by decide, by decide⟩ rfl dL_append_4 (fun μ1 h1₉ => ?_)
  refine J.i2l dL_append_7 ?_
  refine J.last (x := v) (by decide) (by decide) rfl dL_append_8 ?_
  refine J.goto (tgt := 15) dL_append_9 (by decide) ?_
  refine J.iconst dL_append_15 kI_0 ?_
  exact J.iret rfl (by decide) (by decide) dL_append_16 ⟨_, rfl, rfl, _, h1₉, by first | rfl | rw [if_pos hP₉] | rw [if_neg hP₉]⟩

set_option maxRecDepth 100000 in
theorem wx_append1 {g : GP} {adr : Nat → Nat} {μ : Mem} {x1 : Int32} {φ : Mem → Prop} (hC₉ : CT g yX7_append mX7_append (RM 20 1 6) (WM g adr μ) (.ref (adr 0) :: [.int x1]) (PM g adr (.inr "java/lang/IllegalStateException") φ)) : CW g yL_append mL_append (RM 21 1 6) (WM g adr μ) [.ref (adr 0), .int x1, .ref (adr 247)] (PM g adr (.inl (some (.int (nI 1)))) (φ)) := by
  refine CW.of (l0 := [some (.ref (adr 0)), some (.int x1), some (.ref (adr 247)), none]) (by decide +kernel) rfl (Nat.le_of_ble_eq_true rfl) rfl ?_
  refine J.al2 dL_append_0 ?_
  refine J.iconst dL_append_1 kI_0 ?_
  refine J.al0 dL_append_2 ?_
  refine J.il1 dL_append_3 ?_
  refine cx_L_103 rfl (by decide) (k' := 1) (n' := 6) hC₉ ⟨⟨by decide, by decide⟩, ⟨rfl, rfl⟩, by decide, by decide⟩ rfl dL_append_4 (fun μ1 h1₉ => ?_)
  refine JX.catch (pre := []) (suf := []) (lo := 0) (hi := 9) (h := 12) (ct := 107) rfl rfl (fun z hz₉ => by cases hz₉) (by decide) (by decide) (by decide) t_887 nw_892 (fun q => ?_)
  refine J.as3 dL_append_12 (by decide) rfl ?_
  refine J.iconst dL_append_13 kI_1 ?_
  exact J.iret rfl (by decide) (by decide) dL_append_14 ⟨_, rfl, rfl, h1₉⟩

set_option maxRecDepth 100000 in
theorem w_read {g : GP} {adr : Nat → Nat} {μ : Mem} {v : Int32} {φ : Mem → Prop} (hC₉ : CT g yX7_read mX7_read (RM 20 1 6) (WM g adr μ) (.ref (adr 0) :: []) (PM g adr (.inl (some (.int v))) φ)) : CW g yL_read mL_read (RM 21 1 6) (WM g adr μ) [.ref (adr 0), .ref (adr 247)] (PM g adr (.inl (some (.int (nI 0)))) (fun μ' => ∃ μ1, φ μ1 ∧ μ' = wr μ1 247 0 v)) := by
  refine CW.of (l0 := [some (.ref (adr 0)), some (.ref (adr 247)), none]) (by decide +kernel) rfl (Nat.le_of_ble_eq_true rfl) rfl ?_
  refine J.al1 dL_read_0 ?_
  refine J.iconst dL_read_1 kI_0 ?_
  refine J.al0 dL_read_2 ?_
  refine cl_L_109 rfl (by decide) (k' := 1) (n' := 6) hC₉ ⟨⟨by decide, by decide⟩, ⟨rfl, rfl⟩, by decide, by decide⟩ rfl dL_read_3 (fun μ1 h1₉ => ?_)
  refine J.i2l dL_read_6 ?_
  refine J.last (x := v) (by decide) (by decide) rfl dL_read_7 ?_
  refine J.goto (tgt := 17) dL_read_8 (by decide) ?_
  refine J.iconst dL_read_17 kI_0 ?_
  exact J.iret rfl (by decide) (by decide) dL_read_18 ⟨_, rfl, rfl, _, h1₉, by first | rfl | rw [if_pos hP₉] | rw [if_neg hP₉]⟩

set_option maxRecDepth 100000 in
theorem wx_read1 {g : GP} {adr : Nat → Nat} {μ : Mem} {φ : Mem → Prop} (hC₉ : CT g yX7_read mX7_read (RM 20 1 6) (WM g adr μ) (.ref (adr 0) :: []) (PM g adr (.inr "java/lang/IllegalArgumentException") φ)) : CW g yL_read mL_read (RM 21 1 6) (WM g adr μ) [.ref (adr 0), .ref (adr 247)] (PM g adr (.inl (some (.int (nI 1)))) (φ)) := by
  refine CW.of (l0 := [some (.ref (adr 0)), some (.ref (adr 247)), none]) (by decide +kernel) rfl (Nat.le_of_ble_eq_true rfl) rfl ?_
  refine J.al1 dL_read_0 ?_
  refine J.iconst dL_read_1 kI_0 ?_
  refine J.al0 dL_read_2 ?_
  refine cx_L_109 rfl (by decide) (k' := 1) (n' := 6) hC₉ ⟨⟨by decide, by decide⟩, ⟨rfl, rfl⟩, by decide, by decide⟩ rfl dL_read_3 (fun μ1 h1₉ => ?_)
  refine JX.catch (pre := []) (suf := [(0, 8, 14, 24)]) (lo := 0) (hi := 8) (h := 11) (ct := 15) rfl rfl (fun z hz₉ => by cases hz₉) (by decide) (by decide) (by decide) t_332 nw_418 (fun q => ?_)
  refine J.as2 dL_read_11 (by decide) rfl ?_
  refine J.iconst dL_read_12 kI_1 ?_
  exact J.iret rfl (by decide) (by decide) dL_read_13 ⟨_, rfl, rfl, h1₉⟩

set_option maxRecDepth 100000 in
theorem wx_read2 {g : GP} {adr : Nat → Nat} {μ : Mem} {φ : Mem → Prop} (hC₉ : CT g yX7_read mX7_read (RM 20 1 6) (WM g adr μ) (.ref (adr 0) :: []) (PM g adr (.inr "java/lang/UnsupportedOperationException") φ)) : CW g yL_read mL_read (RM 21 1 6) (WM g adr μ) [.ref (adr 0), .ref (adr 247)] (PM g adr (.inl (some (.int (nI 2)))) (φ)) := by
  refine CW.of (l0 := [some (.ref (adr 0)), some (.ref (adr 247)), none]) (by decide +kernel) rfl (Nat.le_of_ble_eq_true rfl) rfl ?_
  refine J.al1 dL_read_0 ?_
  refine J.iconst dL_read_1 kI_0 ?_
  refine J.al0 dL_read_2 ?_
  refine cx_L_109 rfl (by decide) (k' := 1) (n' := 6) hC₉ ⟨⟨by decide, by decide⟩, ⟨rfl, rfl⟩, by decide, by decide⟩ rfl dL_read_3 (fun μ1 h1₉ => ?_)
  refine JX.catch (pre := [(0, 8, 11, 15)]) (suf := []) (lo := 0) (hi := 8) (h := 14) (ct := 24) rfl rfl (List.forall_mem_cons.mpr ⟨⟨by decide, _, t_332, by decide, by decide⟩, (fun z hz₉ => by cases hz₉)⟩) (by decide) (by decide) (by decide) t_482 nw_491 (fun q => ?_)
  refine J.as2 dL_read_14 (by decide) rfl ?_
  refine J.iconst dL_read_15 kI_2 ?_
  exact J.iret rfl (by decide) (by decide) dL_read_16 ⟨_, rfl, rfl, h1₉⟩

set_option maxRecDepth 100000 in
theorem w_errorPosition {g : GP} {adr : Nat → Nat} {μ : Mem} {v : Int32} {φ : Mem → Prop} (hC₉ : CT g yX7_errorPosition mX7_errorPosition (RM 20 1 6) (WM g adr μ) (.ref (adr 0) :: []) (PM g adr (.inl (some (.int v))) φ)) : CW g yL_errorPosition mL_errorPosition (RM 21 1 6) (WM g adr μ) [.ref (adr 0), .ref (adr 247)] (PM g adr (.inl (some (.int (nI 0)))) (fun μ' => ∃ μ1, φ μ1 ∧ μ' = wr μ1 247 0 v)) := by
  refine CW.of (l0 := [some (.ref (adr 0)), some (.ref (adr 247)), none]) (by decide +kernel) rfl (Nat.le_of_ble_eq_true rfl) rfl ?_
  refine J.al1 dL_errorPosition_0 ?_
  refine J.iconst dL_errorPosition_1 kI_0 ?_
  refine J.al0 dL_errorPosition_2 ?_
  refine cl_L_112 rfl (by decide) (k' := 1) (n' := 6) hC₉ ⟨⟨by decide, by decide⟩, ⟨rfl, rfl⟩, by decide, by decide⟩ rfl dL_errorPosition_3 (fun μ1 h1₉ => ?_)
  refine J.i2l dL_errorPosition_6 ?_
  refine J.last (x := v) (by decide) (by decide) rfl dL_errorPosition_7 ?_
  refine J.goto (tgt := 14) dL_errorPosition_8 (by decide) ?_
  refine J.iconst dL_errorPosition_14 kI_0 ?_
  exact J.iret rfl (by decide) (by decide) dL_errorPosition_15 ⟨_, rfl, rfl, _, h1₉, by first | rfl | rw [if_pos hP₉] | rw [if_neg hP₉]⟩

set_option maxRecDepth 100000 in
theorem wx_errorPosition1 {g : GP} {adr : Nat → Nat} {μ : Mem} {φ : Mem → Prop} (hC₉ : CT g yX7_errorPosition mX7_errorPosition (RM 20 1 6) (WM g adr μ) (.ref (adr 0) :: []) (PM g adr (.inr "java/util/NoSuchElementException") φ)) : CW g yL_errorPosition mL_errorPosition (RM 21 1 6) (WM g adr μ) [.ref (adr 0), .ref (adr 247)] (PM g adr (.inl (some (.int (nI 1)))) (φ)) := by
  refine CW.of (l0 := [some (.ref (adr 0)), some (.ref (adr 247)), none]) (by decide +kernel) rfl (Nat.le_of_ble_eq_true rfl) rfl ?_
  refine J.al1 dL_errorPosition_0 ?_
  refine J.iconst dL_errorPosition_1 kI_0 ?_
  refine J.al0 dL_errorPosition_2 ?_
  refine cx_L_112 rfl (by decide) (k' := 1) (n' := 6) hC₉ ⟨⟨by decide, by decide⟩, ⟨rfl, rfl⟩, by decide, by decide⟩ rfl dL_errorPosition_3 (fun μ1 h1₉ => ?_)
  refine JX.catch (pre := []) (suf := []) (lo := 0) (hi := 8) (h := 11) (ct := 74) rfl rfl (fun z hz₉ => by cases hz₉) (by decide) (by decide) (by decide) t_747 nw_756 (fun q => ?_)
  refine J.as2 dL_errorPosition_11 (by decide) rfl ?_
  refine J.iconst dL_errorPosition_12 kI_1 ?_
  exact J.iret rfl (by decide) (by decide) dL_errorPosition_13 ⟨_, rfl, rfl, h1₉⟩
