/-! ===== printed: the class: lines, texts, accounts, undo ===== -/
set_option maxRecDepth 100000 in
set_option maxHeartbeats 4000000 in
theorem c_accX {g : GP} {adr : Nat → Nat} (μ : Mem) {α : A7} (hCR₉ : CR μ α) {x : Int32} (hx₉ : x.toInt < 0 ∨ 7 < x.toInt) : CT g yX7_account mX7_account (RM 20 1 6) (WM g adr μ) [.ref (adr 0), .int x] (PM g adr (.inr "java/lang/IllegalArgumentException") (fun μ' => CR μ' α ∧ FrC μ' μ)) := by
  refine CT.of (l0 := [some (.ref (adr 0)), some (.int x)]) (by decide +kernel) rfl (Nat.le_of_ble_eq_true rfl) rfl ?_
  refine J.il1 dX7_account_0 ?_
  refine J.tableOut (tgt := 124) dX7_account_1 hx₉ (by decide) ?_
  refine J.throwSW (E := "java/lang/IllegalArgumentException") (tx := "there is no such account") (names := ["java/lang/RuntimeException", "java/lang/Exception"]) (by decide +kernel) (by decide +kernel) t_302 t_13 rfl (by decide +kernel) (fun p ln s m args meth c C9 => C9.at at_296) ao_296 dX7_account_124 dX7_account_127 dX7_account_128 dX7_account_131 dX7_account_134 rfl rfl (by decide) (by decide) (by decide) (by decide) ⟨_, rfl, rfl, ?_⟩
  exact ⟨hCR₉, FrC.rf⟩

set_option maxRecDepth 100000 in
set_option maxHeartbeats 4000000 in
theorem c_acc0 {g : GP} {adr : Nat → Nat} (μ : Mem) {α : A7} (hCR₉ : CR μ α) : CT g yX7_account mX7_account (RM 20 1 6) (WM g adr μ) [.ref (adr 0), .int (nI 0)] (PM g adr ((.inl (some (.int (nI (cnt (fun s => decide (aAt (qS α) s = s)) 32)))))) (fun μ' => CR μ' α ∧ FrC μ' μ)) := by
  refine CT.of (l0 := [some (.ref (adr 0)), some (.int (nI 0))]) (by decide +kernel) rfl (Nat.le_of_ble_eq_true rfl) rfl ?_
  refine J.il1 dX7_account_0 ?_
  refine J.tableIn (tgt := 48) dX7_account_1 (by decide) (by decide) rfl (by decide) ?_
  refine J.al0 dX7_account_48 ?_
  refine gf_X7_10 rfl (o2 := 1) (by decide) rfl dX7_account_49 ?_
  refine gf_X7_79 rfl (o2 := 2) (by decide) rfl dX7_account_52 ?_
  refine cl_X7_83 rfl (by decide) (k' := 0) (n' := 0) (c_countHome _ (by decide) hCR₉.1.1) ⟨⟨by decide, by decide⟩, ⟨rfl, rfl⟩, by decide, by decide⟩ rfl dX7_account_55 (fun μ9 h9₉ => ?_)
  rw [h9₉]; clear h9₉
  refine J.iret rfl (by decide) (by decide) dX7_account_58 ⟨_, rfl, ?_, ?_⟩
  · rfl
  · exact ⟨hCR₉, FrC.rf⟩

set_option maxRecDepth 100000 in
set_option maxHeartbeats 4000000 in
theorem c_acc1 {g : GP} {adr : Nat → Nat} (μ : Mem) {α : A7} (hCR₉ : CR μ α) : CT g yX7_account mX7_account (RM 20 1 6) (WM g adr μ) [.ref (adr 0), .int (nI 1)] (PM g adr ((.inl (some (.int (nI (cnt (oneB (fun s => aCol (qS α) (aAt (qS α) s))) 4)))))) (fun μ' => CR μ' α ∧ FrC μ' μ)) := by
  refine CT.of (l0 := [some (.ref (adr 0)), some (.int (nI 1))]) (by decide +kernel) rfl (Nat.le_of_ble_eq_true rfl) rfl ?_
  refine J.il1 dX7_account_0 ?_
  refine J.tableIn (tgt := 59) dX7_account_1 (by decide) (by decide) rfl (by decide) ?_
  refine J.al0 dX7_account_59 ?_
  refine gf_X7_10 rfl (o2 := 1) (by decide) rfl dX7_account_60 ?_
  refine gf_X7_79 rfl (o2 := 2) (by decide) rfl dX7_account_63 ?_
  refine cl_X7_285 rfl (by decide) (k' := 0) (n' := 0) (c_countDone _ (by decide) hCR₉.1.1 hCR₉.1.2.2.1) ⟨⟨by decide, by decide⟩, ⟨rfl, rfl⟩, by decide, by decide⟩ rfl dX7_account_66 (fun μ9 h9₉ => ?_)
  rw [h9₉]; clear h9₉
  refine J.iret rfl (by decide) (by decide) dX7_account_69 ⟨_, rfl, ?_, ?_⟩
  · rfl
  · exact ⟨hCR₉, FrC.rf⟩

set_option maxRecDepth 100000 in
set_option maxHeartbeats 4000000 in
theorem c_acc2 {g : GP} {adr : Nat → Nat} (μ : Mem) {α : A7} (hCR₉ : CR μ α) : CT g yX7_account mX7_account (RM 20 1 6) (WM g adr μ) [.ref (adr 0), .int (nI 2)] (PM g adr ((.inl (some (.int (nI (aLn (qS α))))))) (fun μ' => CR μ' α ∧ FrC μ' μ)) := by
  refine CT.of (l0 := [some (.ref (adr 0)), some (.int (nI 2))]) (by decide +kernel) rfl (Nat.le_of_ble_eq_true rfl) rfl ?_
  refine J.il1 dX7_account_0 ?_
  refine J.tableIn (tgt := 70) dX7_account_1 (by decide) (by decide) rfl (by decide) ?_
  refine J.al0 dX7_account_70 ?_
  refine gf_X7_10 rfl (o2 := 1) (by decide) rfl dX7_account_71 ?_
  refine gf_X7_93 rfl (o2 := 6) (by decide) rfl dX7_account_74 ?_
  refine cl_X7_97 rfl (by decide) (k' := 0) (n' := 0) (c_l_size _ (by decide) hCR₉.1.2.2.2.1) ⟨⟨by decide, by decide⟩, ⟨rfl, rfl⟩, by decide, by decide⟩ rfl dX7_account_77 (fun μ9 h9₉ => ?_)
  rw [h9₉]; clear h9₉
  refine J.iret rfl (by decide) (by decide) dX7_account_80 ⟨_, rfl, ?_, ?_⟩
  · rfl
  · exact ⟨hCR₉, FrC.rf⟩

set_option maxRecDepth 100000 in
set_option maxHeartbeats 4000000 in
theorem c_acc3 {g : GP} {adr : Nat → Nat} (μ : Mem) {α : A7} (hCR₉ : CR μ α) : CT g yX7_account mX7_account (RM 20 1 6) (WM g adr μ) [.ref (adr 0), .int (nI 3)] (PM g adr ((.inl (some (.int (nI (aMv (qS α))))))) (fun μ' => CR μ' α ∧ FrC μ' μ)) := by
  refine CT.of (l0 := [some (.ref (adr 0)), some (.int (nI 3))]) (by decide +kernel) rfl (Nat.le_of_ble_eq_true rfl) rfl ?_
  refine J.il1 dX7_account_0 ?_
  refine J.tableIn (tgt := 81) dX7_account_1 (by decide) (by decide) rfl (by decide) ?_
  refine J.al0 dX7_account_81 ?_
  refine gf_X7_10 rfl (o2 := 1) (by decide) rfl dX7_account_82 ?_
  refine gf_X7_288 rfl (x := nI (aMv (qS α))) (by decide) hCR₉.1.2.2.2.2.2.1 dX7_account_85 ?_
  refine J.iret rfl (by decide) (by decide) dX7_account_88 ⟨_, rfl, ?_, ?_⟩
  · rfl
  · exact ⟨hCR₉, FrC.rf⟩

set_option maxRecDepth 100000 in
set_option maxHeartbeats 4000000 in
theorem c_acc4 {g : GP} {adr : Nat → Nat} (μ : Mem) {α : A7} (hCR₉ : CR μ α) : CT g yX7_account mX7_account (RM 20 1 6) (WM g adr μ) [.ref (adr 0), .int (nI 4)] (PM g adr ((.inl (some (.int (nI (aRd (qS α))))))) (fun μ' => CR μ' α ∧ FrC μ' μ)) := by
  refine CT.of (l0 := [some (.ref (adr 0)), some (.int (nI 4))]) (by decide +kernel) rfl (Nat.le_of_ble_eq_true rfl) rfl ?_
  refine J.il1 dX7_account_0 ?_
  refine J.tableIn (tgt := 89) dX7_account_1 (by decide) (by decide) rfl (by decide) ?_
  refine J.al0 dX7_account_89 ?_
  refine gf_X7_10 rfl (o2 := 1) (by decide) rfl dX7_account_90 ?_
  refine gf_X7_275 rfl (x := nI (aRd (qS α))) (by decide) hCR₉.1.2.2.2.2.2.2.1 dX7_account_93 ?_
  refine J.iret rfl (by decide) (by decide) dX7_account_96 ⟨_, rfl, ?_, ?_⟩
  · rfl
  · exact ⟨hCR₉, FrC.rf⟩

set_option maxRecDepth 100000 in
set_option maxHeartbeats 4000000 in
theorem c_acc5 {g : GP} {adr : Nat → Nat} (μ : Mem) {α : A7} (hCR₉ : CR μ α) : CT g yX7_account mX7_account (RM 20 1 6) (WM g adr μ) [.ref (adr 0), .int (nI 5)] (PM g adr ((.inl (some (.int (nI (cnt (aFl (qS α)) 5)))))) (fun μ' => CR μ' α ∧ FrC μ' μ)) := by
  refine CT.of (l0 := [some (.ref (adr 0)), some (.int (nI 5))]) (by decide +kernel) rfl (Nat.le_of_ble_eq_true rfl) rfl ?_
  refine J.il1 dX7_account_0 ?_
  refine J.tableIn (tgt := 97) dX7_account_1 (by decide) (by decide) rfl (by decide) ?_
  refine J.al0 dX7_account_97 ?_
  refine gf_X7_10 rfl (o2 := 1) (by decide) rfl dX7_account_98 ?_
  refine cl_X7_214 rfl (by decide) (k' := 0) (n' := 0) (c_countFilled _ (by decide) hCR₉.1) ⟨⟨by decide, by decide⟩, ⟨rfl, rfl⟩, by decide, by decide⟩ rfl dX7_account_101 (fun μ9 h9₉ => ?_)
  rw [h9₉]; clear h9₉
  refine J.iret rfl (by decide) (by decide) dX7_account_104 ⟨_, rfl, ?_, ?_⟩
  · rfl
  · exact ⟨hCR₉, FrC.rf⟩

set_option maxRecDepth 100000 in
set_option maxHeartbeats 4000000 in
theorem c_acc6 {g : GP} {adr : Nat → Nat} (μ : Mem) {α : A7} (hCR₉ : CR μ α) : CT g yX7_account mX7_account (RM 20 1 6) (WM g adr μ) [.ref (adr 0), .int (nI 6)] (PM g adr ((.inl (some (.int (nI ((qI α).1)))))) (fun μ' => CR μ' α ∧ FrC μ' μ)) := by
  refine CT.of (l0 := [some (.ref (adr 0)), some (.int (nI 6))]) (by decide +kernel) rfl (Nat.le_of_ble_eq_true rfl) rfl ?_
  refine J.il1 dX7_account_0 ?_
  refine J.tableIn (tgt := 105) dX7_account_1 (by decide) (by decide) rfl (by decide) ?_
  refine J.al0 dX7_account_105 ?_
  refine gf_X7_33 rfl (o2 := 193) (by decide) rfl dX7_account_106 ?_
  refine gf_X7_152 rfl (o2 := 194) (by decide) rfl dX7_account_109 ?_
  refine cl_X7_256 rfl (by decide) (k' := 0) (n' := 0) (c_s_size _ (by decide) hCR₉.2.2.2.2.1.1) ⟨⟨by decide, by decide⟩, ⟨rfl, rfl⟩, by decide, by decide⟩ rfl dX7_account_112 (fun μ9 h9₉ => ?_)
  rw [h9₉]; clear h9₉
  refine J.iret rfl (by decide) (by decide) dX7_account_115 ⟨_, rfl, ?_, ?_⟩
  · rfl
  · exact ⟨hCR₉, FrC.rf⟩
