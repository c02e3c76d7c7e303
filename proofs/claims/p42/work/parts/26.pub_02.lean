/-! ===== printed: the class: lines, texts, accounts, undo ===== -/
set_option maxRecDepth 100000 in
set_option maxHeartbeats 4000000 in
theorem c_character {g : GP} {adr : Nat → Nat} (μ : Mem) {α : A7} (hCR₉ : CR μ α) {i : Nat} (hi1₉ : i < (qL α).1)  : CT g yX7_character mX7_character (RM 20 1 6) (WM g adr μ) [.ref (adr 0), .int (nI i)] (PM g adr (.inl (some (.int (nI ((qL α).2 i))))) (fun μ' => CR μ' α ∧ FrC μ' μ)) := by
  refine CT.of (l0 := [some (.ref (adr 0)), some (.int (nI i))]) (by decide +kernel) rfl (Nat.le_of_ble_eq_true rfl) rfl ?_
  have hll₉ := hCR₉.2.2.2.2.2.2.2.1
  refine J.il1 dX7_character_0 ?_
  refine J.al0 dX7_character_1 ?_
  refine gf_X7_40 rfl (o2 := 231) (by decide) rfl dX7_character_2 ?_
  refine cl_X7_256 rfl (by decide) (k' := 0) (n' := 0) (c_s_size _ (by decide) hCR₉.2.2.2.2.2.2.1.1) ⟨⟨by decide, by decide⟩, ⟨rfl, rfl⟩, by decide, by decide⟩ rfl dX7_character_5 (fun μ9 h9₉ => ?_)
  rw [h9₉]; clear h9₉
  refine cl_X7_89 rfl (k' := 0) (n' := 0) (c_needIndexOk _ (by omega) (by omega)) ⟨⟨by decide, by decide⟩, ⟨rfl, rfl⟩, by decide, by decide⟩ rfl dX7_character_8 (fun μ9 h9₉ => ?_)
  rw [h9₉]; clear h9₉
  refine J.al0 dX7_character_11 ?_
  refine gf_X7_40 rfl (o2 := 231) (by decide) rfl dX7_character_12 ?_
  refine J.il1 dX7_character_15 ?_
  have hch₉ := (hCR₉.2.2.2.2.2.2.1.2 i hi1₉).2
  refine cl_X7_267 rfl (by decide) (k' := 0) (n' := 0) (c_signAt _ (by decide) hCR₉.2.2.2.2.2.2.1.1 (by omega) hi1₉ (fun k hk₉ => (hCR₉.2.2.2.2.2.2.1.2 k hk₉).1)) ⟨⟨by decide, by decide⟩, ⟨rfl, rfl⟩, by decide, by decide⟩ rfl dX7_character_16 (fun μ9 h9₉ => ?_)
  rw [h9₉]; clear h9₉
  refine J.i2c dX7_character_19 (i2cN (by omega)) ?_
  refine J.zret (ty := .char) rfl (congrArg Value.int (nar_c hch₉)) (by decide) (by decide) dX7_character_20 ⟨_, rfl, ?_, ?_⟩
  · rfl
  · exact ⟨hCR₉, FrC.rf⟩

set_option maxRecDepth 100000 in
set_option maxHeartbeats 4000000 in
theorem c_appendX {g : GP} {adr : Nat → Nat} (μ : Mem) {α : A7} (hCR₉ : CR μ α) {c : Nat} (hx₉ : 60 ≤ (qI α).1) : CT g yX7_append mX7_append (RM 20 1 6) (WM g adr μ) [.ref (adr 0), .int (nI c)] (PM g adr (.inr "java/lang/IllegalStateException") (fun μ' => CR μ' α ∧ FrC μ' μ)) := by
  refine CT.of (l0 := [some (.ref (adr 0)), some (.int (nI c))]) (by decide +kernel) rfl (Nat.le_of_ble_eq_true rfl) rfl ?_
  have hil₉ := hCR₉.2.2.2.2.2.1
  refine J.al0 dX7_append_0 ?_
  refine gf_X7_33 rfl (o2 := 193) (by decide) rfl dX7_append_1 ?_
  refine gf_X7_152 rfl (o2 := 194) (by decide) rfl dX7_append_4 ?_
  refine cl_X7_256 rfl (by decide) (k' := 0) (n' := 0) (c_s_size _ (by decide) hCR₉.2.2.2.2.1.1) ⟨⟨by decide, by decide⟩, ⟨rfl, rfl⟩, by decide, by decide⟩ rfl dX7_append_7 (fun μ9 h9₉ => ?_)
  rw [h9₉]; clear h9₉
  refine J.bipush dX7_append_10 kb_60 ?_
  refine J.icmp_ltN (tgt := 26) dX7_append_12 (by decide) (by omega) (by omega) (fun c12₉ => absurd c12₉ (by first | omega | (simp only [not_true_eq_false, not_false_eq_true]; done) | (simp; done))) (fun c12₉ => ?_)
  refine J.throwSW (E := "java/lang/IllegalStateException") (tx := "the input is full") (names := ["java/lang/RuntimeException", "java/lang/Exception"]) (by decide +kernel) (by decide +kernel) t_746 t_27 rfl (by decide +kernel) (fun p ln s m args meth c C9 => C9.at at_274) ao_274 dX7_append_15 dX7_append_18 dX7_append_19 dX7_append_22 dX7_append_25 rfl rfl (by decide) (by decide) (by decide) (by decide) ⟨_, rfl, rfl, ?_⟩
  exact ⟨hCR₉, FrC.rf⟩

set_option maxRecDepth 100000 in
set_option maxHeartbeats 4000000 in
theorem c_append {g : GP} {adr : Nat → Nat} (μ : Mem) {α : A7} (hCR₉ : CR μ α) {c : Nat} (hc₉ : c < 65536) (hx₉ : (qI α).1 < 60) : CT g yX7_append mX7_append (RM 20 1 6) (WM g adr μ) [.ref (adr 0), .int (nI c)] (PM g adr ((.inl (some (.int (nI ((qI α).1 + 1)))))) (fun μ' => CR μ' (aInp (tP c (qI α)) α) ∧ FrC μ' μ)) := by
  refine CT.of (l0 := [some (.ref (adr 0)), some (.int (nI c))]) (by decide +kernel) rfl (Nat.le_of_ble_eq_true rfl) rfl ?_
  refine J.al0 dX7_append_0 ?_
  refine gf_X7_33 rfl (o2 := 193) (by decide) rfl dX7_append_1 ?_
  refine gf_X7_152 rfl (o2 := 194) (by decide) rfl dX7_append_4 ?_
  refine cl_X7_256 rfl (by decide) (k' := 0) (n' := 0) (c_s_size _ (by decide) hCR₉.2.2.2.2.1.1) ⟨⟨by decide, by decide⟩, ⟨rfl, rfl⟩, by decide, by decide⟩ rfl dX7_append_7 (fun μ9 h9₉ => ?_)
  rw [h9₉]; clear h9₉
  refine J.bipush dX7_append_10 kb_60 ?_
  refine J.icmp_ltN (tgt := 26) dX7_append_12 (by decide) (by omega) (by omega) (fun c12₉ => ?_) (fun c12₉ => absurd c12₉ (by first | omega | (simp only [not_true_eq_false, not_false_eq_true]; done) | (simp; done)))
  refine J.al0 dX7_append_26 ?_
  refine gf_X7_33 rfl (o2 := 193) (by decide) rfl dX7_append_27 ?_
  refine gf_X7_152 rfl (o2 := 194) (by decide) rfl dX7_append_30 ?_
  refine J.il1 dX7_append_33 ?_
  refine cl_X7_257 rfl (by decide) (k' := 0) (n' := 0) (c_addSignT _ (by decide) hCR₉.2.2.2.2.1 (by omega) hc₉) ⟨⟨by decide, by decide⟩, ⟨rfl, rfl⟩, by decide, by decide⟩ rfl dX7_append_34 (fun μ2 ⟨hT2₉, hO2₉⟩ => ?_)
  refine J.al0 dX7_append_37 ?_
  refine gf_X7_33 rfl (o2 := 193) (by decide) rfl dX7_append_38 ?_
  refine gf_X7_152 rfl (o2 := 194) (by decide) rfl dX7_append_41 ?_
  refine cl_X7_256 rfl (by decide) (k' := 0) (n' := 0) (c_s_size _ (by decide) hT2₉.1) ⟨⟨by decide, by decide⟩, ⟨rfl, rfl⟩, by decide, by decide⟩ rfl dX7_append_44 (fun μ9 h9₉ => ?_)
  rw [h9₉]; clear h9₉
  refine J.iret rfl (by decide) (by decide) dX7_append_47 ⟨_, rfl, ?_, ?_⟩
  · rfl
  · exact ⟨hCR₉.inp hT2₉ (show (qI α).1 + 1 ≤ 60 by omega) (fun o ho₉ => hO2₉ o (by omega) (by omega)), fun o ho₉ => hO2₉ o (by omega) (by omega)⟩





