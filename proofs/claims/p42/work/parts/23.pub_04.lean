/-! ===== printed: the class: moves, slots and colours ===== -/
set_option maxRecDepth 100000 in
set_option maxHeartbeats 4000000 in
theorem c_paint {g : GP} {adr : Nat → Nat} (μ : Mem) {α : A7} (hCR₉ : CR μ α) {i : Nat} (hi1₉ : i < 32) {j : Nat} (hj1₉ : 0 ≤ j) (hj2₉ : j ≤ 5) (hq₉ : aCol (qS α) i ≠ j) : CT g yX7_paint mX7_paint (RM 20 1 6) (WM g adr μ) [.ref (adr 0), .int (nI i), .int (nI j)] (PM g adr ((.inl (some (.int (nI (aCol (qS α) i)))))) (fun μ' => CR μ' (aPush (sCol i j (qS α)) α) ∧ FrC μ' μ)) := by
  refine CT.of (l0 := [some (.ref (adr 0)), some (.int (nI i)), some (.int (nI j)), none]) (by decide +kernel) rfl (Nat.le_of_ble_eq_true rfl) rfl ?_
  refine J.il1 dX7_paint_0 ?_
  refine cl_X7_120 rfl (k' := 0) (n' := 0) (c_needSlotOk _ (by omega)) ⟨⟨by decide, by decide⟩, ⟨rfl, rfl⟩, by decide, by decide⟩ rfl dX7_paint_1 (fun μ9 h9₉ => ?_)
  rw [h9₉]; clear h9₉
  refine J.il2 dX7_paint_4 ?_
  refine J.iconst dX7_paint_5 kI_0 ?_
  refine J.iconst dX7_paint_6 kI_5 ?_
  refine cl_X7_68 rfl (k' := 0) (n' := 0) (c_needFromToOk _ (by omega) (by omega) (by decide)) ⟨⟨by decide, by decide⟩, ⟨rfl, rfl⟩, by decide, by decide⟩ rfl dX7_paint_7 (fun μ9 h9₉ => ?_)
  rw [h9₉]; clear h9₉
  refine J.al0 dX7_paint_10 ?_
  refine gf_X7_10 rfl (o2 := 1) (by decide) rfl dX7_paint_11 ?_
  refine gf_X7_79 rfl (o2 := 2) (by decide) rfl dX7_paint_14 ?_
  refine J.il1 dX7_paint_17 ?_
  have hcb₉ := (hCR₉.1.2.2.1 i (by omega)).2
  refine cl_X7_129 rfl (by decide) (k' := 0) (n' := 0) (c_colourOf _ (by decide) hCR₉.1.2.2.1 (by omega)) ⟨⟨by decide, by decide⟩, ⟨rfl, rfl⟩, by decide, by decide⟩ rfl dX7_paint_18 (fun μ9 h9₉ => ?_)
  rw [h9₉]; clear h9₉
  refine J.is3 dX7_paint_21 (by decide) rfl ?_
  refine J.il3 dX7_paint_22 ?_
  refine J.il2 dX7_paint_23 ?_
  refine J.icmp_neN (tgt := 33) dX7_paint_24 (by decide) (by omega) (by omega) (fun c24₉ => ?_) (fun c24₉ => absurd c24₉ (by first | omega | (simp only [not_true_eq_false, not_false_eq_true]; done) | (simp; done)))
  refine J.al0 dX7_paint_33 ?_
  refine gf_X7_19 rfl (o2 := 20) (by decide) rfl dX7_paint_34 ?_
  refine J.al0 dX7_paint_37 ?_
  refine gf_X7_10 rfl (o2 := 1) (by decide) rfl dX7_paint_38 ?_
  refine cl_X7_72 rfl (by decide) (k' := 0) (n' := 0) (c_hold _ hCR₉.2.1 hCR₉.1) ⟨⟨by decide, by decide⟩, ⟨rfl, rfl⟩, by decide, by decide⟩ rfl dX7_paint_41 (fun μ2 ⟨hP2₉, hO2₉⟩ => ?_)
  have hC2₉ : CS μ2 1 (qS α) := hCR₉.1.off (fun o q1₉ q2₉ => hO2₉ o (by omega))
  refine J.al0 dX7_paint_44 ?_
  refine gf_X7_10 rfl (o2 := 1) (by decide) rfl dX7_paint_45 ?_
  refine gf_X7_79 rfl (o2 := 2) (by decide) rfl dX7_paint_48 ?_
  refine J.il1 dX7_paint_51 ?_
  refine J.il2 dX7_paint_52 ?_
  refine cl_X7_132 rfl (by decide) (k' := 0) (n' := 0) (c_giveColour _ (by decide) (by omega)) ⟨⟨by decide, by decide⟩, ⟨rfl, rfl⟩, by decide, by decide⟩ rfl dX7_paint_53 (fun μ3 h3₉ => ?_)
  refine J.il3 dX7_paint_56 ?_
  refine J.iret rfl (by decide) (by decide) dX7_paint_57 ⟨_, rfl, ?_, ?_⟩
  · rfl
  · exact ⟨hCR₉.push hP2₉ hO2₉ (by rw [h3₉]; exact hC2₉.sColA (by omega)) (fun o ho₉ => by rw [h3₉, wr_o (by omega)]), fun o ho₉ => by rw [h3₉, wr_o (by omega), hO2₉ o (by omega)]⟩

set_option maxRecDepth 100000 in
set_option maxHeartbeats 4000000 in
theorem c_paintX2 {g : GP} {adr : Nat → Nat} (μ : Mem) {α : A7} (hCR₉ : CR μ α) {i : Nat} (hi1₉ : i < 32) {j : Nat} (hj1₉ : 0 ≤ j) (hj2₉ : j ≤ 5) (hq₉ : aCol (qS α) i = j) : CT g yX7_paint mX7_paint (RM 20 1 6) (WM g adr μ) [.ref (adr 0), .int (nI i), .int (nI j)] (PM g adr (.inr "java/lang/UnsupportedOperationException") (fun μ' => CR μ' (aRef 4 j α) ∧ FrC μ' μ)) := by
  refine CT.of (l0 := [some (.ref (adr 0)), some (.int (nI i)), some (.int (nI j)), none]) (by decide +kernel) rfl (Nat.le_of_ble_eq_true rfl) rfl ?_
  refine J.il1 dX7_paint_0 ?_
  refine cl_X7_120 rfl (k' := 0) (n' := 0) (c_needSlotOk _ (by omega)) ⟨⟨by decide, by decide⟩, ⟨rfl, rfl⟩, by decide, by decide⟩ rfl dX7_paint_1 (fun μ9 h9₉ => ?_)
  rw [h9₉]; clear h9₉
  refine J.il2 dX7_paint_4 ?_
  refine J.iconst dX7_paint_5 kI_0 ?_
  refine J.iconst dX7_paint_6 kI_5 ?_
  refine cl_X7_68 rfl (k' := 0) (n' := 0) (c_needFromToOk _ (by omega) (by omega) (by decide)) ⟨⟨by decide, by decide⟩, ⟨rfl, rfl⟩, by decide, by decide⟩ rfl dX7_paint_7 (fun μ9 h9₉ => ?_)
  rw [h9₉]; clear h9₉
  refine J.al0 dX7_paint_10 ?_
  refine gf_X7_10 rfl (o2 := 1) (by decide) rfl dX7_paint_11 ?_
  refine gf_X7_79 rfl (o2 := 2) (by decide) rfl dX7_paint_14 ?_
  refine J.il1 dX7_paint_17 ?_
  have hcb₉ := (hCR₉.1.2.2.1 i (by omega)).2
  refine cl_X7_129 rfl (by decide) (k' := 0) (n' := 0) (c_colourOf _ (by decide) hCR₉.1.2.2.1 (by omega)) ⟨⟨by decide, by decide⟩, ⟨rfl, rfl⟩, by decide, by decide⟩ rfl dX7_paint_18 (fun μ9 h9₉ => ?_)
  rw [h9₉]; clear h9₉
  refine J.is3 dX7_paint_21 (by decide) rfl ?_
  refine J.il3 dX7_paint_22 ?_
  refine J.il2 dX7_paint_23 ?_
  refine J.icmp_neN (tgt := 33) dX7_paint_24 (by decide) (by omega) (by omega) (fun c24₉ => absurd c24₉ (by first | omega | (simp only [not_true_eq_false, not_false_eq_true]; done) | (simp; done))) (fun c24₉ => ?_)
  refine J.al0 dX7_paint_27 ?_
  refine J.iconst dX7_paint_28 kI_4 ?_
  refine J.il2 dX7_paint_29 ?_
  refine cx_X7_102 rfl (by decide) (k' := 1) (n' := 6) (c_refuse _) ⟨⟨by decide, by decide⟩, ⟨rfl, rfl⟩, by decide, by decide⟩ rfl dX7_paint_30 (fun μ9 h9₉ => ?_)
  exact JX.out ⟨_, rfl, rfl, (by rw [h9₉]; exact ⟨hCR₉.ref (by decide), fun o ho₉ => by rw [wr_o (by omega), wr_o (by omega)]⟩)⟩ rfl rfl (by decide) (by decide)
