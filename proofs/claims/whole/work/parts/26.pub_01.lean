/-! ===== printed: the class: lines, texts, accounts, undo ===== -/
set_option maxRecDepth 100000 in
set_option maxHeartbeats 4000000 in
theorem c_addNumber1 {g : GP} {adr : Nat → Nat} (μ : Mem) {q a : Nat} {T : TX} (hq₉ : kt q = 9) (hx₉ : TxR μ q T) (hx2₉ : T.1 < 120) (ha₉ : a < 10) : CT g yX5_addNumber mX5_addNumber (RM 2 0 0) (WM g adr μ) [.ref (adr q), .int (nI a)] (PM g adr (.inl none) (fun μ' => TxR μ' q (tN a T) ∧ ∀ o, o ≠ q → o ≠ q + 1 → μ' o = μ o)) := by
  refine CT.of (l0 := [some (.ref (adr q)), some (.int (nI a))]) (by decide +kernel) rfl (Nat.le_of_ble_eq_true rfl) rfl ?_
  have hq1₉ := kt_sg hq₉
  refine J.il1 dX5_addNumber_0 ?_
  refine J.bipush dX5_addNumber_1 kb_10 ?_
  refine J.icmp_ltN (tgt := 18) dX5_addNumber_3 (by decide) (by omega) (by omega) (fun c3₉ => ?_) (fun c3₉ => absurd c3₉ (by first | omega | (simp only [not_true_eq_false, not_false_eq_true]; done) | (simp; done)))
  refine J.al0 dX5_addNumber_18 ?_
  refine J.bipush dX5_addNumber_19 kb_48 ?_
  refine J.il1 dX5_addNumber_21 ?_
  refine J.bipush dX5_addNumber_22 kb_10 ?_
  refine J.irem dX5_addNumber_24 (by omega) (by omega) (by omega) ?_
  refine J.iaddN dX5_addNumber_25 ?_
  refine J.i2c dX5_addNumber_26 (i2cN (by omega)) ?_
  refine cl_X5_25 rfl hq₉ (k' := 0) (n' := 0) (c_addSign _ hq₉ hx₉.1 hx2₉ (by omega)) ⟨⟨by decide, by decide⟩, ⟨rfl, rfl⟩, by decide, by decide⟩ rfl dX5_addNumber_27 (fun μ3 h3₉ => ?_)
  refine J.vret rfl (by decide) (by decide) dX5_addNumber_30 ⟨_, rfl, ?_, ?_⟩
  · rfl
  · exact ⟨numT_1 (by omega) (by rw [h3₉]; exact SgT.add hx₉ (by omega)), fun o h8₉ h9₉ => by rw [h3₉, wr_o h8₉, wr_o h9₉]⟩

set_option maxRecDepth 100000 in
set_option maxHeartbeats 4000000 in
theorem c_lineX0 {g : GP} {adr : Nat → Nat} (μ : Mem) {α : A7} (hCR₉ : CR μ α) {i : Int32} (hx₉ : ¬ (0 ≤ i ∧ i < nI 4)) : CT g yX7_line mX7_line (RM 20 1 6) (WM g adr μ) [.ref (adr 0), .int i] (PM g adr (.inr "java/lang/IndexOutOfBoundsException") (fun μ' => CR μ' α ∧ FrC μ' μ)) := by
  refine CT.of (l0 := [some (.ref (adr 0)), some (.int i), none]) (by decide +kernel) rfl (Nat.le_of_ble_eq_true rfl) rfl ?_
  refine J.il1 dX7_line_0 ?_
  refine cx_X7_64 rfl (k' := 1) (n' := 6) (c_needRingX _ hx₉) ⟨⟨by decide, by decide⟩, ⟨rfl, rfl⟩, by decide, by decide⟩ rfl dX7_line_1 (fun μ9 h9₉ => ?_)
  exact JX.out ⟨_, rfl, rfl, (by rw [h9₉]; exact ⟨hCR₉, FrC.rf⟩)⟩ rfl rfl (by decide) (by decide)

set_option maxRecDepth 100000 in
set_option maxHeartbeats 4000000 in
theorem c_line {g : GP} {adr : Nat → Nat} (μ : Mem) {α : A7} (hCR₉ : CR μ α) {i : Nat} (hi1₉ : i < 4)  : CT g yX7_line mX7_line (RM 20 1 6) (WM g adr μ) [.ref (adr 0), .int (nI i)] (PM g adr ((.inl (some (.int (nI (tLn (fun c => aCol (qS α) (aAt (qS α) (i * 8 + c))) 8).1))))) (fun μ' => CR μ' (aLin (tLn (fun c => aCol (qS α) (aAt (qS α) (i * 8 + c))) 8) α) ∧ FrC μ' μ)) := by
  refine CT.of (l0 := [some (.ref (adr 0)), some (.int (nI i)), none]) (by decide +kernel) rfl (Nat.le_of_ble_eq_true rfl) rfl ?_
  have hcb₉ : ∀ c, i * 8 + c < 32 → aCol (qS α) (aAt (qS α) (i * 8 + c)) < 6 := fun c h9₉ => hCR₉.1.vs.2.1 _ (hCR₉.1.vs.1.1 _ h9₉)
  refine J.il1 dX7_line_0 ?_
  refine cl_X7_64 rfl (k' := 0) (n' := 0) (c_needRingOk _ (by omega)) ⟨⟨by decide, by decide⟩, ⟨rfl, rfl⟩, by decide, by decide⟩ rfl dX7_line_1 (fun μ9 h9₉ => ?_)
  rw [h9₉]; clear h9₉
  refine J.al0 dX7_line_4 ?_
  refine gf_X7_40 rfl (o2 := 231) (by decide) rfl dX7_line_5 ?_
  refine cl_X7_155 rfl (by decide) (k' := 0) (n' := 0) (c_s_clear _ (by decide)) ⟨⟨by decide, by decide⟩, ⟨rfl, rfl⟩, by decide, by decide⟩ rfl dX7_line_8 (fun μ2 h2₉ => ?_)
  have hO2₉ : ∀ o, o ≠ 231 → o ≠ 232 → μ2 o = μ o := fun o q1₉ q2₉ => by rw [h2₉, wr_o q1₉]
  have hT2₉ : TxR μ2 231 t0 := by rw [h2₉]; exact SgT.clr
  refine J.iconst dX7_line_11 kI_0 ?_
  refine J.is2 dX7_line_12 (by decide) rfl ?_
  have lp13_1 : ∀ (fu : Nat) (c : Nat) (μ1 : Mem), 8 < c + fu → c ≤ 8 → TxR μ1 231 (tLn (fun c => aCol (qS α) (aAt (qS α) (i * 8 + c))) c) → (∀ o, o ≠ 231 → o ≠ 232 → μ1 o = μ o) → J g mX7_line (RM 20 1 6) (MQx g (RM 20 1 6) (PM g adr ((.inl (some (.int (nI (tLn (fun c => aCol (qS α) (aAt (qS α) (i * 8 + c))) 8).1))))) (fun μ' => CR μ' (aLin (tLn (fun c => aCol (qS α) (aAt (qS α) (i * 8 + c))) 8) α) ∧ FrC μ' μ))) 0 0 (WM g adr μ1) 13 [some (.ref (adr 0)), some (.int (nI i)), some (.int (nI c))] [] := by
    intro fu
    induction fu with
    | zero => intro c μ1 h9₉ hc₉ hT1₉ hO₉; exact absurd h9₉ (by omega)
    | succ fu ih13 =>
      intro c μ1 h9₉ hc₉ hT1₉ hO₉
      have hCm₉ : CS μ1 1 (qS α) := hCR₉.1.off (fun o q1₉ q2₉ => hO₉ o (by omega) (by omega))
      refine J.il2 dX7_line_13 ?_
      refine J.bipush dX7_line_14 kb_8 ?_
      refine J.icmp_geN (tgt := 48) dX7_line_16 (by decide) (by omega) (by omega) (fun c16₉ => ?_) (fun c16₉ => ?_)
      · refine J.al0 dX7_line_48 ?_
        refine gf_X7_40 rfl (o2 := 231) (by decide) rfl dX7_line_49 ?_
        obtain rfl : c = 8 := by omega
        refine cl_X7_256 rfl (by decide) (k' := 0) (n' := 0) (c_s_size _ (by decide) hT1₉.1) ⟨⟨by decide, by decide⟩, ⟨rfl, rfl⟩, by decide, by decide⟩ rfl dX7_line_52 (fun μ9 h9₉ => ?_)
        rw [h9₉]; clear h9₉
        refine J.iret rfl (by decide) (by decide) dX7_line_55 ⟨_, rfl, ?_, ?_⟩
        · rfl
        · exact ⟨hCR₉.lin hT1₉ (by rw [tLn_len (fun k hk₉ => by have := hcb₉ k (by omega); show aCol (qS α) (aAt (qS α) (i * 8 + k)) < 10; omega)]; decide) (fun o ho₉ => hO₉ o (by omega) (by omega)), fun o ho₉ => hO₉ o (by omega) (by omega)⟩
      · refine J.al0 dX7_line_19 ?_
        refine gf_X7_40 rfl (o2 := 231) (by decide) rfl dX7_line_20 ?_
        refine J.al0 dX7_line_23 ?_
        refine gf_X7_10 rfl (o2 := 1) (by decide) rfl dX7_line_24 ?_
        refine gf_X7_79 rfl (o2 := 2) (by decide) rfl dX7_line_27 ?_
        refine J.il1 dX7_line_30 ?_
        refine J.bipush dX7_line_31 kb_8 ?_
        refine J.imulN dX7_line_33 ?_
        refine J.il2 dX7_line_34 ?_
        refine J.iaddN dX7_line_35 ?_
        refine cl_X7_135 rfl (by decide) (k' := 0) (n' := 0) (c_colourIn _ (by decide) hCm₉.1 hCm₉.2.2.1 (by omega)) ⟨⟨by decide, by decide⟩, ⟨rfl, rfl⟩, by decide, by decide⟩ rfl dX7_line_36 (fun μ9 h9₉ => ?_)
        rw [h9₉]; clear h9₉
        have hlen := tLn_len (h := fun c => aCol (qS α) (aAt (qS α) (i * 8 + c))) (n := c) (fun k hk₉ => by have := hcb₉ k (by omega); show aCol (qS α) (aAt (qS α) (i * 8 + k)) < 10; omega)
        have hcc₉ := hcb₉ c (by omega)
        refine cl_X7_253 rfl (by decide) (k' := 0) (n' := 0) (c_addNumber1 _ (by decide) hT1₉ (by omega) (by omega)) ⟨⟨by decide, by decide⟩, ⟨rfl, rfl⟩, by decide, by decide⟩ rfl dX7_line_39 (fun μ3 ⟨hT3₉, hO3₉⟩ => ?_)
        refine J.ii2 (z := 1) dX7_line_42 (by decide) (by decide) rfl ?_
        refine J.goto (tgt := 13) dX7_line_45 (by decide) ?_
        exact ih13 (c + 1) _ (by omega) (by omega) hT3₉ (fun o q1₉ q2₉ => (hO3₉ o q1₉ q2₉).trans (hO₉ o q1₉ q2₉))
  exact lp13_1 (9) 0 _ (by omega) (by omega) hT2₉ hO2₉

set_option maxRecDepth 100000 in
set_option maxHeartbeats 4000000 in
theorem c_logLine {g : GP} {adr : Nat → Nat} (μ : Mem) {α : A7} (hCR₉ : CR μ α)  : CT g yX7_logLine mX7_logLine (RM 20 1 6) (WM g adr μ) [.ref (adr 0)] (PM g adr ((.inl (some (.int (nI (tLog (aLg (qS α)) (aLn (qS α))).1))))) (fun μ' => CR μ' (aLin (tLog (aLg (qS α)) (aLn (qS α))) α) ∧ FrC μ' μ)) := by
  refine CT.of (l0 := [some (.ref (adr 0)), none]) (by decide +kernel) rfl (Nat.le_of_ble_eq_true rfl) rfl ?_
  have hln₉ := hCR₉.1.ln
  refine J.al0 dX7_logLine_0 ?_
  refine gf_X7_40 rfl (o2 := 231) (by decide) rfl dX7_logLine_1 ?_
  refine cl_X7_155 rfl (by decide) (k' := 0) (n' := 0) (c_s_clear _ (by decide)) ⟨⟨by decide, by decide⟩, ⟨rfl, rfl⟩, by decide, by decide⟩ rfl dX7_logLine_4 (fun μ2 h2₉ => ?_)
  have hO2₉ : ∀ o, o ≠ 231 → o ≠ 232 → μ2 o = μ o := fun o q1₉ q2₉ => by rw [h2₉, wr_o q1₉]
  have hT2₉ : TxR μ2 231 t0 := by rw [h2₉]; exact SgT.clr
  refine J.iconst dX7_logLine_7 kI_0 ?_
  refine J.is1 dX7_logLine_8 (by decide) rfl ?_
  have lp9_1 : ∀ (fu : Nat) (p : Nat) (μ1 : Mem), aLn (qS α) < p + fu → p ≤ aLn (qS α) → TxR μ1 231 (tLog (aLg (qS α)) p) → (∀ o, o ≠ 231 → o ≠ 232 → μ1 o = μ o) → J g mX7_logLine (RM 20 1 6) (MQx g (RM 20 1 6) (PM g adr ((.inl (some (.int (nI (tLog (aLg (qS α)) (aLn (qS α))).1))))) (fun μ' => CR μ' (aLin (tLog (aLg (qS α)) (aLn (qS α))) α) ∧ FrC μ' μ))) 0 0 (WM g adr μ1) 9 [some (.ref (adr 0)), some (.int (nI p))] [] := by
    intro fu
    induction fu with
    | zero => intro p μ1 h9₉ hc₉ hT1₉ hO₉; exact absurd h9₉ (by omega)
    | succ fu ih9 =>
      intro p μ1 h9₉ hc₉ hT1₉ hO₉
      have hCm₉ : CS μ1 1 (qS α) := hCR₉.1.off (fun o q1₉ q2₉ => hO₉ o (by omega) (by omega))
      have hlen := tLog_len (h := aLg (qS α)) (n := p) (fun k hk₉ => (mv_digs hCR₉.1.vs (by omega)).2)
      refine J.il1 dX7_logLine_9 ?_
      refine J.al0 dX7_logLine_10 ?_
      refine gf_X7_10 rfl (o2 := 1) (by decide) rfl dX7_logLine_11 ?_
      refine gf_X7_93 rfl (o2 := 6) (by decide) rfl dX7_logLine_14 ?_
      refine cl_X7_97 rfl (by decide) (k' := 0) (n' := 0) (c_l_size _ (by decide) hCm₉.2.2.2.1) ⟨⟨by decide, by decide⟩, ⟨rfl, rfl⟩, by decide, by decide⟩ rfl dX7_logLine_17 (fun μ9 h9₉ => ?_)
      rw [h9₉]; clear h9₉
      refine J.icmp_geN (tgt := 96) dX7_logLine_20 (by decide) (by omega) (by omega) (fun c20₉ => ?_) (fun c20₉ => ?_)
      · refine J.al0 dX7_logLine_96 ?_
        refine gf_X7_40 rfl (o2 := 231) (by decide) rfl dX7_logLine_97 ?_
        obtain rfl : p = aLn (qS α) := by omega
        refine cl_X7_256 rfl (by decide) (k' := 0) (n' := 0) (c_s_size _ (by decide) hT1₉.1) ⟨⟨by decide, by decide⟩, ⟨rfl, rfl⟩, by decide, by decide⟩ rfl dX7_logLine_100 (fun μ9 h9₉ => ?_)
        rw [h9₉]; clear h9₉
        refine J.iret rfl (by decide) (by decide) dX7_logLine_103 ⟨_, rfl, ?_, ?_⟩
        · rfl
        · exact ⟨hCR₉.lin hT1₉ (by omega) (fun o ho₉ => hO₉ o (by omega) (by omega)), fun o ho₉ => hO₉ o (by omega) (by omega)⟩
      · obtain ⟨g1, g2, g3⟩ := mv_digs hCR₉.1.vs (p := p) (by omega)
        refine J.al0 dX7_logLine_23 ?_
        refine gf_X7_40 rfl (o2 := 231) (by decide) rfl dX7_logLine_24 ?_
        refine J.al0 dX7_logLine_27 ?_
        refine gf_X7_10 rfl (o2 := 1) (by decide) rfl dX7_logLine_28 ?_
        refine gf_X7_93 rfl (o2 := 6) (by decide) rfl dX7_logLine_31 ?_
        refine J.il1 dX7_logLine_34 ?_
        refine J.iconst dX7_logLine_35 kI_0 ?_
        have hpt₉ := c_part (g := g) (adr := adr) μ1 (m := 6) (x := aLn (qS α)) (a := p) (c := 0) (by decide) hCm₉.2.2.2.1 (by omega) (by omega) (by decide) hCm₉.2.2.2.2.1
        rw [Nat.add_zero] at hpt₉
        refine cl_X7_105 rfl (by decide) (k' := 0) (n' := 0) (hpt₉) ⟨⟨by decide, by decide⟩, ⟨rfl, rfl⟩, by decide, by decide⟩ rfl dX7_logLine_36 (fun μ9 h9₉ => ?_)
        rw [h9₉]; clear h9₉
        refine J.if_neN (tgt := 47) dX7_logLine_39 (by decide) (by omega) (fun c39₉ => ?_) (fun c39₉ => ?_)
        · refine J.bipush dX7_logLine_47 kb_99 ?_
          refine cl_X7_257 rfl (by decide) (k' := 0) (n' := 0) (c_addSignT _ (by decide) hT1₉ (by omega) (by decide)) ⟨⟨by decide, by decide⟩, ⟨rfl, rfl⟩, by decide, by decide⟩ rfl dX7_logLine_49 (fun μ3 ⟨hT3₉, hO3₉⟩ => ?_)
          have hCm3₉ : CS μ3 1 (qS α) := hCm₉.off (fun o q1₉ q2₉ => hO3₉ o (by omega) (by omega))
          refine J.al0 dX7_logLine_52 ?_
          refine gf_X7_40 rfl (o2 := 231) (by decide) rfl dX7_logLine_53 ?_
          refine J.al0 dX7_logLine_56 ?_
          refine gf_X7_10 rfl (o2 := 1) (by decide) rfl dX7_logLine_57 ?_
          refine gf_X7_93 rfl (o2 := 6) (by decide) rfl dX7_logLine_60 ?_
          refine J.il1 dX7_logLine_63 ?_
          refine J.iconst dX7_logLine_64 kI_1 ?_
          have hpt₉ := c_part (g := g) (adr := adr) μ3 (m := 6) (x := aLn (qS α)) (a := p) (c := 1) (by decide) hCm3₉.2.2.2.1 (by omega) (by omega) (by decide) hCm3₉.2.2.2.2.1
          refine cl_X7_105 rfl (by decide) (k' := 0) (n' := 0) (hpt₉) ⟨⟨by decide, by decide⟩, ⟨rfl, rfl⟩, by decide, by decide⟩ rfl dX7_logLine_65 (fun μ9 h9₉ => ?_)
          rw [h9₉]; clear h9₉
          refine cl_X7_253 rfl (by decide) (k' := 0) (n' := 0) (c_addNumber1 _ (by decide) hT3₉ (show (tLog (aLg (qS α)) p).1 + 1 < 120 by omega) (by omega)) ⟨⟨by decide, by decide⟩, ⟨rfl, rfl⟩, by decide, by decide⟩ rfl dX7_logLine_68 (fun μ4 ⟨hT4₉, hO4₉⟩ => ?_)
          have hCm4₉ : CS μ4 1 (qS α) := hCm3₉.off (fun o q1₉ q2₉ => hO4₉ o (by omega) (by omega))
          refine J.al0 dX7_logLine_71 ?_
          refine gf_X7_40 rfl (o2 := 231) (by decide) rfl dX7_logLine_72 ?_
          refine J.al0 dX7_logLine_75 ?_
          refine gf_X7_10 rfl (o2 := 1) (by decide) rfl dX7_logLine_76 ?_
          refine gf_X7_93 rfl (o2 := 6) (by decide) rfl dX7_logLine_79 ?_
          refine J.il1 dX7_logLine_82 ?_
          refine J.iconst dX7_logLine_83 kI_2 ?_
          have hpt₉ := c_part (g := g) (adr := adr) μ4 (m := 6) (x := aLn (qS α)) (a := p) (c := 2) (by decide) hCm4₉.2.2.2.1 (by omega) (by omega) (by decide) hCm4₉.2.2.2.2.1
          refine cl_X7_105 rfl (by decide) (k' := 0) (n' := 0) (hpt₉) ⟨⟨by decide, by decide⟩, ⟨rfl, rfl⟩, by decide, by decide⟩ rfl dX7_logLine_84 (fun μ9 h9₉ => ?_)
          rw [h9₉]; clear h9₉
          have hnw₉ : numW (aLg (qS α) (p * 3 + 1)) = 1 := if_pos (by omega)
          refine cl_X7_253 rfl (by decide) (k' := 0) (n' := 0) (c_addNumber1 _ (by decide) hT4₉ (show (tLog (aLg (qS α)) p).1 + 1 + numW (aLg (qS α) (p * 3 + 1)) < 120 by omega) (by omega)) ⟨⟨by decide, by decide⟩, ⟨rfl, rfl⟩, by decide, by decide⟩ rfl dX7_logLine_87 (fun μ5 ⟨hT5₉, hO5₉⟩ => ?_)
          refine J.ii1 (z := 1) dX7_logLine_90 (by decide) (by decide) rfl ?_
          refine J.goto (tgt := 9) dX7_logLine_93 (by decide) ?_
          have hT6₉ : TxR μ5 231 (tLog (aLg (qS α)) (p + 1)) := by
            show TxR μ5 231 (tN _ (tN _ (tP (if aLg (qS α) (p * 3) = 0 then 114 else 99) _)))
            first | (rw [if_pos (by omega)]; exact hT5₉) | (rw [if_neg (by omega)]; exact hT5₉)
          exact ih9 (p + 1) _ (by omega) (by omega) hT6₉ (fun o q1₉ q2₉ => (hO5₉ o q1₉ q2₉).trans ((hO4₉ o q1₉ q2₉).trans ((hO3₉ o q1₉ q2₉).trans (hO₉ o q1₉ q2₉))))
        · refine J.bipush dX7_logLine_42 kb_114 ?_
          refine J.goto (tgt := 49) dX7_logLine_44 (by decide) ?_
          refine cl_X7_257 rfl (by decide) (k' := 0) (n' := 0) (c_addSignT _ (by decide) hT1₉ (by omega) (by decide)) ⟨⟨by decide, by decide⟩, ⟨rfl, rfl⟩, by decide, by decide⟩ rfl dX7_logLine_49 (fun μ3 ⟨hT3₉, hO3₉⟩ => ?_)
          have hCm3₉ : CS μ3 1 (qS α) := hCm₉.off (fun o q1₉ q2₉ => hO3₉ o (by omega) (by omega))
          refine J.al0 dX7_logLine_52 ?_
          refine gf_X7_40 rfl (o2 := 231) (by decide) rfl dX7_logLine_53 ?_
          refine J.al0 dX7_logLine_56 ?_
          refine gf_X7_10 rfl (o2 := 1) (by decide) rfl dX7_logLine_57 ?_
          refine gf_X7_93 rfl (o2 := 6) (by decide) rfl dX7_logLine_60 ?_
          refine J.il1 dX7_logLine_63 ?_
          refine J.iconst dX7_logLine_64 kI_1 ?_
          have hpt₉ := c_part (g := g) (adr := adr) μ3 (m := 6) (x := aLn (qS α)) (a := p) (c := 1) (by decide) hCm3₉.2.2.2.1 (by omega) (by omega) (by decide) hCm3₉.2.2.2.2.1
          refine cl_X7_105 rfl (by decide) (k' := 0) (n' := 0) (hpt₉) ⟨⟨by decide, by decide⟩, ⟨rfl, rfl⟩, by decide, by decide⟩ rfl dX7_logLine_65 (fun μ9 h9₉ => ?_)
          rw [h9₉]; clear h9₉
          refine cl_X7_253 rfl (by decide) (k' := 0) (n' := 0) (c_addNumber1 _ (by decide) hT3₉ (show (tLog (aLg (qS α)) p).1 + 1 < 120 by omega) (by omega)) ⟨⟨by decide, by decide⟩, ⟨rfl, rfl⟩, by decide, by decide⟩ rfl dX7_logLine_68 (fun μ4 ⟨hT4₉, hO4₉⟩ => ?_)
          have hCm4₉ : CS μ4 1 (qS α) := hCm3₉.off (fun o q1₉ q2₉ => hO4₉ o (by omega) (by omega))
          refine J.al0 dX7_logLine_71 ?_
          refine gf_X7_40 rfl (o2 := 231) (by decide) rfl dX7_logLine_72 ?_
          refine J.al0 dX7_logLine_75 ?_
          refine gf_X7_10 rfl (o2 := 1) (by decide) rfl dX7_logLine_76 ?_
          refine gf_X7_93 rfl (o2 := 6) (by decide) rfl dX7_logLine_79 ?_
          refine J.il1 dX7_logLine_82 ?_
          refine J.iconst dX7_logLine_83 kI_2 ?_
          have hpt₉ := c_part (g := g) (adr := adr) μ4 (m := 6) (x := aLn (qS α)) (a := p) (c := 2) (by decide) hCm4₉.2.2.2.1 (by omega) (by omega) (by decide) hCm4₉.2.2.2.2.1
          refine cl_X7_105 rfl (by decide) (k' := 0) (n' := 0) (hpt₉) ⟨⟨by decide, by decide⟩, ⟨rfl, rfl⟩, by decide, by decide⟩ rfl dX7_logLine_84 (fun μ9 h9₉ => ?_)
          rw [h9₉]; clear h9₉
          have hnw₉ : numW (aLg (qS α) (p * 3 + 1)) = 1 := if_pos (by omega)
          refine cl_X7_253 rfl (by decide) (k' := 0) (n' := 0) (c_addNumber1 _ (by decide) hT4₉ (show (tLog (aLg (qS α)) p).1 + 1 + numW (aLg (qS α) (p * 3 + 1)) < 120 by omega) (by omega)) ⟨⟨by decide, by decide⟩, ⟨rfl, rfl⟩, by decide, by decide⟩ rfl dX7_logLine_87 (fun μ5 ⟨hT5₉, hO5₉⟩ => ?_)
          refine J.ii1 (z := 1) dX7_logLine_90 (by decide) (by decide) rfl ?_
          refine J.goto (tgt := 9) dX7_logLine_93 (by decide) ?_
          have hT6₉ : TxR μ5 231 (tLog (aLg (qS α)) (p + 1)) := by
            show TxR μ5 231 (tN _ (tN _ (tP (if aLg (qS α) (p * 3) = 0 then 114 else 99) _)))
            first | (rw [if_pos (by omega)]; exact hT5₉) | (rw [if_neg (by omega)]; exact hT5₉)
          exact ih9 (p + 1) _ (by omega) (by omega) hT6₉ (fun o q1₉ q2₉ => (hO5₉ o q1₉ q2₉).trans ((hO4₉ o q1₉ q2₉).trans ((hO3₉ o q1₉ q2₉).trans (hO₉ o q1₉ q2₉))))
  exact lp9_1 (41) 0 _ (by omega) (by omega) hT2₉ hO2₉

set_option maxRecDepth 100000 in
set_option maxHeartbeats 4000000 in
theorem c_cycleLineX0 {g : GP} {adr : Nat → Nat} (μ : Mem) {α : A7} (hCR₉ : CR μ α) {i : Int32} (hx₉ : ¬ (0 ≤ i ∧ i < nI 5)) : CT g yX7_cycleLine mX7_cycleLine (RM 20 1 6) (WM g adr μ) [.ref (adr 0), .int i] (PM g adr (.inr "java/lang/IndexOutOfBoundsException") (fun μ' => CR μ' α ∧ FrC μ' μ)) := by
  refine CT.of (l0 := [some (.ref (adr 0)), some (.int i), none, none]) (by decide +kernel) rfl (Nat.le_of_ble_eq_true rfl) rfl ?_
  refine J.il1 dX7_cycleLine_0 ?_
  refine cx_X7_176 rfl (k' := 1) (n' := 6) (c_needShelfX _ hx₉) ⟨⟨by decide, by decide⟩, ⟨rfl, rfl⟩, by decide, by decide⟩ rfl dX7_cycleLine_1 (fun μ9 h9₉ => ?_)
  exact JX.out ⟨_, rfl, rfl, (by rw [h9₉]; exact ⟨hCR₉, FrC.rf⟩)⟩ rfl rfl (by decide) (by decide)

set_option maxRecDepth 100000 in
set_option maxHeartbeats 4000000 in
theorem c_cycleLineX1 {g : GP} {adr : Nat → Nat} (μ : Mem) {α : A7} (hCR₉ : CR μ α) {i : Nat} (hi1₉ : i < 5) (hx₉ : ¬ aFl (qS α) i = true) : CT g yX7_cycleLine mX7_cycleLine (RM 20 1 6) (WM g adr μ) [.ref (adr 0), .int (nI i)] (PM g adr (.inr "java/util/NoSuchElementException") (fun μ' => CR μ' α ∧ FrC μ' μ)) := by
  refine CT.of (l0 := [some (.ref (adr 0)), some (.int (nI i)), none, none]) (by decide +kernel) rfl (Nat.le_of_ble_eq_true rfl) rfl ?_
  refine J.il1 dX7_cycleLine_0 ?_
  refine cl_X7_176 rfl (k' := 0) (n' := 0) (c_needShelfOk _ (by omega)) ⟨⟨by decide, by decide⟩, ⟨rfl, rfl⟩, by decide, by decide⟩ rfl dX7_cycleLine_1 (fun μ9 h9₉ => ?_)
  rw [h9₉]; clear h9₉
  refine J.al0 dX7_cycleLine_4 ?_
  refine J.il1 dX7_cycleLine_5 ?_
  refine cx_X7_217 rfl (by decide) (k' := 1) (n' := 6) (c_needLearntX _ (by omega) hCR₉.1 hx₉) ⟨⟨by decide, by decide⟩, ⟨rfl, rfl⟩, by decide, by decide⟩ rfl dX7_cycleLine_6 (fun μ9 h9₉ => ?_)
  exact JX.out ⟨_, rfl, rfl, (by rw [h9₉]; exact ⟨hCR₉, FrC.rf⟩)⟩ rfl rfl (by decide) (by decide)

set_option maxRecDepth 100000 in
set_option maxHeartbeats 4000000 in
theorem c_cycleLine {g : GP} {adr : Nat → Nat} (μ : Mem) {α : A7} (hCR₉ : CR μ α) {i : Nat} (hi1₉ : i < 5) (hfi₉ : aFl (qS α) i = true)  : CT g yX7_cycleLine mX7_cycleLine (RM 20 1 6) (WM g adr μ) [.ref (adr 0), .int (nI i)] (PM g adr ((.inl (some (.int (nI (tCL (aSh (qS α) i) 32).1))))) (fun μ' => CR μ' (aLin (tCL (aSh (qS α) i) 32) α) ∧ FrC μ' μ)) := by
  refine CT.of (l0 := [some (.ref (adr 0)), some (.int (nI i)), none, none]) (by decide +kernel) rfl (Nat.le_of_ble_eq_true rfl) rfl ?_
  have hBS₉ : Bij (aSh (qS α) i) := hCR₉.1.sh i hi1₉ hfi₉
  refine J.il1 dX7_cycleLine_0 ?_
  refine cl_X7_176 rfl (k' := 0) (n' := 0) (c_needShelfOk _ (by omega)) ⟨⟨by decide, by decide⟩, ⟨rfl, rfl⟩, by decide, by decide⟩ rfl dX7_cycleLine_1 (fun μ9 h9₉ => ?_)
  rw [h9₉]; clear h9₉
  refine J.al0 dX7_cycleLine_4 ?_
  refine J.il1 dX7_cycleLine_5 ?_
  refine cl_X7_217 rfl (by decide) (k' := 0) (n' := 0) (c_needLearntOk _ (by omega) hCR₉.1 hfi₉) ⟨⟨by decide, by decide⟩, ⟨rfl, rfl⟩, by decide, by decide⟩ rfl dX7_cycleLine_6 (fun μ9 h9₉ => ?_)
  rw [h9₉]; clear h9₉
  refine J.al0 dX7_cycleLine_9 ?_
  refine gf_X7_10 rfl (o2 := 1) (by decide) rfl dX7_cycleLine_10 ?_
  refine J.il1 dX7_cycleLine_13 ?_
  have hosi := c_onShelf (g := g) (adr := adr) (μ) (t := 1) (i := i) (by decide) (by omega)
  refine cl_X7_182 rfl (by decide) (k' := 0) (n' := 0) (hosi) ⟨⟨by decide, by decide⟩, ⟨rfl, rfl⟩, by decide, by decide⟩ rfl dX7_cycleLine_14 (fun μ9 h9₉ => ?_)
  rw [h9₉]; clear h9₉
  refine J.as2 dX7_cycleLine_17 (by decide) rfl ?_
  refine J.al0 dX7_cycleLine_18 ?_
  refine gf_X7_40 rfl (o2 := 231) (by decide) rfl dX7_cycleLine_19 ?_
  refine cl_X7_155 rfl (by decide) (k' := 0) (n' := 0) (c_s_clear _ (by decide)) ⟨⟨by decide, by decide⟩, ⟨rfl, rfl⟩, by decide, by decide⟩ rfl dX7_cycleLine_22 (fun μ2 h2₉ => ?_)
  have hO2₉ : ∀ o, o ≠ 231 → o ≠ 232 → μ2 o = μ o := fun o q1₉ q2₉ => by rw [h2₉, wr_o q1₉]
  have hT2₉ : TxR μ2 231 t0 := by rw [h2₉]; exact SgT.clr
  refine J.iconst dX7_cycleLine_25 kI_0 ?_
  refine J.is3 dX7_cycleLine_26 (by decide) rfl ?_
  have lp27_1 : ∀ (fu : Nat) (c : Nat) (μ1 : Mem), 32 < c + fu → c ≤ 32 → TxR μ1 231 (tCL (aSh (qS α) i) c) → (∀ o, o ≠ 231 → o ≠ 232 → μ1 o = μ o) → J g mX7_cycleLine (RM 20 1 6) (MQx g (RM 20 1 6) (PM g adr ((.inl (some (.int (nI (tCL (aSh (qS α) i) 32).1))))) (fun μ' => CR μ' (aLin (tCL (aSh (qS α) i) 32) α) ∧ FrC μ' μ))) 0 0 (WM g adr μ1) 27 [some (.ref (adr 0)), some (.int (nI i)), some (.ref (adr (1 + 9 + 2 * i))), some (.int (nI c))] [] := by
    intro fu
    induction fu with
    | zero => intro c μ1 h9₉ hc₉ hT1₉ hO₉; exact absurd h9₉ (by omega)
    | succ fu ih27 =>
      intro c μ1 h9₉ hc₉ hT1₉ hO₉
      have hCm₉ : CS μ1 1 (qS α) := hCR₉.1.off (fun o q1₉ q2₉ => hO₉ o (by omega) (by omega))
      have hPm₉ : PermR μ1 (1 + 9 + 2 * i + 1) (aSh (qS α) i) := fl_P hCm₉ hi1₉ hfi₉
      refine J.il3 dX7_cycleLine_27 ?_
      refine J.bipush dX7_cycleLine_28 kb_32 ?_
      refine J.icmp_geN (tgt := 65) dX7_cycleLine_30 (by decide) (by omega) (by omega) (fun c30₉ => ?_) (fun c30₉ => ?_)
      · refine J.al0 dX7_cycleLine_65 ?_
        refine gf_X7_40 rfl (o2 := 231) (by decide) rfl dX7_cycleLine_66 ?_
        obtain rfl : c = 32 := by omega
        refine cl_X7_256 rfl (by decide) (k' := 0) (n' := 0) (c_s_size _ (by decide) hT1₉.1) ⟨⟨by decide, by decide⟩, ⟨rfl, rfl⟩, by decide, by decide⟩ rfl dX7_cycleLine_69 (fun μ9 h9₉ => ?_)
        rw [h9₉]; clear h9₉
        refine J.iret rfl (by decide) (by decide) dX7_cycleLine_72 ⟨_, rfl, ?_, ?_⟩
        · rfl
        · exact ⟨hCR₉.lin hT1₉ (by have := tCL_112 hBS₉ (n := 32) (by omega); omega) (fun o ho₉ => hO₉ o (by omega) (by omega)), fun o ho₉ => hO₉ o (by omega) (by omega)⟩
      · refine J.al2 dX7_cycleLine_33 ?_
        refine J.il3 dX7_cycleLine_34 ?_
        have hlt9₉ := hBS₉.1 c (by omega)
        refine cl_X7_220 rfl ((kt_st (b := 1) (by decide)).2.2.2.2 i (by omega)) (k' := 0) (n' := 0) (c_of _ (kt_sh hi1₉) hPm₉ (by omega)) ⟨⟨by decide, by decide⟩, ⟨rfl, rfl⟩, by decide, by decide⟩ rfl dX7_cycleLine_35 (fun μ9 h9₉ => ?_)
        rw [h9₉]; clear h9₉
        refine J.il3 dX7_cycleLine_38 ?_
        refine J.icmp_eqN (tgt := 59) dX7_cycleLine_39 (by decide) (by omega) (by omega) (fun c39₉ => ?_) (fun c39₉ => ?_)
        · refine J.ii3 (z := 1) dX7_cycleLine_59 (by decide) (by decide) rfl ?_
          refine J.goto (tgt := 27) dX7_cycleLine_62 (by decide) ?_
          exact ih27 (c + 1) _ (by omega) (by omega) (by show TxR _ 231 (if aSh (qS α) i c ≠ c ∧ lowB (aSh (qS α) i) c = true then _ else _); rw [if_neg (fun q => by first | exact q.1 c39₉ | exact c47₉ q.2)]; exact hT1₉) hO₉
        · refine J.al2 dX7_cycleLine_42 ?_
          refine J.il3 dX7_cycleLine_43 ?_
          refine cl_X7_261 rfl ((kt_st (b := 1) (by decide)).2.2.2.2 i (by omega)) (k' := 0) (n' := 0) (c_isLowestOfCycle _ (kt_sh hi1₉) hPm₉ (by omega)) ⟨⟨by decide, by decide⟩, ⟨rfl, rfl⟩, by decide, by decide⟩ rfl dX7_cycleLine_44 (fun μ9 h9₉ => ?_)
          rw [h9₉]; clear h9₉
          refine J.if_eqB (tgt := 59) dX7_cycleLine_47 (by decide) (fun c47₉ => ?_) (fun c47₉ => ?_)
          · refine J.ii3 (z := 1) dX7_cycleLine_59 (by decide) (by decide) rfl ?_
            refine J.goto (tgt := 27) dX7_cycleLine_62 (by decide) ?_
            exact ih27 (c + 1) _ (by omega) (by omega) (by show TxR _ 231 (if aSh (qS α) i c ≠ c ∧ lowB (aSh (qS α) i) c = true then _ else _); rw [if_neg (fun q => by first | exact q.1 c39₉ | exact c47₉ q.2)]; exact hT1₉) hO₉
          · refine J.al0 dX7_cycleLine_50 ?_
            refine gf_X7_40 rfl (o2 := 231) (by decide) rfl dX7_cycleLine_51 ?_
            refine J.al2 dX7_cycleLine_54 ?_
            refine J.il3 dX7_cycleLine_55 ?_
            have hro₉ := tCL_room hBS₉ (n := c) (by omega) ⟨c39₉, c47₉⟩
            refine cl_X7_264 rfl (by decide) (k' := 0) (n' := 0) (c_addCycle _ (by decide) (kt_sh hi1₉) hT1₉ hPm₉ hBS₉ (by omega) (by omega) (by omega) (by omega)) ⟨⟨by decide, by decide⟩, ⟨rfl, rfl⟩, by decide, by decide⟩ rfl dX7_cycleLine_56 (fun μ3 ⟨hT3₉, hO3₉⟩ => ?_)
            refine J.ii3 (z := 1) dX7_cycleLine_59 (by decide) (by decide) rfl ?_
            refine J.goto (tgt := 27) dX7_cycleLine_62 (by decide) ?_
            exact ih27 (c + 1) _ (by omega) (by omega) (by show TxR _ 231 (if aSh (qS α) i c ≠ c ∧ lowB (aSh (qS α) i) c = true then _ else _); rw [if_pos ⟨c39₉, c47₉⟩]; exact hT3₉) (fun o q1₉ q2₉ => (hO3₉ o q1₉ q2₉).trans (hO₉ o q1₉ q2₉))
  exact lp27_1 (33) 0 _ (by omega) (by omega) hT2₉ hO2₉

set_option maxRecDepth 100000 in
set_option maxHeartbeats 4000000 in
theorem c_characterX0 {g : GP} {adr : Nat → Nat} (μ : Mem) {α : A7} (hCR₉ : CR μ α) {i : Int32} (hx₉ : ¬ (0 ≤ i ∧ i < nI ((qL α).1))) : CT g yX7_character mX7_character (RM 20 1 6) (WM g adr μ) [.ref (adr 0), .int i] (PM g adr (.inr "java/lang/IndexOutOfBoundsException") (fun μ' => CR μ' α ∧ FrC μ' μ)) := by
  refine CT.of (l0 := [some (.ref (adr 0)), some (.int i)]) (by decide +kernel) rfl (Nat.le_of_ble_eq_true rfl) rfl ?_
  have hll₉ := hCR₉.2.2.2.2.2.2.2.1
  refine J.il1 dX7_character_0 ?_
  refine J.al0 dX7_character_1 ?_
  refine gf_X7_40 rfl (o2 := 231) (by decide) rfl dX7_character_2 ?_
  refine cl_X7_256 rfl (by decide) (k' := 0) (n' := 0) (c_s_size _ (by decide) hCR₉.2.2.2.2.2.2.1.1) ⟨⟨by decide, by decide⟩, ⟨rfl, rfl⟩, by decide, by decide⟩ rfl dX7_character_5 (fun μ9 h9₉ => ?_)
  rw [h9₉]; clear h9₉
  refine cx_X7_89 rfl (k' := 1) (n' := 6) (c_needIndexX _ hx₉ (by omega)) ⟨⟨by decide, by decide⟩, ⟨rfl, rfl⟩, by decide, by decide⟩ rfl dX7_character_8 (fun μ9 h9₉ => ?_)
  exact JX.out ⟨_, rfl, rfl, (by rw [h9₉]; exact ⟨hCR₉, FrC.rf⟩)⟩ rfl rfl (by decide) (by decide)
