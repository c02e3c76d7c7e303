/-! ===== printed: the model: what is asked ===== -/
set_option maxRecDepth 100000 in
set_option maxHeartbeats 4000000 in
theorem c_m_shelfOf3 {g : GP} {adr : Nat → Nat} (μ : Mem) {α : A7} (hMR₉ : MR μ α) {i : Nat} (hi1₉ : i < 5) (hfi₉ : aFl (qS α) i = true)  : CT g yX8_shelfOf mX8_shelfOf (RM 60 0 0) (WM g adr μ) [.ref (adr 237), .int (nI i), .int (nI 3)] (PM g adr ((.inl (some (.int (nI (ordL (aSh (qS α) i) 32)))))) (fun μ' => MR μ' (α) ∧ μ' 237 6 = nI 0 ∧ FrM μ' μ)) := by
  refine CT.of (l0 := [some (.ref (adr 237)), some (.int (nI i)), some (.int (nI 3)), none, none, none, none, none]) (by decide +kernel) rfl (Nat.le_of_ble_eq_true rfl) rfl ?_
  have hBF₉ := (hMR₉.1.vs.2.2.2.2 i hi1₉ hfi₉)
  refine J.al0 dX8_shelfOf_0 ?_
  refine J.il1 dX8_shelfOf_1 ?_
  refine cl_X8_171 rfl (k' := 0) (n' := 0) (c_m_isShelfT _ (by omega)) ⟨⟨by decide, by decide⟩, ⟨rfl, rfl⟩, by decide, by decide⟩ rfl dX8_shelfOf_2 (fun μ9 h9₉ => ?_)
  rw [h9₉]; clear h9₉
  refine J.if_neN (tgt := 12) dX8_shelfOf_5 (by decide) (by omega) (fun c5₉ => ?_) (fun c5₉ => absurd c5₉ (by first | omega | (simp only [not_true_eq_false, not_false_eq_true]; done) | (simp; done)))
  refine J.il2 dX8_shelfOf_12 ?_
  refine J.iconst dX8_shelfOf_13 kI_0 ?_
  refine J.iconst dX8_shelfOf_14 kI_3 ?_
  refine cl_X8_93 rfl (k' := 0) (n' := 0) (inT _ (by decide) (by decide) (by decide)) ⟨⟨by decide, by decide⟩, ⟨rfl, rfl⟩, by decide, by decide⟩ rfl dX8_shelfOf_15 (fun μ9 h9₉ => ?_)
  rw [h9₉]; clear h9₉
  refine J.if_neN (tgt := 25) dX8_shelfOf_18 (by decide) (by omega) (fun c18₉ => ?_) (fun c18₉ => absurd c18₉ (by first | omega | (simp only [not_true_eq_false, not_false_eq_true]; done) | (simp; done)))
  refine J.al0 dX8_shelfOf_25 ?_
  refine J.il1 dX8_shelfOf_26 ?_
  refine cl_X8_177 rfl (by decide) (k' := 0) (n' := 0) (c_m_isEmptyF _ hMR₉.1 (by omega) hfi₉) ⟨⟨by decide, by decide⟩, ⟨rfl, rfl⟩, by decide, by decide⟩ rfl dX8_shelfOf_27 (fun μ9 h9₉ => ?_)
  rw [h9₉]; clear h9₉
  refine J.if_eqN (tgt := 37) dX8_shelfOf_30 (by decide) (by omega) (fun c30₉ => ?_) (fun c30₉ => absurd c30₉ (by first | omega | (simp only [not_true_eq_false, not_false_eq_true]; done) | (simp; done)))
  refine J.iconst dX8_shelfOf_37 kI_0 ?_
  refine pf_X8_42 rfl (by decide) dX8_shelfOf_38 ?_
  refine J.al0 dX8_shelfOf_41 ?_
  refine gf_X8_42 rfl (x := nI 0) (by decide) wr_s dX8_shelfOf_42 ?_
  refine J.if_leN (tgt := 50) dX8_shelfOf_45 (by decide) (by omega) (fun c45₉ => ?_) (fun c45₉ => absurd c45₉ (by first | omega | (simp only [not_true_eq_false, not_false_eq_true]; done) | (simp; done)))
  refine J.iconst dX8_shelfOf_50 kI_0 ?_
  refine J.is3 dX8_shelfOf_51 (by decide) rfl ?_
  refine J.iconst dX8_shelfOf_52 kI_0 ?_
  refine J.is4 dX8_shelfOf_53 (by decide) rfl ?_
  refine J.iconst dX8_shelfOf_55 kI_0 ?_
  refine J.is5 dX8_shelfOf_56 (by decide) rfl ?_
  refine J.iconst dX8_shelfOf_58 kI_0 ?_
  refine J.is6 dX8_shelfOf_59 (by decide) rfl ?_
  have lp61_1 : ∀ (fu : Nat) (c a b d : Nat), 32 < c + fu → c ≤ 32 → a = cnt (fun k => decide (1 < cyL (aSh (qS α) i) k)) c → b = cnt (fun k => decide (1 < cyL (aSh (qS α) i) k) && lowB (aSh (qS α) i) k) c → d = mx0 (cyL (aSh (qS α) i)) c → d ≤ 32 → J g mX8_shelfOf (RM 60 0 0) (MQx g (RM 60 0 0) (PM g adr ((.inl (some (.int (nI (ordL (aSh (qS α) i) 32)))))) (fun μ' => MR μ' (α) ∧ μ' 237 6 = nI 0 ∧ FrM μ' μ))) 0 0 (WM g adr (wr μ 237 6 (nI 0))) 61 [some (.ref (adr 237)), some (.int (nI i)), some (.int (nI 3)), some (.int (nI a)), some (.int (nI b)), some (.int (nI d)), some (.int (nI c)), none] [] := by
    intro fu
    induction fu with
    | zero => intro c a b d h9₉ hc₉ h1c h2c h3c hd₉; exact absurd h9₉ (by omega)
    | succ fu ih61 =>
      intro c a b d h9₉ hc₉ h1c h2c h3c hd₉
      refine J.il6 dX8_shelfOf_61 ?_
      refine J.bipush dX8_shelfOf_63 kb_32 ?_
      refine J.icmp_geN (tgt := 132) dX8_shelfOf_65 (by decide) (by omega) (by omega) (fun c65₉ => ?_) (fun c65₉ => ?_)
      · refine J.il2 dX8_shelfOf_132 ?_
        refine J.if_neN (tgt := 140) dX8_shelfOf_133 (by decide) (by omega) (fun c133₉ => ?_) (fun c133₉ => absurd c133₉ (by first | omega | (simp only [not_true_eq_false, not_false_eq_true]; done) | (simp; done)))
        refine J.il2 dX8_shelfOf_140 ?_
        refine J.iconst dX8_shelfOf_141 kI_1 ?_
        refine J.icmp_neN (tgt := 150) dX8_shelfOf_142 (by decide) (by omega) (by omega) (fun c142₉ => ?_) (fun c142₉ => absurd c142₉ (by first | omega | (simp only [not_true_eq_false, not_false_eq_true]; done) | (simp; done)))
        refine J.il2 dX8_shelfOf_150 ?_
        refine J.iconst dX8_shelfOf_151 kI_2 ?_
        refine J.icmp_neN (tgt := 160) dX8_shelfOf_152 (by decide) (by omega) (by omega) (fun c152₉ => ?_) (fun c152₉ => absurd c152₉ (by first | omega | (simp only [not_true_eq_false, not_false_eq_true]; done) | (simp; done)))
        refine J.al0 dX8_shelfOf_160 ?_
        refine J.il1 dX8_shelfOf_161 ?_
        refine cl_X8_201 rfl (by decide) (k' := 0) (n' := 0) (c_m_order _ hi1₉ (MS.shr (MS.off hMR₉.1 (by simp only [wr_o (show (238 : Nat) ≠ 237 by decide)])) hi1₉ hfi₉) (hMR₉.1.vs.2.2.2.2 i hi1₉ hfi₉)) ⟨⟨by decide, by decide⟩, ⟨rfl, rfl⟩, by decide, by decide⟩ rfl dX8_shelfOf_162 (fun μ9 h9₉ => ?_)
        rw [h9₉]; clear h9₉
        refine J.iret rfl (by decide) (by decide) dX8_shelfOf_165 ⟨_, rfl, ?_, ?_⟩
        · rfl
        · exact ⟨hMR₉.thr, wr_s, FrM.thr⟩
      · refine J.al0 dX8_shelfOf_68 ?_
        refine J.il1 dX8_shelfOf_69 ?_
        refine J.il6 dX8_shelfOf_70 ?_
        have hcy72₉ := cyL_le (aSh (qS α) i) c
        refine cl_X8_189 rfl (by decide) (k' := 0) (n' := 0) (c_m_cycleOf _ hi1₉ (MS.shr (MS.off hMR₉.1 (by simp only [wr_o (show (238 : Nat) ≠ 237 by decide)])) hi1₉ hfi₉) (hMR₉.1.vs.2.2.2.2 i hi1₉ hfi₉) (by omega)) ⟨⟨by decide, by decide⟩, ⟨rfl, rfl⟩, by decide, by decide⟩ rfl dX8_shelfOf_72 (fun μ9 h9₉ => ?_)
        rw [h9₉]; clear h9₉
        refine J.is7 dX8_shelfOf_75 (by decide) rfl ?_
        refine J.il3 dX8_shelfOf_77 ?_
        refine J.il7 dX8_shelfOf_78 ?_
        refine J.iconst dX8_shelfOf_80 kI_1 ?_
        refine J.icmp_leN (tgt := 88) dX8_shelfOf_81 (by decide) (by omega) (by omega) (fun c81₉ => ?_) (fun c81₉ => ?_)
        · refine J.iconst dX8_shelfOf_88 kI_0 ?_
          refine J.iaddN dX8_shelfOf_89 ?_
          refine J.is3 dX8_shelfOf_90 (by decide) rfl ?_
          refine J.il4 dX8_shelfOf_91 ?_
          refine J.il7 dX8_shelfOf_93 ?_
          refine J.iconst dX8_shelfOf_95 kI_1 ?_
          refine J.icmp_leN (tgt := 113) dX8_shelfOf_96 (by decide) (by omega) (by omega) (fun c96₉ => ?_) (fun c96₉ => ?_)
          · refine J.iconst dX8_shelfOf_113 kI_0 ?_
            refine J.iaddN dX8_shelfOf_114 ?_
            refine J.is4 dX8_shelfOf_115 (by decide) rfl ?_
            refine J.il5 dX8_shelfOf_117 ?_
            refine J.il7 dX8_shelfOf_119 ?_
            refine J.maxN t_1277 t_798 t_18 t_maxcode (by omega) (by omega) (by decide) (Nat.le_of_ble_eq_true rfl) (by decide) (by decide) dX8_shelfOf_121 ?_
            refine J.is5 dX8_shelfOf_124 (by decide) rfl ?_
            refine J.ii6 (z := 1) dX8_shelfOf_126 (by decide) (by decide) rfl ?_
            refine J.goto (tgt := 61) dX8_shelfOf_129 (by decide) ?_
            exact J.subR (ih61 (c + 1) (a + 0) (b + 0) (max d (cyL (aSh (qS α) i) c)) (by omega) (by omega) (by rw [cnt_1, h1c]; first | omega | rw [if_pos (decide_eq_true (by omega))] | rw [if_neg (by rw [decide_eq_false (by omega)]; decide)]) (by rw [cnt_1, h2c]; first | omega | rw [if_pos (by rw [decide_eq_true (by omega), c106₉]; rfl)] | rw [if_neg (by rw [decide_eq_false (show ¬ 1 < cyL (aSh (qS α) i) c by omega)]; simp)] | rw [if_neg (by simp only [Bool.and_eq_true]; exact fun q => c106₉ q.2)]) (by rw [h3c]; rfl) (by omega)) ⟨rfl, ⟨rfl, ⟨rfl, ⟨rfl, ⟨rfl, ⟨rfl, ⟨rfl, trivial⟩⟩⟩⟩⟩⟩⟩
          · refine J.al0 dX8_shelfOf_99 ?_
            refine J.il1 dX8_shelfOf_100 ?_
            refine J.il6 dX8_shelfOf_101 ?_
            refine cl_X8_192 rfl (by decide) (k' := 0) (n' := 0) (c_m_isLowest _ hi1₉ (MS.shr (MS.off hMR₉.1 (by simp only [wr_o (show (238 : Nat) ≠ 237 by decide)])) hi1₉ hfi₉) (hMR₉.1.vs.2.2.2.2 i hi1₉ hfi₉) (by omega)) ⟨⟨by decide, by decide⟩, ⟨rfl, rfl⟩, by decide, by decide⟩ rfl dX8_shelfOf_103 (fun μ9 h9₉ => ?_)
            rw [h9₉]; clear h9₉
            refine J.if_eqB (tgt := 113) dX8_shelfOf_106 (by decide) (fun c106₉ => ?_) (fun c106₉ => ?_)
            · refine J.iconst dX8_shelfOf_113 kI_0 ?_
              refine J.iaddN dX8_shelfOf_114 ?_
              refine J.is4 dX8_shelfOf_115 (by decide) rfl ?_
              refine J.il5 dX8_shelfOf_117 ?_
              refine J.il7 dX8_shelfOf_119 ?_
              refine J.maxN t_1277 t_798 t_18 t_maxcode (by omega) (by omega) (by decide) (Nat.le_of_ble_eq_true rfl) (by decide) (by decide) dX8_shelfOf_121 ?_
              refine J.is5 dX8_shelfOf_124 (by decide) rfl ?_
              refine J.ii6 (z := 1) dX8_shelfOf_126 (by decide) (by decide) rfl ?_
              refine J.goto (tgt := 61) dX8_shelfOf_129 (by decide) ?_
              exact J.subR (ih61 (c + 1) (a + 0) (b + 0) (max d (cyL (aSh (qS α) i) c)) (by omega) (by omega) (by rw [cnt_1, h1c]; first | omega | rw [if_pos (decide_eq_true (by omega))] | rw [if_neg (by rw [decide_eq_false (by omega)]; decide)]) (by rw [cnt_1, h2c]; first | omega | rw [if_pos (by rw [decide_eq_true (by omega), c106₉]; rfl)] | rw [if_neg (by rw [decide_eq_false (show ¬ 1 < cyL (aSh (qS α) i) c by omega)]; simp)] | rw [if_neg (by simp only [Bool.and_eq_true]; exact fun q => c106₉ q.2)]) (by rw [h3c]; rfl) (by omega)) ⟨rfl, ⟨rfl, ⟨rfl, ⟨rfl, ⟨rfl, ⟨rfl, ⟨rfl, trivial⟩⟩⟩⟩⟩⟩⟩
            · refine J.iconst dX8_shelfOf_109 kI_1 ?_
              refine J.goto (tgt := 114) dX8_shelfOf_110 (by decide) ?_
              refine J.iaddN dX8_shelfOf_114 ?_
              refine J.is4 dX8_shelfOf_115 (by decide) rfl ?_
              refine J.il5 dX8_shelfOf_117 ?_
              refine J.il7 dX8_shelfOf_119 ?_
              refine J.maxN t_1277 t_798 t_18 t_maxcode (by omega) (by omega) (by decide) (Nat.le_of_ble_eq_true rfl) (by decide) (by decide) dX8_shelfOf_121 ?_
              refine J.is5 dX8_shelfOf_124 (by decide) rfl ?_
              refine J.ii6 (z := 1) dX8_shelfOf_126 (by decide) (by decide) rfl ?_
              refine J.goto (tgt := 61) dX8_shelfOf_129 (by decide) ?_
              exact J.subR (ih61 (c + 1) (a + 0) (b + 1) (max d (cyL (aSh (qS α) i) c)) (by omega) (by omega) (by rw [cnt_1, h1c]; first | omega | rw [if_pos (decide_eq_true (by omega))] | rw [if_neg (by rw [decide_eq_false (by omega)]; decide)]) (by rw [cnt_1, h2c]; first | omega | rw [if_pos (by rw [decide_eq_true (by omega), c106₉]; rfl)] | rw [if_neg (by rw [decide_eq_false (show ¬ 1 < cyL (aSh (qS α) i) c by omega)]; simp)] | rw [if_neg (by simp only [Bool.and_eq_true]; exact fun q => c106₉ q.2)]) (by rw [h3c]; rfl) (by omega)) ⟨rfl, ⟨rfl, ⟨rfl, ⟨rfl, ⟨rfl, ⟨rfl, ⟨rfl, trivial⟩⟩⟩⟩⟩⟩⟩
        · refine J.iconst dX8_shelfOf_84 kI_1 ?_
          refine J.goto (tgt := 89) dX8_shelfOf_85 (by decide) ?_
          refine J.iaddN dX8_shelfOf_89 ?_
          refine J.is3 dX8_shelfOf_90 (by decide) rfl ?_
          refine J.il4 dX8_shelfOf_91 ?_
          refine J.il7 dX8_shelfOf_93 ?_
          refine J.iconst dX8_shelfOf_95 kI_1 ?_
          refine J.icmp_leN (tgt := 113) dX8_shelfOf_96 (by decide) (by omega) (by omega) (fun c96₉ => ?_) (fun c96₉ => ?_)
          · refine J.iconst dX8_shelfOf_113 kI_0 ?_
            refine J.iaddN dX8_shelfOf_114 ?_
            refine J.is4 dX8_shelfOf_115 (by decide) rfl ?_
            refine J.il5 dX8_shelfOf_117 ?_
            refine J.il7 dX8_shelfOf_119 ?_
            refine J.maxN t_1277 t_798 t_18 t_maxcode (by omega) (by omega) (by decide) (Nat.le_of_ble_eq_true rfl) (by decide) (by decide) dX8_shelfOf_121 ?_
            refine J.is5 dX8_shelfOf_124 (by decide) rfl ?_
            refine J.ii6 (z := 1) dX8_shelfOf_126 (by decide) (by decide) rfl ?_
            refine J.goto (tgt := 61) dX8_shelfOf_129 (by decide) ?_
            exact J.subR (ih61 (c + 1) (a + 1) (b + 0) (max d (cyL (aSh (qS α) i) c)) (by omega) (by omega) (by rw [cnt_1, h1c]; first | omega | rw [if_pos (decide_eq_true (by omega))] | rw [if_neg (by rw [decide_eq_false (by omega)]; decide)]) (by rw [cnt_1, h2c]; first | omega | rw [if_pos (by rw [decide_eq_true (by omega), c106₉]; rfl)] | rw [if_neg (by rw [decide_eq_false (show ¬ 1 < cyL (aSh (qS α) i) c by omega)]; simp)] | rw [if_neg (by simp only [Bool.and_eq_true]; exact fun q => c106₉ q.2)]) (by rw [h3c]; rfl) (by omega)) ⟨rfl, ⟨rfl, ⟨rfl, ⟨rfl, ⟨rfl, ⟨rfl, ⟨rfl, trivial⟩⟩⟩⟩⟩⟩⟩
          · refine J.al0 dX8_shelfOf_99 ?_
            refine J.il1 dX8_shelfOf_100 ?_
            refine J.il6 dX8_shelfOf_101 ?_
            refine cl_X8_192 rfl (by decide) (k' := 0) (n' := 0) (c_m_isLowest _ hi1₉ (MS.shr (MS.off hMR₉.1 (by simp only [wr_o (show (238 : Nat) ≠ 237 by decide)])) hi1₉ hfi₉) (hMR₉.1.vs.2.2.2.2 i hi1₉ hfi₉) (by omega)) ⟨⟨by decide, by decide⟩, ⟨rfl, rfl⟩, by decide, by decide⟩ rfl dX8_shelfOf_103 (fun μ9 h9₉ => ?_)
            rw [h9₉]; clear h9₉
            refine J.if_eqB (tgt := 113) dX8_shelfOf_106 (by decide) (fun c106₉ => ?_) (fun c106₉ => ?_)
            · refine J.iconst dX8_shelfOf_113 kI_0 ?_
              refine J.iaddN dX8_shelfOf_114 ?_
              refine J.is4 dX8_shelfOf_115 (by decide) rfl ?_
              refine J.il5 dX8_shelfOf_117 ?_
              refine J.il7 dX8_shelfOf_119 ?_
              refine J.maxN t_1277 t_798 t_18 t_maxcode (by omega) (by omega) (by decide) (Nat.le_of_ble_eq_true rfl) (by decide) (by decide) dX8_shelfOf_121 ?_
              refine J.is5 dX8_shelfOf_124 (by decide) rfl ?_
              refine J.ii6 (z := 1) dX8_shelfOf_126 (by decide) (by decide) rfl ?_
              refine J.goto (tgt := 61) dX8_shelfOf_129 (by decide) ?_
              exact J.subR (ih61 (c + 1) (a + 1) (b + 0) (max d (cyL (aSh (qS α) i) c)) (by omega) (by omega) (by rw [cnt_1, h1c]; first | omega | rw [if_pos (decide_eq_true (by omega))] | rw [if_neg (by rw [decide_eq_false (by omega)]; decide)]) (by rw [cnt_1, h2c]; first | omega | rw [if_pos (by rw [decide_eq_true (by omega), c106₉]; rfl)] | rw [if_neg (by rw [decide_eq_false (show ¬ 1 < cyL (aSh (qS α) i) c by omega)]; simp)] | rw [if_neg (by simp only [Bool.and_eq_true]; exact fun q => c106₉ q.2)]) (by rw [h3c]; rfl) (by omega)) ⟨rfl, ⟨rfl, ⟨rfl, ⟨rfl, ⟨rfl, ⟨rfl, ⟨rfl, trivial⟩⟩⟩⟩⟩⟩⟩
            · refine J.iconst dX8_shelfOf_109 kI_1 ?_
              refine J.goto (tgt := 114) dX8_shelfOf_110 (by decide) ?_
              refine J.iaddN dX8_shelfOf_114 ?_
              refine J.is4 dX8_shelfOf_115 (by decide) rfl ?_
              refine J.il5 dX8_shelfOf_117 ?_
              refine J.il7 dX8_shelfOf_119 ?_
              refine J.maxN t_1277 t_798 t_18 t_maxcode (by omega) (by omega) (by decide) (Nat.le_of_ble_eq_true rfl) (by decide) (by decide) dX8_shelfOf_121 ?_
              refine J.is5 dX8_shelfOf_124 (by decide) rfl ?_
              refine J.ii6 (z := 1) dX8_shelfOf_126 (by decide) (by decide) rfl ?_
              refine J.goto (tgt := 61) dX8_shelfOf_129 (by decide) ?_
              exact J.subR (ih61 (c + 1) (a + 1) (b + 1) (max d (cyL (aSh (qS α) i) c)) (by omega) (by omega) (by rw [cnt_1, h1c]; first | omega | rw [if_pos (decide_eq_true (by omega))] | rw [if_neg (by rw [decide_eq_false (by omega)]; decide)]) (by rw [cnt_1, h2c]; first | omega | rw [if_pos (by rw [decide_eq_true (by omega), c106₉]; rfl)] | rw [if_neg (by rw [decide_eq_false (show ¬ 1 < cyL (aSh (qS α) i) c by omega)]; simp)] | rw [if_neg (by simp only [Bool.and_eq_true]; exact fun q => c106₉ q.2)]) (by rw [h3c]; rfl) (by omega)) ⟨rfl, ⟨rfl, ⟨rfl, ⟨rfl, ⟨rfl, ⟨rfl, ⟨rfl, trivial⟩⟩⟩⟩⟩⟩⟩
  exact lp61_1 (33) 0 0 0 0 (by omega) (by omega) rfl rfl rfl (by omega)

set_option maxRecDepth 100000 in
set_option maxHeartbeats 4000000 in
theorem c_m_lineX0 {g : GP} {adr : Nat → Nat} (μ : Mem) {α : A7} (hMR₉ : MR μ α) {i : Int32} (hx₉ : ¬ (0 ≤ i ∧ i < nI 4)) : CT g yX8_line mX8_line (RM 60 0 0) (WM g adr μ) [.ref (adr 237), .int i] (PM g adr ((.inl (some (.int (nI 0))))) (fun μ' => MR μ' (α) ∧ μ' 237 6 = nI 1 ∧ FrM μ' μ)) := by
  refine CT.of (l0 := [some (.ref (adr 237)), some (.int i), none]) (by decide +kernel) rfl (Nat.le_of_ble_eq_true rfl) rfl ?_
  refine J.al0 dX8_line_0 ?_
  refine J.il1 dX8_line_1 ?_
  refine J.iconst dX8_line_2 kI_0 ?_
  refine J.iconst dX8_line_3 kI_3 ?_
  refine cl_X8_93 rfl (k' := 0) (n' := 0) (inF _ (in_idx (by decide) hx₉)) ⟨⟨by decide, by decide⟩, ⟨rfl, rfl⟩, by decide, by decide⟩ rfl dX8_line_4 (fun μ9 h9₉ => ?_)
  rw [h9₉]; clear h9₉
  refine J.if_eqN (tgt := 14) dX8_line_7 (by decide) (by omega) (fun c7₉ => ?_) (fun c7₉ => absurd c7₉ (by first | omega | (simp only [not_true_eq_false, not_false_eq_true]; done) | (simp; done)))
  refine J.iconst dX8_line_14 kI_1 ?_
  refine pf_X8_42 rfl (by decide) dX8_line_15 ?_
  refine J.al0 dX8_line_18 ?_
  refine gf_X8_42 rfl (x := nI 1) (by decide) wr_s dX8_line_19 ?_
  refine J.if_leN (tgt := 27) dX8_line_22 (by decide) (by omega) (fun c22₉ => absurd c22₉ (by first | omega | (simp only [not_true_eq_false, not_false_eq_true]; done) | (simp; done))) (fun c22₉ => ?_)
  refine J.iconst dX8_line_25 kI_0 ?_
  refine J.iret rfl (by decide) (by decide) dX8_line_26 ⟨_, rfl, ?_, ?_⟩
  · rfl
  · exact ⟨hMR₉.thr, wr_s, FrM.thr⟩

set_option maxRecDepth 100000 in
set_option maxHeartbeats 4000000 in
theorem c_m_line {g : GP} {adr : Nat → Nat} (μ : Mem) {α : A7} (hMR₉ : MR μ α) {i : Nat} (hi1₉ : i < 4)  : CT g yX8_line mX8_line (RM 60 0 0) (WM g adr μ) [.ref (adr 237), .int (nI i)] (PM g adr ((.inl (some (.int (nI (tLn (fun c => aCol (qS α) (aAt (qS α) (i * 8 + c))) 8).1))))) (fun μ' => MR μ' (aLin (tLn (fun c => aCol (qS α) (aAt (qS α) (i * 8 + c))) 8) α) ∧ μ' 237 6 = nI 0 ∧ FrM μ' μ)) := by
  refine CT.of (l0 := [some (.ref (adr 237)), some (.int (nI i)), none]) (by decide +kernel) rfl (Nat.le_of_ble_eq_true rfl) rfl ?_
  have hcb₉ : ∀ c, i * 8 + c < 32 → aCol (qS α) (aAt (qS α) (i * 8 + c)) < 6 := fun c h9₉ => hMR₉.1.vs.2.1 _ (hMR₉.1.vs.1.1 _ h9₉)
  refine J.al0 dX8_line_0 ?_
  refine J.il1 dX8_line_1 ?_
  refine J.iconst dX8_line_2 kI_0 ?_
  refine J.iconst dX8_line_3 kI_3 ?_
  refine cl_X8_93 rfl (k' := 0) (n' := 0) (inT _ (by omega) (by omega) (by omega)) ⟨⟨by decide, by decide⟩, ⟨rfl, rfl⟩, by decide, by decide⟩ rfl dX8_line_4 (fun μ9 h9₉ => ?_)
  rw [h9₉]; clear h9₉
  refine J.if_eqN (tgt := 14) dX8_line_7 (by decide) (by omega) (fun c7₉ => absurd c7₉ (by first | omega | (simp only [not_true_eq_false, not_false_eq_true]; done) | (simp; done))) (fun c7₉ => ?_)
  refine J.iconst dX8_line_10 kI_0 ?_
  refine J.goto (tgt := 15) dX8_line_11 (by decide) ?_
  refine pf_X8_42 rfl (by decide) dX8_line_15 ?_
  refine J.al0 dX8_line_18 ?_
  refine gf_X8_42 rfl (x := nI 0) (by decide) wr_s dX8_line_19 ?_
  refine J.if_leN (tgt := 27) dX8_line_22 (by decide) (by omega) (fun c22₉ => ?_) (fun c22₉ => absurd c22₉ (by first | omega | (simp only [not_true_eq_false, not_false_eq_true]; done) | (simp; done)))
  refine J.al0 dX8_line_27 ?_
  refine J.iconst dX8_line_28 kI_0 ?_
  refine pf_X8_204 rfl (by decide) dX8_line_29 ?_
  refine J.iconst dX8_line_32 kI_0 ?_
  refine J.is2 dX8_line_33 (by decide) rfl ?_
  have lp34_1 : ∀ (fu : Nat) (c : Nat) (μ1 : Mem), 8 < c + fu → c ≤ 8 → TxM μ1 246 19 (tLn (fun c => aCol (qS α) (aAt (qS α) (i * 8 + c))) c) → μ1 237 6 = nI 0 → (∀ o k, o ≠ 246 → (o ≠ 237 ∨ (k ≠ 19 ∧ k ≠ 6)) → μ1 o k = μ o k) → J g mX8_line (RM 60 0 0) (MQx g (RM 60 0 0) (PM g adr ((.inl (some (.int (nI (tLn (fun c => aCol (qS α) (aAt (qS α) (i * 8 + c))) 8).1))))) (fun μ' => MR μ' (aLin (tLn (fun c => aCol (qS α) (aAt (qS α) (i * 8 + c))) 8) α) ∧ μ' 237 6 = nI 0 ∧ FrM μ' μ))) 0 0 (WM g adr μ1) 34 [some (.ref (adr 237)), some (.int (nI i)), some (.int (nI c))] [] := by
    intro fu
    induction fu with
    | zero => intro c μ1 h9₉ hc₉ hT1₉ h61₉ hO₉; exact absurd h9₉ (by omega)
    | succ fu ih34 =>
      intro c μ1 h9₉ hc₉ hT1₉ h61₉ hO₉
      have hSm₉ : MS μ1 238 0 (qS α) := hMR₉.1.off (funext fun k => hO₉ 238 k (by decide) (Or.inl (by decide)))
      refine J.il2 dX8_line_34 ?_
      refine J.bipush dX8_line_35 kb_8 ?_
      refine J.icmp_geN (tgt := 60) dX8_line_37 (by decide) (by omega) (by omega) (fun c37₉ => ?_) (fun c37₉ => ?_)
      · refine J.al0 dX8_line_60 ?_
        refine gf_X8_204 rfl (x := nI ((tLn (fun c => aCol (qS α) (aAt (qS α) (i * 8 + c))) c).1)) (by decide) hT1₉.1 dX8_line_61 ?_
        refine J.iret rfl (by decide) (by decide) dX8_line_64 ⟨_, rfl, ?_, ?_⟩
        · rw [show c = 8 by omega]
        · obtain rfl : c = 8 := by omega
          exact ⟨hMR₉.lin hT1₉ (by rw [tLn_len (fun k hk₉ => by have := hcb₉ k (by omega); show aCol (qS α) (aAt (qS α) (i * 8 + k)) < 10; omega)]; decide) hO₉, h61₉, fun o ho₉ => funext fun k => hO₉ o k (by omega) (by omega)⟩
      · refine J.al0 dX8_line_40 ?_
        refine J.al0 dX8_line_41 ?_
        refine J.bipush dX8_line_42 kb_8 ?_
        refine J.il1 dX8_line_44 ?_
        refine J.imulN dX8_line_45 ?_
        refine J.il2 dX8_line_46 ?_
        refine J.iaddN dX8_line_47 ?_
        refine cl_X8_122 rfl (by decide) (k' := 0) (n' := 0) (c_m_colourIn _ hSm₉ (by omega)) ⟨⟨by decide, by decide⟩, ⟨rfl, rfl⟩, by decide, by decide⟩ rfl dX8_line_48 (fun μ9 h9₉ => ?_)
        rw [h9₉]; clear h9₉
        have hlen := tLn_len (h := fun c => aCol (qS α) (aAt (qS α) (i * 8 + c))) (n := c) (fun k hk₉ => by have := hcb₉ k (by omega); show aCol (qS α) (aAt (qS α) (i * 8 + k)) < 10; omega)
        have hcc₉ := hcb₉ c (by omega)
        rw [Nat.mul_comm 8 i]
        refine cl_X8_207 rfl (by decide) (k' := 0) (n' := 0) (c_m_sayN1 _ hT1₉ (by omega) (by omega)) ⟨⟨by decide, by decide⟩, ⟨rfl, rfl⟩, by decide, by decide⟩ rfl dX8_line_51 (fun μ3 ⟨hT3₉, hO3₉⟩ => ?_)
        refine J.ii2 (z := 1) dX8_line_54 (by decide) (by decide) rfl ?_
        refine J.goto (tgt := 34) dX8_line_57 (by decide) ?_
        exact ih34 (c + 1) _ (by omega) (by omega) hT3₉ ((hO3₉ 237 6 (by decide) (by decide)).trans h61₉) (fun o k h1₉ h2₉ => (hO3₉ o k h1₉ (by omega)).trans (hO₉ o k h1₉ h2₉))
  exact lp34_1 (9) 0 _ (by omega) (by omega) ⟨wr_s, fun k hk₉ => absurd hk₉ (Nat.not_lt_zero k)⟩ ((wr_n (by decide)).trans wr_s) (fun o k h1₉ h2₉ => by rw [wr_n (by omega), wr_n (by omega)])

set_option maxRecDepth 100000 in
set_option maxHeartbeats 4000000 in
theorem c_m_logLine {g : GP} {adr : Nat → Nat} (μ : Mem) {α : A7} (hMR₉ : MR μ α)  : CT g yX8_logLine mX8_logLine (RM 60 0 0) (WM g adr μ) [.ref (adr 237)] (PM g adr ((.inl (some (.int (nI (tLog (aLg (qS α)) (aLn (qS α))).1))))) (fun μ' => MR μ' (aLin (tLog (aLg (qS α)) (aLn (qS α))) α) ∧ μ' 237 6 = nI 0 ∧ FrM μ' μ)) := by
  refine CT.of (l0 := [some (.ref (adr 237)), none]) (by decide +kernel) rfl (Nat.le_of_ble_eq_true rfl) rfl ?_
  have hln₉ := hMR₉.1.ln
  refine J.al0 dX8_logLine_0 ?_
  refine J.iconst dX8_logLine_1 kI_0 ?_
  refine pf_X8_42 rfl (by decide) dX8_logLine_2 ?_
  refine J.al0 dX8_logLine_5 ?_
  refine J.iconst dX8_logLine_6 kI_0 ?_
  refine pf_X8_204 rfl (by decide) dX8_logLine_7 ?_
  refine J.iconst dX8_logLine_10 kI_0 ?_
  refine J.is1 dX8_logLine_11 (by decide) rfl ?_
  have lp12_1 : ∀ (fu : Nat) (c : Nat) (μ1 : Mem), aLn (qS α) < c + fu → c ≤ aLn (qS α) → TxM μ1 246 19 (tLog (aLg (qS α)) c) → μ1 237 6 = nI 0 → (∀ o k, o ≠ 246 → (o ≠ 237 ∨ (k ≠ 19 ∧ k ≠ 6)) → μ1 o k = μ o k) → J g mX8_logLine (RM 60 0 0) (MQx g (RM 60 0 0) (PM g adr ((.inl (some (.int (nI (tLog (aLg (qS α)) (aLn (qS α))).1))))) (fun μ' => MR μ' (aLin (tLog (aLg (qS α)) (aLn (qS α))) α) ∧ μ' 237 6 = nI 0 ∧ FrM μ' μ))) 0 0 (WM g adr μ1) 12 [some (.ref (adr 237)), some (.int (nI c))] [] := by
    intro fu
    induction fu with
    | zero => intro c μ1 h9₉ hc₉ hT1₉ h61₉ hO₉; exact absurd h9₉ (by omega)
    | succ fu ih12 =>
      intro c μ1 h9₉ hc₉ hT1₉ h61₉ hO₉
      have hSm₉ : MS μ1 238 0 (qS α) := hMR₉.1.off (funext fun k => hO₉ 238 k (by decide) (Or.inl (by decide)))
      have hlen := tLog_len (h := aLg (qS α)) (n := c) (fun k hk₉ => (mv_digs hMR₉.1.vs (by omega)).2)
      refine J.il1 dX8_logLine_12 ?_
      refine J.al0 dX8_logLine_13 ?_
      refine gf_X8_9 rfl (o2 := 238) (by decide) rfl dX8_logLine_14 ?_
      refine J.iconst dX8_logLine_17 kI_0 ?_
      refine J.iald (N := 352) (x := nI (aLn (qS α))) (by decide) (by decide) (by decide) (by omega) hSm₉.rLn dX8_logLine_18 ?_
      refine J.icmp_geN (tgt := 88) dX8_logLine_19 (by decide) (by omega) (by omega) (fun c19₉ => ?_) (fun c19₉ => ?_)
      · refine J.al0 dX8_logLine_88 ?_
        refine gf_X8_204 rfl (x := nI ((tLog (aLg (qS α)) c).1)) (by decide) hT1₉.1 dX8_logLine_89 ?_
        refine J.iret rfl (by decide) (by decide) dX8_logLine_92 ⟨_, rfl, ?_, ?_⟩
        · rw [show c = aLn (qS α) by omega]
        · obtain rfl : c = aLn (qS α) := by omega
          exact ⟨hMR₉.lin hT1₉ (by omega) hO₉, h61₉, fun o ho₉ => funext fun k => hO₉ o k (by omega) (by omega)⟩
      · obtain ⟨g1, g2, g3⟩ := mv_digs hMR₉.1.vs (p := c) (by omega)
        refine J.al0 dX8_logLine_22 ?_
        refine J.al0 dX8_logLine_23 ?_
        refine gf_X8_9 rfl (o2 := 238) (by decide) rfl dX8_logLine_24 ?_
        refine J.bipush dX8_logLine_27 kb_72 ?_
        refine J.iconst dX8_logLine_29 kI_3 ?_
        refine J.il1 dX8_logLine_30 ?_
        refine J.imulN dX8_logLine_31 ?_
        refine J.iaddN dX8_logLine_32 ?_
        refine J.iald (N := 352) (x := nI (aLg (qS α) (c * 3))) (by decide) (by decide) (by decide) (by omega) (by have h9₉ := hSm₉.rLg (k := c * 3) (by omega); rw [show 72 + 3 * c = 72 + (c * 3) by omega]; exact h9₉) dX8_logLine_33 ?_
        refine J.iconst dX8_logLine_34 kI_1 ?_
        refine J.icmp_neN (tgt := 43) dX8_logLine_35 (by decide) (by omega) (by omega) (fun c35₉ => ?_) (fun c35₉ => ?_)
        · refine J.bipush dX8_logLine_43 kb_114 ?_
          refine cl_X8_210 rfl (by decide) (k' := 0) (n' := 0) (c_m_says _ hT1₉ (by omega) (by decide)) ⟨⟨by decide, by decide⟩, ⟨rfl, rfl⟩, by decide, by decide⟩ rfl dX8_logLine_45 (fun μ3 ⟨hT3₉, hO3₉⟩ => ?_)
          have hSm3₉ : MS μ3 238 0 (qS α) := hSm₉.off (funext fun k => hO3₉ 238 k (by decide) (Or.inl (by decide)))
          refine J.al0 dX8_logLine_48 ?_
          refine J.al0 dX8_logLine_49 ?_
          refine gf_X8_9 rfl (o2 := 238) (by decide) rfl dX8_logLine_50 ?_
          refine J.bipush dX8_logLine_53 kb_72 ?_
          refine J.iconst dX8_logLine_55 kI_3 ?_
          refine J.il1 dX8_logLine_56 ?_
          refine J.imulN dX8_logLine_57 ?_
          refine J.iaddN dX8_logLine_58 ?_
          refine J.iconst dX8_logLine_59 kI_1 ?_
          refine J.iaddN dX8_logLine_60 ?_
          refine J.iald (N := 352) (x := nI (aLg (qS α) (c * 3 + 1))) (by decide) (by decide) (by decide) (by omega) (by have h9₉ := hSm3₉.rLg (k := c * 3 + 1) (by omega); rw [show 72 + 3 * c + 1 = 72 + (c * 3 + 1) by omega]; exact h9₉) dX8_logLine_61 ?_
          refine cl_X8_207 rfl (by decide) (k' := 0) (n' := 0) (c_m_sayN1 _ hT3₉ (show (tLog (aLg (qS α)) c).1 + 1 < 200 by omega) (by omega)) ⟨⟨by decide, by decide⟩, ⟨rfl, rfl⟩, by decide, by decide⟩ rfl dX8_logLine_62 (fun μ4 ⟨hT4₉, hO4₉⟩ => ?_)
          have hSm4₉ : MS μ4 238 0 (qS α) := hSm3₉.off (funext fun k => hO4₉ 238 k (by decide) (Or.inl (by decide)))
          refine J.al0 dX8_logLine_65 ?_
          refine J.al0 dX8_logLine_66 ?_
          refine gf_X8_9 rfl (o2 := 238) (by decide) rfl dX8_logLine_67 ?_
          refine J.bipush dX8_logLine_70 kb_72 ?_
          refine J.iconst dX8_logLine_72 kI_3 ?_
          refine J.il1 dX8_logLine_73 ?_
          refine J.imulN dX8_logLine_74 ?_
          refine J.iaddN dX8_logLine_75 ?_
          refine J.iconst dX8_logLine_76 kI_2 ?_
          refine J.iaddN dX8_logLine_77 ?_
          refine J.iald (N := 352) (x := nI (aLg (qS α) (c * 3 + 2))) (by decide) (by decide) (by decide) (by omega) (by have h9₉ := hSm4₉.rLg (k := c * 3 + 2) (by omega); rw [show 72 + 3 * c + 2 = 72 + (c * 3 + 2) by omega]; exact h9₉) dX8_logLine_78 ?_
          have hnw₉ : numW (aLg (qS α) (c * 3 + 1)) = 1 := if_pos (by omega)
          refine cl_X8_207 rfl (by decide) (k' := 0) (n' := 0) (c_m_sayN1 _ hT4₉ (show (tLog (aLg (qS α)) c).1 + 1 + numW (aLg (qS α) (c * 3 + 1)) < 200 by omega) (by omega)) ⟨⟨by decide, by decide⟩, ⟨rfl, rfl⟩, by decide, by decide⟩ rfl dX8_logLine_79 (fun μ5 ⟨hT5₉, hO5₉⟩ => ?_)
          refine J.ii1 (z := 1) dX8_logLine_82 (by decide) (by decide) rfl ?_
          refine J.goto (tgt := 12) dX8_logLine_85 (by decide) ?_
          have hT6₉ : TxM μ5 246 19 (tLog (aLg (qS α)) (c + 1)) := by
            show TxM μ5 246 19 (tN _ (tN _ (tP (if aLg (qS α) (c * 3) = 0 then 114 else 99) _)))
            first | (rw [if_pos (by omega)]; exact hT5₉) | (rw [if_neg (by omega)]; exact hT5₉)
          have hO6₉ : ∀ o k, o ≠ 246 → (o ≠ 237 ∨ k ≠ 19) → μ5 o k = μ1 o k := fun o k h1₉ h2₉ => (hO5₉ o k h1₉ h2₉).trans ((hO4₉ o k h1₉ h2₉).trans (hO3₉ o k h1₉ h2₉))
          exact ih12 (c + 1) _ (by omega) (by omega) hT6₉ ((hO6₉ 237 6 (by decide) (by decide)).trans h61₉) (fun o k h1₉ h2₉ => (hO6₉ o k h1₉ (by omega)).trans (hO₉ o k h1₉ h2₉))
        · refine J.bipush dX8_logLine_38 kb_99 ?_
          refine J.goto (tgt := 45) dX8_logLine_40 (by decide) ?_
          refine cl_X8_210 rfl (by decide) (k' := 0) (n' := 0) (c_m_says _ hT1₉ (by omega) (by decide)) ⟨⟨by decide, by decide⟩, ⟨rfl, rfl⟩, by decide, by decide⟩ rfl dX8_logLine_45 (fun μ3 ⟨hT3₉, hO3₉⟩ => ?_)
          have hSm3₉ : MS μ3 238 0 (qS α) := hSm₉.off (funext fun k => hO3₉ 238 k (by decide) (Or.inl (by decide)))
          refine J.al0 dX8_logLine_48 ?_
          refine J.al0 dX8_logLine_49 ?_
          refine gf_X8_9 rfl (o2 := 238) (by decide) rfl dX8_logLine_50 ?_
          refine J.bipush dX8_logLine_53 kb_72 ?_
          refine J.iconst dX8_logLine_55 kI_3 ?_
          refine J.il1 dX8_logLine_56 ?_
          refine J.imulN dX8_logLine_57 ?_
          refine J.iaddN dX8_logLine_58 ?_
          refine J.iconst dX8_logLine_59 kI_1 ?_
          refine J.iaddN dX8_logLine_60 ?_
          refine J.iald (N := 352) (x := nI (aLg (qS α) (c * 3 + 1))) (by decide) (by decide) (by decide) (by omega) (by have h9₉ := hSm3₉.rLg (k := c * 3 + 1) (by omega); rw [show 72 + 3 * c + 1 = 72 + (c * 3 + 1) by omega]; exact h9₉) dX8_logLine_61 ?_
          refine cl_X8_207 rfl (by decide) (k' := 0) (n' := 0) (c_m_sayN1 _ hT3₉ (show (tLog (aLg (qS α)) c).1 + 1 < 200 by omega) (by omega)) ⟨⟨by decide, by decide⟩, ⟨rfl, rfl⟩, by decide, by decide⟩ rfl dX8_logLine_62 (fun μ4 ⟨hT4₉, hO4₉⟩ => ?_)
          have hSm4₉ : MS μ4 238 0 (qS α) := hSm3₉.off (funext fun k => hO4₉ 238 k (by decide) (Or.inl (by decide)))
          refine J.al0 dX8_logLine_65 ?_
          refine J.al0 dX8_logLine_66 ?_
          refine gf_X8_9 rfl (o2 := 238) (by decide) rfl dX8_logLine_67 ?_
          refine J.bipush dX8_logLine_70 kb_72 ?_
          refine J.iconst dX8_logLine_72 kI_3 ?_
          refine J.il1 dX8_logLine_73 ?_
          refine J.imulN dX8_logLine_74 ?_
          refine J.iaddN dX8_logLine_75 ?_
          refine J.iconst dX8_logLine_76 kI_2 ?_
          refine J.iaddN dX8_logLine_77 ?_
          refine J.iald (N := 352) (x := nI (aLg (qS α) (c * 3 + 2))) (by decide) (by decide) (by decide) (by omega) (by have h9₉ := hSm4₉.rLg (k := c * 3 + 2) (by omega); rw [show 72 + 3 * c + 2 = 72 + (c * 3 + 2) by omega]; exact h9₉) dX8_logLine_78 ?_
          have hnw₉ : numW (aLg (qS α) (c * 3 + 1)) = 1 := if_pos (by omega)
          refine cl_X8_207 rfl (by decide) (k' := 0) (n' := 0) (c_m_sayN1 _ hT4₉ (show (tLog (aLg (qS α)) c).1 + 1 + numW (aLg (qS α) (c * 3 + 1)) < 200 by omega) (by omega)) ⟨⟨by decide, by decide⟩, ⟨rfl, rfl⟩, by decide, by decide⟩ rfl dX8_logLine_79 (fun μ5 ⟨hT5₉, hO5₉⟩ => ?_)
          refine J.ii1 (z := 1) dX8_logLine_82 (by decide) (by decide) rfl ?_
          refine J.goto (tgt := 12) dX8_logLine_85 (by decide) ?_
          have hT6₉ : TxM μ5 246 19 (tLog (aLg (qS α)) (c + 1)) := by
            show TxM μ5 246 19 (tN _ (tN _ (tP (if aLg (qS α) (c * 3) = 0 then 114 else 99) _)))
            first | (rw [if_pos (by omega)]; exact hT5₉) | (rw [if_neg (by omega)]; exact hT5₉)
          have hO6₉ : ∀ o k, o ≠ 246 → (o ≠ 237 ∨ k ≠ 19) → μ5 o k = μ1 o k := fun o k h1₉ h2₉ => (hO5₉ o k h1₉ h2₉).trans ((hO4₉ o k h1₉ h2₉).trans (hO3₉ o k h1₉ h2₉))
          exact ih12 (c + 1) _ (by omega) (by omega) hT6₉ ((hO6₉ 237 6 (by decide) (by decide)).trans h61₉) (fun o k h1₉ h2₉ => (hO6₉ o k h1₉ (by omega)).trans (hO₉ o k h1₉ h2₉))
  exact lp12_1 (41) 0 _ (by omega) (by omega) ⟨wr_s, fun k hk₉ => absurd hk₉ (Nat.not_lt_zero k)⟩ ((wr_n (by decide)).trans wr_s) (fun o k h1₉ h2₉ => by rw [wr_n (by omega), wr_n (by omega)])
