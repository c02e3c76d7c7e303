/-! ===== printed: the reader of sequences ===== -/
set_option maxRecDepth 100000 in
set_option maxHeartbeats 4000000 in
theorem c_shelfItem2 {g : GP} {adr : Nat → Nat} (μ : Mem) {t : Nat → Nat} {x p d : Nat} {σ : AS} {r : PRes} (hT₉ : SgT μ 194 x t) (hx₉ : x ≤ 60) (hC₉ : CS μ 1 σ) (hp₉ : μ 193 1 = nI p) (hpx₉ : p ≤ x) (hpl₉ : p < x) (hd₉ : d < 5) {i : Nat} (hs₉ : pDig t x (p + 1) 0 4 = some i) (hfl₉ : ¬ aFl σ i = true) (hr0₉ : pShelf t x σ p = r) : CT g yX4_shelfItem mX4_shelfItem (RM 2 0 0) (WM g adr μ) [.ref (adr 193), .ref (adr 1), .ref (adr (203 + 6 * d))] (PM g adr ((.inl (some (.int (pVal r))))) (fun μ' => RdP μ' μ (203 + 6 * d) (203 + 6 * d + 1) r)) := by
  refine CT.of (l0 := [some (.ref (adr 193)), some (.ref (adr 1)), some (.ref (adr (203 + 6 * d))), none]) (by decide +kernel) rfl (Nat.le_of_ble_eq_true rfl) rfl ?_
  have g1 := pDig_some hs₉
  refine J.al0 dX4_shelfItem_0 ?_
  refine J.dup dX4_shelfItem_1 rfl ?_
  refine gf_X4_18 rfl (x := nI p) (by decide) hp₉ dX4_shelfItem_2 ?_
  refine J.iconst dX4_shelfItem_5 kI_1 ?_
  refine J.iaddN dX4_shelfItem_6 ?_
  refine pf_X4_18 rfl (by decide) dX4_shelfItem_7 ?_
  refine J.al0 dX4_shelfItem_10 ?_
  refine gf_X4_12 rfl (o2 := 194) (by decide) rfl dX4_shelfItem_11 ?_
  refine J.al0 dX4_shelfItem_14 ?_
  refine gf_X4_18 rfl (x := nI (p + 1)) (by decide) wr_s dX4_shelfItem_15 ?_
  refine cl_X4_47 rfl (by decide) (k' := 0) (n' := 0) (c_signAt _ (by decide) (hT₉.rdf (b := 231) RdF.rf.wr (by decide)).1 (by omega) (by omega) (fun k hk₉ => ((hT₉.rdf (b := 231) RdF.rf.wr (by decide)).2 k hk₉).1)) ⟨⟨by decide, by decide⟩, ⟨rfl, rfl⟩, by decide, by decide⟩ rfl dX4_shelfItem_18 (fun μ9 h9₉ => ?_)
  rw [h9₉]; clear h9₉
  refine J.bipush dX4_shelfItem_21 kb_48 ?_
  refine J.isubN dX4_shelfItem_23 (by omega) ?_
  refine J.is3 dX4_shelfItem_24 (by decide) rfl ?_
  refine J.al1 dX4_shelfItem_25 ?_
  refine J.il3 dX4_shelfItem_26 ?_
  have hif₉ := c_isFilled (g := g) (adr := adr) (wr μ 193 1 (nI (p + 1))) (t := 1) (i := i) (by decide) (by omega) (hC₉.rdf (b := 231) RdF.rf.wr (by decide))
  rw [show i = t (p + 1) - 48 by omega] at hif₉
  rw [if_neg (by rw [show t (p + 1) - 48 = i by omega]; exact hfl₉)] at hif₉
  refine cl_X4_101 rfl (by decide) (k' := 0) (n' := 0) (hif₉) ⟨⟨by decide, by decide⟩, ⟨rfl, rfl⟩, by decide, by decide⟩ rfl dX4_shelfItem_27 (fun μ9 h9₉ => ?_)
  rw [h9₉]; clear h9₉
  refine J.if_neN (tgt := 35) dX4_shelfItem_30 (by decide) (by omega) (fun c30₉ => absurd c30₉ (by first | omega | (simp only [not_true_eq_false, not_false_eq_true]; done) | (simp; done))) (fun c30₉ => ?_)
  refine J.iconst (v := -1) dX4_shelfItem_33 (by decide) ?_
  obtain rfl : r = .inl (p + 1) := by rw [← hr0₉]; exact pShelf_2 hs₉ hfl₉
  refine J.iret rfl (by decide) (by decide) dX4_shelfItem_34 ⟨_, rfl, ?_, ?_⟩
  · rfl
  · exact ⟨wr_s, trivial, RdF.rf.wr⟩

set_option maxRecDepth 100000 in
set_option maxHeartbeats 4000000 in
theorem c_shelfItem3 {g : GP} {adr : Nat → Nat} (μ : Mem) {t : Nat → Nat} {x p d : Nat} {σ : AS} {r : PRes} (hT₉ : SgT μ 194 x t) (hx₉ : x ≤ 60) (hC₉ : CS μ 1 σ) (hp₉ : μ 193 1 = nI p) (hpx₉ : p ≤ x) (hpl₉ : p < x) (hd₉ : d < 5) {i : Nat} (hs₉ : pDig t x (p + 1) 0 4 = some i) (hfl₉ : aFl σ i = true) (hr0₉ : pShelf t x σ p = r) : CT g yX4_shelfItem mX4_shelfItem (RM 2 0 0) (WM g adr μ) [.ref (adr 193), .ref (adr 1), .ref (adr (203 + 6 * d))] (PM g adr ((.inl (some (.int (pVal r))))) (fun μ' => RdP μ' μ (203 + 6 * d) (203 + 6 * d + 1) r)) := by
  refine CT.of (l0 := [some (.ref (adr 193)), some (.ref (adr 1)), some (.ref (adr (203 + 6 * d))), none]) (by decide +kernel) rfl (Nat.le_of_ble_eq_true rfl) rfl ?_
  have g1 := pDig_some hs₉
  refine J.al0 dX4_shelfItem_0 ?_
  refine J.dup dX4_shelfItem_1 rfl ?_
  refine gf_X4_18 rfl (x := nI p) (by decide) hp₉ dX4_shelfItem_2 ?_
  refine J.iconst dX4_shelfItem_5 kI_1 ?_
  refine J.iaddN dX4_shelfItem_6 ?_
  refine pf_X4_18 rfl (by decide) dX4_shelfItem_7 ?_
  refine J.al0 dX4_shelfItem_10 ?_
  refine gf_X4_12 rfl (o2 := 194) (by decide) rfl dX4_shelfItem_11 ?_
  refine J.al0 dX4_shelfItem_14 ?_
  refine gf_X4_18 rfl (x := nI (p + 1)) (by decide) wr_s dX4_shelfItem_15 ?_
  refine cl_X4_47 rfl (by decide) (k' := 0) (n' := 0) (c_signAt _ (by decide) (hT₉.rdf (b := 231) RdF.rf.wr (by decide)).1 (by omega) (by omega) (fun k hk₉ => ((hT₉.rdf (b := 231) RdF.rf.wr (by decide)).2 k hk₉).1)) ⟨⟨by decide, by decide⟩, ⟨rfl, rfl⟩, by decide, by decide⟩ rfl dX4_shelfItem_18 (fun μ9 h9₉ => ?_)
  rw [h9₉]; clear h9₉
  refine J.bipush dX4_shelfItem_21 kb_48 ?_
  refine J.isubN dX4_shelfItem_23 (by omega) ?_
  refine J.is3 dX4_shelfItem_24 (by decide) rfl ?_
  refine J.al1 dX4_shelfItem_25 ?_
  refine J.il3 dX4_shelfItem_26 ?_
  have hif₉ := c_isFilled (g := g) (adr := adr) (wr μ 193 1 (nI (p + 1))) (t := 1) (i := i) (by decide) (by omega) (hC₉.rdf (b := 231) RdF.rf.wr (by decide))
  rw [show i = t (p + 1) - 48 by omega] at hif₉
  rw [if_pos (by rw [show t (p + 1) - 48 = i by omega]; exact hfl₉)] at hif₉
  refine cl_X4_101 rfl (by decide) (k' := 0) (n' := 0) (hif₉) ⟨⟨by decide, by decide⟩, ⟨rfl, rfl⟩, by decide, by decide⟩ rfl dX4_shelfItem_27 (fun μ9 h9₉ => ?_)
  rw [h9₉]; clear h9₉
  refine J.if_neN (tgt := 35) dX4_shelfItem_30 (by decide) (by omega) (fun c30₉ => ?_) (fun c30₉ => absurd c30₉ (by first | omega | (simp only [not_true_eq_false, not_false_eq_true]; done) | (simp; done)))
  refine J.al0 dX4_shelfItem_35 ?_
  refine J.dup dX4_shelfItem_36 rfl ?_
  refine gf_X4_18 rfl (x := nI (p + 1)) (by decide) wr_s dX4_shelfItem_37 ?_
  refine J.iconst dX4_shelfItem_40 kI_1 ?_
  refine J.iaddN dX4_shelfItem_41 ?_
  refine pf_X4_18 rfl (by decide) dX4_shelfItem_42 ?_
  refine J.al2 dX4_shelfItem_45 ?_
  refine J.al1 dX4_shelfItem_46 ?_
  refine J.il3 dX4_shelfItem_47 ?_
  have hos₉ := c_onShelf (g := g) (adr := adr) (wr (wr μ 193 1 (nI (p + 1))) 193 1 (nI (p + 1 + 1))) (t := 1) (i := i) (by decide) (by omega)
  rw [show Value.int (nI i) = Value.int (nI (t (p + 1) - 48)) by rw [show t (p + 1) - 48 = i by omega]] at hos₉
  refine cl_X4_107 rfl (by decide) (k' := 0) (n' := 0) (hos₉) ⟨⟨by decide, by decide⟩, ⟨rfl, rfl⟩, by decide, by decide⟩ rfl dX4_shelfItem_48 (fun μ9 h9₉ => ?_)
  rw [h9₉]; clear h9₉
  have hS₉ := hC₉.2.2.2.2.2.2.2.2.1 i (by omega) hfl₉
  have hS2₉ : PermR (wr (wr μ 193 1 (nI (p + 1))) 193 1 (nI (p + 1 + 1))) (1 + 9 + 2 * i + 1) (aSh σ i) := by
    rw [show 1 + 9 + 2 * i + 1 = 1 + 10 + 2 * i by omega]
    exact PermR.eq hS₉ (by rw [wr_o (by omega), wr_o (by omega)])
  refine cl_X4_87 rfl (kt_rd (d := d) (by omega)).2.1 (k' := 0) (n' := 0) (c_toCopy _ (kt_rd hd₉).2.1 ((kt_st (b := 1) (by decide)).2.2.2.2 i (by omega)) (by omega) hS2₉) ⟨⟨by decide, by decide⟩, ⟨rfl, rfl⟩, by decide, by decide⟩ rfl dX4_shelfItem_51 (fun μ4 ⟨h4₉, hO4₉⟩ => ?_)
  refine J.iconst dX4_shelfItem_54 kI_1 ?_
  obtain rfl : r = .inr (p + 2, 1, aSh σ i) := by rw [← hr0₉]; exact pShelf_3 hs₉ hfl₉
  refine J.iret rfl (by decide) (by decide) dX4_shelfItem_55 ⟨_, rfl, ?_, ?_⟩
  · rfl
  · exact ⟨(congrFun (hO4₉ 193 (by omega)) 1).trans wr_s, h4₉, RdF.off hO4₉ RdF.rf.wr.wr (by omega)⟩

theorem c_shelfItem {g : GP} {adr : Nat → Nat} (μ : Mem) {t : Nat → Nat} {x p d : Nat} {σ : AS} {r : PRes} (hT₉ : SgT μ 194 x t) (hx₉ : x ≤ 60) (hC₉ : CS μ 1 σ) (hp₉ : μ 193 1 = nI p) (hpx₉ : p ≤ x) (hpl₉ : p < x) (hd₉ : d < 5) (hr0₉ : pShelf t x σ p = r) : CT g yX4_shelfItem mX4_shelfItem (RM 2 0 0) (WM g adr μ) [.ref (adr 193), .ref (adr 1), .ref (adr (203 + 6 * d))] (PM g adr (.inl (some (.int (pVal r)))) (fun μ' => RdP μ' μ (203 + 6 * d) (203 + 6 * d + 1) r)) := by
  rcases hs₉ : pDig t x (p + 1) 0 4 with _ | i
  · exact c_shelfItem1 μ hT₉ hx₉ hC₉ hp₉ hpx₉ hpl₉ hd₉ hs₉ hr0₉
  · by_cases hfl₉ : aFl σ i = true
    · exact c_shelfItem3 μ hT₉ hx₉ hC₉ hp₉ hpx₉ hpl₉ hd₉ hs₉ hfl₉ hr0₉
    · exact c_shelfItem2 μ hT₉ hx₉ hC₉ hp₉ hpx₉ hpl₉ hd₉ hs₉ hfl₉ hr0₉

set_option maxRecDepth 100000 in
set_option maxHeartbeats 4000000 in
theorem c_repeatedItem {g : GP} {adr : Nat → Nat} (μ : Mem) {t : Nat → Nat} {x p d n : Nat} {σ : AS} {r : PRes} (hT₉ : SgT μ 194 x t) (hx₉ : x ≤ 60) (hC₉ : CS μ 1 σ) (hp₉ : μ 193 1 = nI p) (hpx₉ : p ≤ x) (hpl₉ : p < x) (hdn₉ : d + n = 4) (hin₉ : SeqOK g adr t x σ n (d + 1)) (hr0₉ : pRep t x (pSq t x σ n) p = r) : CT g yX4_repeatedItem mX4_repeatedItem (RM (3 * n + 2) 0 0) (WM g adr μ) [.ref (adr 193), .int (nI d), .ref (adr 1), .ref (adr (203 + 6 * d))] (PM g adr ((.inl (some (.int (pVal r))))) (fun μ' => RdP μ' μ (203 + 6 * d) (203 + 6 * d + 1) r)) := by
  refine CT.of (l0 := [some (.ref (adr 193)), some (.int (nI d)), some (.ref (adr 1)), some (.ref (adr (203 + 6 * d))), none, none]) (by decide +kernel) rfl (Nat.le_of_ble_eq_true rfl) rfl ?_
  refine J.il1 dX4_repeatedItem_0 ?_
  refine J.iconst dX4_repeatedItem_1 kI_4 ?_
  refine cl_X4_51 rfl (k' := 0) (n' := 0) (c_isIndex _ (by omega) (by decide)) (roomR (by omega) (by omega)) rfl dX4_repeatedItem_2 (fun μ9 h9₉ => ?_)
  rw [h9₉]; clear h9₉
  refine J.if_neB (tgt := 10) dX4_repeatedItem_5 (by decide) (fun c5₉ => ?_) (fun c5₉ => ?_)
  · refine J.al0 dX4_repeatedItem_10 ?_
    refine J.dup dX4_repeatedItem_11 rfl ?_
    refine gf_X4_18 rfl (x := nI p) (by decide) hp₉ dX4_repeatedItem_12 ?_
    refine J.iconst dX4_repeatedItem_15 kI_1 ?_
    refine J.iaddN dX4_repeatedItem_16 ?_
    refine pf_X4_18 rfl (by decide) dX4_repeatedItem_17 ?_
    refine J.al0 dX4_repeatedItem_20 ?_
    refine J.il1 dX4_repeatedItem_21 ?_
    refine J.iconst dX4_repeatedItem_22 kI_1 ?_
    refine J.iaddN dX4_repeatedItem_23 ?_
    refine J.al2 dX4_repeatedItem_24 ?_
    rcases k1₉ : pSq t x σ n (p + 1) with e1 | ⟨q1₉, f1, F1⟩
    · refine cl_X4_39 rfl (by decide) (k' := 0) (n' := 0) (hin₉ _ _ (hT₉.rdf (b := 231) RdF.rf.wr (by decide)) (hC₉.rdf (b := 231) RdF.rf.wr (by decide)) wr_s (by omega) (by omega) _ k1₉) (roomR (by omega) (by omega)) rfl dX4_repeatedItem_25 (fun μ2 ⟨hP2₉, _, hF2₉⟩ => ?_)
      have hW2₉ := (hF2₉.trans (RdF.rf (b := 231)).wr (b := 203 + 6 * d) (by omega) (by omega))
      refine J.is4 dX4_repeatedItem_28 (by decide) rfl ?_
      refine J.il4 dX4_repeatedItem_30 ?_
      refine J.iconst (v := -1) dX4_repeatedItem_32 (by decide) ?_
      refine J.icmp_eqV (tgt := 52) dX4_repeatedItem_33 (by decide) ?_
      refine J.iconst (v := -1) dX4_repeatedItem_52 (by decide) ?_
      obtain rfl : r = .inl e1 := by rw [← hr0₉]; exact pRep_1 k1₉
      refine J.iret rfl (Nat.zero_le _) (Nat.zero_le _) dX4_repeatedItem_53 ⟨_, rfl, ?_, ?_⟩
      · rfl
      · exact ⟨hP2₉, trivial, hW2₉⟩
    · refine cl_X4_39 rfl (by decide) (k' := 0) (n' := 0) (hin₉ _ _ (hT₉.rdf (b := 231) RdF.rf.wr (by decide)) (hC₉.rdf (b := 231) RdF.rf.wr (by decide)) wr_s (by omega) (by omega) _ k1₉) (roomR (by omega) (by omega)) rfl dX4_repeatedItem_25 (fun μ2 ⟨hP2₉, hR2₉, hF2₉⟩ => ?_)
      have hW2₉ := (hF2₉.trans (RdF.rf (b := 231)).wr (b := 203 + 6 * d) (by omega) (by omega))
      have hT2₉ := (hT₉.rdf (b := 231) RdF.rf.wr (by decide)).rdf hF2₉ (by omega)
      have hC2₉ := (hC₉.rdf (b := 231) RdF.rf.wr (by decide)).rdf hF2₉ (by omega)
      obtain ⟨u21, u22, u23, u24⟩ := pSq_few hC₉.sh hx₉ (by omega) (by omega) k1₉
      refine J.is4 dX4_repeatedItem_28 (by decide) rfl ?_
      refine J.il4 dX4_repeatedItem_30 ?_
      refine J.iconst (v := -1) dX4_repeatedItem_32 (by decide) ?_
      refine J.icmp_eqW (by omega) (tgt := 52) dX4_repeatedItem_33 (by decide) ?_
      refine J.al0 dX4_repeatedItem_36 ?_
      refine gf_X4_12 rfl (o2 := 194) (by decide) rfl dX4_repeatedItem_37 ?_
      refine J.al0 dX4_repeatedItem_40 ?_
      refine gf_X4_18 rfl (x := nI q1₉) (by decide) hP2₉ dX4_repeatedItem_41 ?_
      refine cl_X4_47 rfl (by decide) (k' := 0) (n' := 0) (signAtI _ (by decide) hT2₉ (by omega) (by omega)) (roomR (by omega) (by omega)) rfl dX4_repeatedItem_44 (fun μ9 h9₉ => ?_)
      rw [h9₉]; clear h9₉
      refine J.bipush dX4_repeatedItem_47 kb_41 ?_
      refine J.icmp_eqS (tgt := 54) (fun k hk₉ => (hT₉.2 k hk₉).2) (by decide) dX4_repeatedItem_49 (by decide) (fun c49₉ => ?_) (fun c49₉ => ?_)
      · have g46 := hr_one.mp c49₉
        refine J.al0 dX4_repeatedItem_54 ?_
        refine J.dup dX4_repeatedItem_55 rfl ?_
        refine gf_X4_18 rfl (x := nI q1₉) (by decide) hP2₉ dX4_repeatedItem_56 ?_
        refine J.iconst dX4_repeatedItem_59 kI_1 ?_
        refine J.iaddN dX4_repeatedItem_60 ?_
        refine pf_X4_18 rfl (by decide) dX4_repeatedItem_61 ?_
        refine J.al0 dX4_repeatedItem_64 ?_
        refine J.iconst dX4_repeatedItem_65 kI_2 ?_
        refine J.bipush dX4_repeatedItem_66 kb_9 ?_
        rcases k2₉ : pDig t x (q1₉ + 1) 2 9 with _ | w
        · refine cl_X4_90 rfl (by decide) (k' := 0) (n' := 0) (c_digitN _ (hT2₉.rdf (b := 231) RdF.rf.wr (by decide)) hx₉ wr_s (by omega) (by decide) (by decide) k2₉) (roomR (by omega) (by omega)) rfl dX4_repeatedItem_68 (fun μ9 h9₉ => ?_)
          rw [h9₉]; clear h9₉
          refine J.is5 dX4_repeatedItem_71 (by decide) rfl ?_
          refine J.il5 dX4_repeatedItem_73 ?_
          refine J.iconst (v := -1) dX4_repeatedItem_75 (by decide) ?_
          refine J.icmp_neV (tgt := 81) dX4_repeatedItem_76 (by decide) ?_
          refine J.iconst (v := -1) dX4_repeatedItem_79 (by decide) ?_
          obtain rfl : r = .inl (q1₉ + 1) := by rw [← hr0₉]; exact pRep_3 k1₉ c49₉ k2₉
          refine J.iret rfl (Nat.zero_le _) (Nat.zero_le _) dX4_repeatedItem_80 ⟨_, rfl, ?_, ?_⟩
          · rfl
          · exact ⟨wr_s, trivial, hW2₉.wr⟩
        · refine cl_X4_90 rfl (by decide) (k' := 0) (n' := 0) (c_digitS _ (hT2₉.rdf (b := 231) RdF.rf.wr (by decide)) hx₉ wr_s (by decide) (by decide) k2₉) (roomR (by omega) (by omega)) rfl dX4_repeatedItem_68 (fun μ3 h3₉ => ?_)
          subst h3₉
          have g3 := pDig_some k2₉
          refine J.is5 dX4_repeatedItem_71 (by decide) rfl ?_
          refine J.il5 dX4_repeatedItem_73 ?_
          refine J.iconst (v := -1) dX4_repeatedItem_75 (by decide) ?_
          refine J.icmp_neW (by omega) (tgt := 81) dX4_repeatedItem_76 (by decide) ?_
          refine J.al3 dX4_repeatedItem_81 ?_
          refine J.al0 dX4_repeatedItem_82 ?_
          refine gf_X4_24 rfl (o2 := 196) (by decide) rfl dX4_repeatedItem_83 ?_
          refine J.il1 dX4_repeatedItem_86 ?_
          refine J.iconst dX4_repeatedItem_87 kI_1 ?_
          refine J.iaddN dX4_repeatedItem_88 ?_
          refine J.aaldP (a := 201 + 6 * (d + 1)) dX4_repeatedItem_89 (by omega) (Or.inr (Or.inl ⟨by decide, by omega⟩)) ?_
          refine J.il5 dX4_repeatedItem_90 ?_
          refine cl_X4_111 rfl (kt_rd (d := d) (by omega)).2.1 (k' := 0) (n' := 0) (c_toPower _ (kt_rd (by omega)).2.1 (kt_rd (d := d + 1) (by omega)).1 (by omega) (PermR.eq hR2₉ (by rw [wr_o (by omega), wr_o (by omega)])) (by omega)) (roomR (by omega) (by omega)) rfl dX4_repeatedItem_92 (fun μ4 ⟨h4₉, hO4₉⟩ => ?_)
          refine J.il4 dX4_repeatedItem_95 ?_
          refine J.il5 dX4_repeatedItem_97 ?_
          refine J.imulN dX4_repeatedItem_99 ?_
          obtain rfl : r = .inr (q1₉ + 2, f1 * w, iter F1 w) := by rw [← hr0₉]; exact pRep_4 k1₉ c49₉ k2₉
          refine J.iret rfl (Nat.zero_le _) (Nat.zero_le _) dX4_repeatedItem_100 ⟨_, rfl, ?_, ?_⟩
          · rfl
          · exact ⟨(congrFun (hO4₉ 193 (by omega)) 1).trans wr_s, h4₉, RdF.off hO4₉ hW2₉.wr.wr (by omega)⟩
      · refine J.iconst (v := -1) dX4_repeatedItem_52 (by decide) ?_
        obtain rfl : r = .inl q1₉ := by rw [← hr0₉]; exact pRep_2 k1₉ c49₉
        refine J.iret rfl (Nat.zero_le _) (Nat.zero_le _) dX4_repeatedItem_53 ⟨_, rfl, ?_, ?_⟩
        · rfl
        · exact ⟨hP2₉, trivial, hW2₉⟩
  · refine J.iconst (v := -1) dX4_repeatedItem_8 (by decide) ?_
    obtain rfl : n = 0 := by omega
    obtain rfl : r = .inl p := by rw [← hr0₉]; exact pRep_1 rfl
    refine J.iret rfl (Nat.zero_le _) (Nat.zero_le _) dX4_repeatedItem_9 ⟨_, rfl, ?_, ?_⟩
    · rfl
    · exact ⟨hp₉, trivial, RdF.rf⟩
