/-! ===== printed: the reader of sequences ===== -/
set_option maxRecDepth 100000 in
set_option maxHeartbeats 4000000 in
theorem c_commutedItem {g : GP} {adr : Nat → Nat} (μ : Mem) {t : Nat → Nat} {x p d n : Nat} {σ : AS} {r : PRes} (hT₉ : SgT μ 194 x t) (hx₉ : x ≤ 60) (hC₉ : CS μ 1 σ) (hp₉ : μ 193 1 = nI p) (hpx₉ : p ≤ x) (hpl₉ : p < x) (hdn₉ : d + n = 4) (hin₉ : SeqOK g adr t x σ n (d + 1)) (hr0₉ : pCom t x (pSq t x σ n) p = r) : CT g yX4_commutedItem mX4_commutedItem (RM (3 * n + 2) 0 0) (WM g adr μ) [.ref (adr 193), .int (nI d), .ref (adr 1), .ref (adr (203 + 6 * d))] (PM g adr ((.inl (some (.int (pVal r))))) (fun μ' => RdP μ' μ (203 + 6 * d) (203 + 6 * d + 1) r)) := by
  refine CT.of (l0 := [some (.ref (adr 193)), some (.int (nI d)), some (.ref (adr 1)), some (.ref (adr (203 + 6 * d))), none, none]) (by decide +kernel) rfl (Nat.le_of_ble_eq_true rfl) rfl ?_
  refine J.il1 dX4_commutedItem_0 ?_
  refine J.iconst dX4_commutedItem_1 kI_4 ?_
  refine cl_X4_51 rfl (k' := 0) (n' := 0) (c_isIndex _ (by omega) (by decide)) (roomR (by omega) (by omega)) rfl dX4_commutedItem_2 (fun μ9 h9₉ => ?_)
  rw [h9₉]; clear h9₉
  refine J.if_neB (tgt := 10) dX4_commutedItem_5 (by decide) (fun c5₉ => ?_) (fun c5₉ => ?_)
  · refine J.al0 dX4_commutedItem_10 ?_
    refine J.dup dX4_commutedItem_11 rfl ?_
    refine gf_X4_18 rfl (x := nI p) (by decide) hp₉ dX4_commutedItem_12 ?_
    refine J.iconst dX4_commutedItem_15 kI_1 ?_
    refine J.iaddN dX4_commutedItem_16 ?_
    refine pf_X4_18 rfl (by decide) dX4_commutedItem_17 ?_
    refine J.al0 dX4_commutedItem_20 ?_
    refine J.il1 dX4_commutedItem_21 ?_
    refine J.iconst dX4_commutedItem_22 kI_1 ?_
    refine J.iaddN dX4_commutedItem_23 ?_
    refine J.al2 dX4_commutedItem_24 ?_
    rcases k1₉ : pSq t x σ n (p + 1) with e1 | ⟨q1₉, f1, F1⟩
    · refine cl_X4_39 rfl (by decide) (k' := 0) (n' := 0) (hin₉ _ _ (hT₉.rdf (b := 231) RdF.rf.wr (by decide)) (hC₉.rdf (b := 231) RdF.rf.wr (by decide)) wr_s (by omega) (by omega) _ k1₉) (roomR (by omega) (by omega)) rfl dX4_commutedItem_25 (fun μ2 ⟨hP2₉, _, hF2₉⟩ => ?_)
      have hW2₉ := (hF2₉.trans (RdF.rf (b := 231)).wr (b := 203 + 6 * d) (by omega) (by omega))
      refine J.is4 dX4_commutedItem_28 (by decide) rfl ?_
      refine J.il4 dX4_commutedItem_30 ?_
      refine J.iconst (v := -1) dX4_commutedItem_32 (by decide) ?_
      refine J.icmp_eqV (tgt := 52) dX4_commutedItem_33 (by decide) ?_
      refine J.iconst (v := -1) dX4_commutedItem_52 (by decide) ?_
      obtain rfl : r = .inl e1 := by rw [← hr0₉]; exact pCom_1 k1₉
      refine J.iret rfl (Nat.zero_le _) (Nat.zero_le _) dX4_commutedItem_53 ⟨_, rfl, ?_, ?_⟩
      · rfl
      · exact ⟨hP2₉, trivial, hW2₉⟩
    · refine cl_X4_39 rfl (by decide) (k' := 0) (n' := 0) (hin₉ _ _ (hT₉.rdf (b := 231) RdF.rf.wr (by decide)) (hC₉.rdf (b := 231) RdF.rf.wr (by decide)) wr_s (by omega) (by omega) _ k1₉) (roomR (by omega) (by omega)) rfl dX4_commutedItem_25 (fun μ2 ⟨hP2₉, hR2₉, hF2₉⟩ => ?_)
      have hW2₉ := (hF2₉.trans (RdF.rf (b := 231)).wr (b := 203 + 6 * d) (by omega) (by omega))
      have hT2₉ := (hT₉.rdf (b := 231) RdF.rf.wr (by decide)).rdf hF2₉ (by omega)
      have hC2₉ := (hC₉.rdf (b := 231) RdF.rf.wr (by decide)).rdf hF2₉ (by omega)
      obtain ⟨u21, u22, u23, u24⟩ := pSq_few hC₉.sh hx₉ (by omega) (by omega) k1₉
      refine J.is4 dX4_commutedItem_28 (by decide) rfl ?_
      refine J.il4 dX4_commutedItem_30 ?_
      refine J.iconst (v := -1) dX4_commutedItem_32 (by decide) ?_
      refine J.icmp_eqW (by omega) (tgt := 52) dX4_commutedItem_33 (by decide) ?_
      refine J.al0 dX4_commutedItem_36 ?_
      refine gf_X4_12 rfl (o2 := 194) (by decide) rfl dX4_commutedItem_37 ?_
      refine J.al0 dX4_commutedItem_40 ?_
      refine gf_X4_18 rfl (x := nI q1₉) (by decide) hP2₉ dX4_commutedItem_41 ?_
      refine cl_X4_47 rfl (by decide) (k' := 0) (n' := 0) (signAtI _ (by decide) hT2₉ (by omega) (by omega)) (roomR (by omega) (by omega)) rfl dX4_commutedItem_44 (fun μ9 h9₉ => ?_)
      rw [h9₉]; clear h9₉
      refine J.bipush dX4_commutedItem_47 kb_44 ?_
      refine J.icmp_eqS (tgt := 54) (fun k hk₉ => (hT₉.2 k hk₉).2) (by decide) dX4_commutedItem_49 (by decide) (fun c49₉ => ?_) (fun c49₉ => ?_)
      · have g46 := hr_one.mp c49₉
        refine J.al0 dX4_commutedItem_54 ?_
        refine J.dup dX4_commutedItem_55 rfl ?_
        refine gf_X4_18 rfl (x := nI q1₉) (by decide) hP2₉ dX4_commutedItem_56 ?_
        refine J.iconst dX4_commutedItem_59 kI_1 ?_
        refine J.iaddN dX4_commutedItem_60 ?_
        refine pf_X4_18 rfl (by decide) dX4_commutedItem_61 ?_
        refine J.al0 dX4_commutedItem_64 ?_
        refine gf_X4_31 rfl (o2 := 198) (by decide) rfl dX4_commutedItem_65 ?_
        refine J.il1 dX4_commutedItem_68 ?_
        refine J.aaldP (a := 205 + 6 * d) dX4_commutedItem_69 (by omega) (Or.inr (Or.inr (Or.inr ⟨by decide, by omega⟩))) ?_
        refine J.al0 dX4_commutedItem_70 ?_
        refine gf_X4_24 rfl (o2 := 196) (by decide) rfl dX4_commutedItem_71 ?_
        refine J.il1 dX4_commutedItem_74 ?_
        refine J.iconst dX4_commutedItem_75 kI_1 ?_
        refine J.iaddN dX4_commutedItem_76 ?_
        refine J.aaldP (a := 201 + 6 * (d + 1)) dX4_commutedItem_77 (by omega) (Or.inr (Or.inl ⟨by decide, by omega⟩)) ?_
        refine cl_X4_87 rfl (kt_rd (d := d) (by omega)).2.2 (k' := 0) (n' := 0) (c_toCopy _ (kt_rd (by omega)).2.2 (kt_rd (d := d + 1) (by omega)).1 (by omega) (PermR.eq hR2₉ (by rw [wr_o (by omega)]))) (roomR (by omega) (by omega)) rfl dX4_commutedItem_78 (fun μ3 ⟨h3₉, hO3₉⟩ => ?_)
        have hW3₉ := RdF.off hO3₉ hW2₉.wr (by omega)
        have hT3₉ := hT₉.rdf hW3₉ (by omega)
        have hC3₉ := hC₉.rdf hW3₉ (by omega)
        have hP3₉ : μ3 193 1 = nI (q1₉ + 1) := (congrFun (hO3₉ 193 (by omega)) 1).trans wr_s
        refine J.al0 dX4_commutedItem_81 ?_
        refine J.il1 dX4_commutedItem_82 ?_
        refine J.iconst dX4_commutedItem_83 kI_1 ?_
        refine J.iaddN dX4_commutedItem_84 ?_
        refine J.al2 dX4_commutedItem_85 ?_
        rcases k2₉ : pSq t x σ n (q1₉ + 1) with e2 | ⟨q2₉, f2, F2⟩
        · refine cl_X4_39 rfl (by decide) (k' := 0) (n' := 0) (hin₉ _ _ hT3₉ hC3₉ hP3₉ (by omega) (by omega) _ k2₉) (roomR (by omega) (by omega)) rfl dX4_commutedItem_86 (fun μ5 ⟨hP5₉, _, hF5₉⟩ => ?_)
          have hW5₉ := (hF5₉.trans hW3₉ (b := 203 + 6 * d) (by omega) (by omega))
          refine J.is5 dX4_commutedItem_89 (by decide) rfl ?_
          refine J.il5 dX4_commutedItem_91 ?_
          refine J.iconst (v := -1) dX4_commutedItem_93 (by decide) ?_
          refine J.icmp_eqV (tgt := 113) dX4_commutedItem_94 (by decide) ?_
          refine J.iconst (v := -1) dX4_commutedItem_113 (by decide) ?_
          obtain rfl : r = .inl e2 := by rw [← hr0₉]; exact pCom_3 k1₉ c49₉ k2₉
          refine J.iret rfl (Nat.zero_le _) (Nat.zero_le _) dX4_commutedItem_114 ⟨_, rfl, ?_, ?_⟩
          · rfl
          · exact ⟨hP5₉, trivial, hW5₉⟩
        · refine cl_X4_39 rfl (by decide) (k' := 0) (n' := 0) (hin₉ _ _ hT3₉ hC3₉ hP3₉ (by omega) (by omega) _ k2₉) (roomR (by omega) (by omega)) rfl dX4_commutedItem_86 (fun μ5 ⟨hP5₉, hR5₉, hF5₉⟩ => ?_)
          have hW5₉ := (hF5₉.trans hW3₉ (b := 203 + 6 * d) (by omega) (by omega))
          have hT5₉ := hT3₉.rdf hF5₉ (by omega)
          have hC5₉ := hC3₉.rdf hF5₉ (by omega)
          obtain ⟨u51, u52, u53, u54⟩ := pSq_few hC₉.sh hx₉ (by omega) (by omega) k2₉
          refine J.is5 dX4_commutedItem_89 (by decide) rfl ?_
          refine J.il5 dX4_commutedItem_91 ?_
          refine J.iconst (v := -1) dX4_commutedItem_93 (by decide) ?_
          refine J.icmp_eqW (by omega) (tgt := 113) dX4_commutedItem_94 (by decide) ?_
          refine J.al0 dX4_commutedItem_97 ?_
          refine gf_X4_12 rfl (o2 := 194) (by decide) rfl dX4_commutedItem_98 ?_
          refine J.al0 dX4_commutedItem_101 ?_
          refine gf_X4_18 rfl (x := nI q2₉) (by decide) hP5₉ dX4_commutedItem_102 ?_
          refine cl_X4_47 rfl (by decide) (k' := 0) (n' := 0) (signAtI _ (by decide) hT5₉ (by omega) (by omega)) (roomR (by omega) (by omega)) rfl dX4_commutedItem_105 (fun μ9 h9₉ => ?_)
          rw [h9₉]; clear h9₉
          refine J.bipush dX4_commutedItem_108 kb_93 ?_
          refine J.icmp_eqS (tgt := 115) (fun k hk₉ => (hT₉.2 k hk₉).2) (by decide) dX4_commutedItem_110 (by decide) (fun c110₉ => ?_) (fun c110₉ => ?_)
          · have g107 := hr_one.mp c110₉
            refine J.al0 dX4_commutedItem_115 ?_
            refine J.dup dX4_commutedItem_116 rfl ?_
            refine gf_X4_18 rfl (x := nI q2₉) (by decide) hP5₉ dX4_commutedItem_117 ?_
            refine J.iconst dX4_commutedItem_120 kI_1 ?_
            refine J.iaddN dX4_commutedItem_121 ?_
            refine pf_X4_18 rfl (by decide) dX4_commutedItem_122 ?_
            refine J.al3 dX4_commutedItem_125 ?_
            refine J.al0 dX4_commutedItem_126 ?_
            refine gf_X4_31 rfl (o2 := 198) (by decide) rfl dX4_commutedItem_127 ?_
            refine J.il1 dX4_commutedItem_130 ?_
            refine J.aaldP (a := 205 + 6 * d) dX4_commutedItem_131 (by omega) (Or.inr (Or.inr (Or.inr ⟨by decide, by omega⟩))) ?_
            refine J.al0 dX4_commutedItem_132 ?_
            refine gf_X4_24 rfl (o2 := 196) (by decide) rfl dX4_commutedItem_133 ?_
            refine J.il1 dX4_commutedItem_136 ?_
            refine J.iconst dX4_commutedItem_137 kI_1 ?_
            refine J.iaddN dX4_commutedItem_138 ?_
            refine J.aaldP (a := 201 + 6 * (d + 1)) dX4_commutedItem_139 (by omega) (Or.inr (Or.inl ⟨by decide, by omega⟩)) ?_
            refine J.al0 dX4_commutedItem_140 ?_
            refine gf_X4_35 rfl (o2 := 199) (by decide) rfl dX4_commutedItem_141 ?_
            refine cl_X4_115 rfl (kt_rd (d := d) (by omega)).2.1 (k' := 0) (n' := 0) (c_toCommuted _ (kt_rd (by omega)).2.1 (kt_rd (by omega)).2.2 (kt_rd (d := d + 1) (by omega)).1 (by decide) (by omega) (by omega) (by omega) (by omega) (by omega) (PermR.eq (PermR.rdf h3₉ hF5₉ (by omega) (by omega)) (by rw [wr_o (by omega)])) (PermR.eq hR5₉ (by rw [wr_o (by omega)])) u23 u53) (roomR (by omega) (by omega)) rfl dX4_commutedItem_144 (fun μ7 ⟨h7₉, hO7₉⟩ => ?_)
            refine J.iconst dX4_commutedItem_147 kI_2 ?_
            refine J.il4 dX4_commutedItem_148 ?_
            refine J.il5 dX4_commutedItem_150 ?_
            refine J.iaddN dX4_commutedItem_152 ?_
            refine J.imulN dX4_commutedItem_153 ?_
            obtain rfl : r = .inr (q2₉ + 1, 2 * (f1 + f2), comF F1 F2) := by rw [← hr0₉]; exact pCom_5 k1₉ c49₉ k2₉ c110₉
            refine J.iret rfl (Nat.zero_le _) (Nat.zero_le _) dX4_commutedItem_154 ⟨_, rfl, ?_, ?_⟩
            · rfl
            · exact ⟨(congrFun (hO7₉ 193 (by omega) (by omega)) 1).trans wr_s, h7₉, RdF.off2 hO7₉ hW5₉.wr (by omega)⟩
          · refine J.iconst (v := -1) dX4_commutedItem_113 (by decide) ?_
            obtain rfl : r = .inl q2₉ := by rw [← hr0₉]; exact pCom_4 k1₉ c49₉ k2₉ c110₉
            refine J.iret rfl (Nat.zero_le _) (Nat.zero_le _) dX4_commutedItem_114 ⟨_, rfl, ?_, ?_⟩
            · rfl
            · exact ⟨hP5₉, trivial, hW5₉⟩
      · refine J.iconst (v := -1) dX4_commutedItem_52 (by decide) ?_
        obtain rfl : r = .inl q1₉ := by rw [← hr0₉]; exact pCom_2 k1₉ c49₉
        refine J.iret rfl (Nat.zero_le _) (Nat.zero_le _) dX4_commutedItem_53 ⟨_, rfl, ?_, ?_⟩
        · rfl
        · exact ⟨hP2₉, trivial, hW2₉⟩
  · refine J.iconst (v := -1) dX4_commutedItem_8 (by decide) ?_
    obtain rfl : n = 0 := by omega
    obtain rfl : r = .inl p := by rw [← hr0₉]; exact pCom_1 rfl
    refine J.iret rfl (Nat.zero_le _) (Nat.zero_le _) dX4_commutedItem_9 ⟨_, rfl, ?_, ?_⟩
    · rfl
    · exact ⟨hp₉, trivial, RdF.rf⟩

set_option maxRecDepth 100000 in
set_option maxHeartbeats 4000000 in
theorem c_item {g : GP} {adr : Nat → Nat} (μ : Mem) {t : Nat → Nat} {x p d n : Nat} {σ : AS} {r : PRes} (hT₉ : SgT μ 194 x t) (hx₉ : x ≤ 60) (hC₉ : CS μ 1 σ) (hp₉ : μ 193 1 = nI p) (hpx₉ : p ≤ x) (hdn₉ : d + n = 4) (hin₉ : SeqOK g adr t x σ n (d + 1)) (hr0₉ : pIt t x σ (pSq t x σ n) p = r) : CT g yX4_item mX4_item (RM (3 * n + 3) 0 0) (WM g adr μ) [.ref (adr 193), .int (nI d), .ref (adr 1), .ref (adr (203 + 6 * d))] (PM g adr ((.inl (some (.int (pVal r))))) (fun μ' => RdP μ' μ (203 + 6 * d) (203 + 6 * d + 1) r)) := by
  refine CT.of (l0 := [some (.ref (adr 193)), some (.int (nI d)), some (.ref (adr 1)), some (.ref (adr (203 + 6 * d))), none]) (by decide +kernel) rfl (Nat.le_of_ble_eq_true rfl) rfl ?_
  refine J.iconst (v := -1) dX4_item_0 (by decide) ?_
  refine J.is4 dX4_item_1 (by decide) rfl ?_
  refine J.al0 dX4_item_3 ?_
  refine gf_X4_12 rfl (o2 := 194) (by decide) rfl dX4_item_4 ?_
  refine J.al0 dX4_item_7 ?_
  refine gf_X4_18 rfl (x := nI p) (by decide) hp₉ dX4_item_8 ?_
  refine cl_X4_47 rfl (by decide) (k' := 0) (n' := 0) (signAtI _ (by decide) hT₉ (by omega) (by omega)) (roomR (by omega) (by omega)) rfl dX4_item_11 (fun μ9 h9₉ => ?_)
  rw [h9₉]; clear h9₉
  refine J.lookup5S (t0 := 121) (t1 := 97) (t2 := 109) (t3 := 75) (t4 := 64) (t5 := 86) (fun k hk₉ => (hT₉.2 k hk₉).2) dX4_item_14 (by decide) (by decide) (by decide) (by decide) (by decide) (by decide) (fun k21 => ?_) (fun k21 => ?_) (fun k21 => ?_) (fun k21 => ?_) (fun k21 => ?_) (fun k21 => ?_)
  · refine J.al0 dX4_item_97 ?_
    refine J.il1 dX4_item_98 ?_
    refine J.al2 dX4_item_99 ?_
    refine J.al3 dX4_item_100 ?_
    have gl := (hr_one.mp k21).1
    rcases k1₉ : pRep t x (pSq t x σ n) p with e1 | ⟨q1₉, f1, F1⟩
    · refine cl_X4_78 rfl (by decide) (k' := 0) (n' := 0) (c_repeatedItem _ hT₉ hx₉ hC₉ hp₉ hpx₉ (by omega) hdn₉ hin₉ k1₉) (roomR (by omega) (by omega)) rfl dX4_item_101 (fun μ2 ⟨hP2₉, _, hF2₉⟩ => ?_)
      refine J.is4 dX4_item_104 (by decide) rfl ?_
      refine J.goto (tgt := 123) dX4_item_106 (by decide) ?_
      refine J.il4 dX4_item_123 ?_
      refine J.iconst (v := -1) dX4_item_125 (by decide) ?_
      refine J.icmp_eqV (tgt := 171) dX4_item_126 (by decide) ?_
      refine J.il4 dX4_item_171 ?_
      obtain rfl : r = .inl e1 := by rw [← hr0₉]; exact pIt_e ((pItem_p k21).trans k1₉)
      refine J.iret rfl (Nat.zero_le _) (Nat.zero_le _) dX4_item_173 ⟨_, rfl, ?_, ?_⟩
      · rfl
      · exact ⟨hP2₉, trivial, hF2₉⟩
    · refine cl_X4_78 rfl (by decide) (k' := 0) (n' := 0) (c_repeatedItem _ hT₉ hx₉ hC₉ hp₉ hpx₉ (by omega) hdn₉ hin₉ k1₉) (roomR (by omega) (by omega)) rfl dX4_item_101 (fun μ2 ⟨hP2₉, hR2₉, hF2₉⟩ => ?_)
      have hT2₉ := hT₉.rdf hF2₉ (by omega)
      obtain ⟨u1, u2, u3, u4⟩ := pItem_few (n := n) hC₉.sh hx₉ (by omega) (by omega) ((pItem_p k21).trans k1₉)
      refine J.is4 dX4_item_104 (by decide) rfl ?_
      refine J.goto (tgt := 123) dX4_item_106 (by decide) ?_
      refine J.il4 dX4_item_123 ?_
      refine J.iconst (v := -1) dX4_item_125 (by decide) ?_
      refine J.icmp_eqW (by omega) (tgt := 171) dX4_item_126 (by decide) ?_
      refine J.al0 dX4_item_129 ?_
      refine gf_X4_12 rfl (o2 := 194) (by decide) rfl dX4_item_130 ?_
      refine J.al0 dX4_item_133 ?_
      refine gf_X4_18 rfl (x := nI q1₉) (by decide) hP2₉ dX4_item_134 ?_
      refine cl_X4_47 rfl (by decide) (k' := 0) (n' := 0) (signAtI _ (by decide) hT2₉ (by omega) (by omega)) (roomR (by omega) (by omega)) rfl dX4_item_137 (fun μ9 h9₉ => ?_)
      rw [h9₉]; clear h9₉
      refine J.bipush dX4_item_140 kb_39 ?_
      refine J.icmp_neS (tgt := 171) (fun k hk₉ => (hT₉.2 k hk₉).2) (by decide) dX4_item_142 (by decide) (fun c142₉ => ?_) (fun c142₉ => ?_)
      · refine J.il4 dX4_item_171 ?_
        obtain rfl : r = .inr (q1₉, f1, F1) := by rw [← hr0₉]; exact pIt_o ((pItem_p k21).trans k1₉) c142₉
        refine J.iret rfl (Nat.zero_le _) (Nat.zero_le _) dX4_item_173 ⟨_, rfl, ?_, ?_⟩
        · rfl
        · exact ⟨hP2₉, hR2₉, hF2₉⟩
      · refine J.al0 dX4_item_145 ?_
        refine J.dup dX4_item_146 rfl ?_
        refine gf_X4_18 rfl (x := nI q1₉) (by decide) hP2₉ dX4_item_147 ?_
        refine J.iconst dX4_item_150 kI_1 ?_
        refine J.iaddN dX4_item_151 ?_
        refine pf_X4_18 rfl (by decide) dX4_item_152 ?_
        refine J.al0 dX4_item_155 ?_
        refine gf_X4_35 rfl (o2 := 199) (by decide) rfl dX4_item_156 ?_
        refine J.al3 dX4_item_159 ?_
        refine cl_X4_84 rfl (by decide) (k' := 0) (n' := 0) (c_toInverse _ (by decide) (kt_rd (by omega)).2.1 (by omega) (PermR.eq hR2₉ (by rw [wr_o (by omega)])) u3) (roomR (by omega) (by omega)) rfl dX4_item_160 (fun μ5 ⟨h5₉, hO5₉⟩ => ?_)
        refine J.al3 dX4_item_163 ?_
        refine J.al0 dX4_item_164 ?_
        refine gf_X4_35 rfl (o2 := 199) (by decide) rfl dX4_item_165 ?_
        refine cl_X4_87 rfl (kt_rd (d := d) (by omega)).2.1 (k' := 0) (n' := 0) (c_toCopy _ (kt_rd (by omega)).2.1 (by decide) (by omega) h5₉) (roomR (by omega) (by omega)) rfl dX4_item_168 (fun μ6 ⟨h6₉, hO6₉⟩ => ?_)
        refine J.il4 dX4_item_171 ?_
        obtain rfl : r = .inr (q1₉ + 1, f1, pinv F1) := by rw [← hr0₉]; exact pIt_q ((pItem_p k21).trans k1₉) c142₉
        refine J.iret rfl (Nat.zero_le _) (Nat.zero_le _) dX4_item_173 ⟨_, rfl, ?_, ?_⟩
        · rfl
        · exact ⟨(congrFun (hO6₉ 193 (by omega)) 1).trans ((congrFun (hO5₉ 193 (by omega)) 1).trans wr_s), h6₉, RdF.off hO6₉ (RdF.off hO5₉ hF2₉.wr (by omega)) (by omega)⟩
  · refine J.al0 dX4_item_109 ?_
    refine J.il1 dX4_item_110 ?_
    refine J.al2 dX4_item_111 ?_
    refine J.al3 dX4_item_112 ?_
    have gl := (hr_one.mp k21).1
    rcases k1₉ : pCom t x (pSq t x σ n) p with e1 | ⟨q1₉, f1, F1⟩
    · refine cl_X4_81 rfl (by decide) (k' := 0) (n' := 0) (c_commutedItem _ hT₉ hx₉ hC₉ hp₉ hpx₉ (by omega) hdn₉ hin₉ k1₉) (roomR (by omega) (by omega)) rfl dX4_item_113 (fun μ2 ⟨hP2₉, _, hF2₉⟩ => ?_)
      refine J.is4 dX4_item_116 (by decide) rfl ?_
      refine J.goto (tgt := 123) dX4_item_118 (by decide) ?_
      refine J.il4 dX4_item_123 ?_
      refine J.iconst (v := -1) dX4_item_125 (by decide) ?_
      refine J.icmp_eqV (tgt := 171) dX4_item_126 (by decide) ?_
      refine J.il4 dX4_item_171 ?_
      obtain rfl : r = .inl e1 := by rw [← hr0₉]; exact pIt_e ((pItem_b k21).trans k1₉)
      refine J.iret rfl (Nat.zero_le _) (Nat.zero_le _) dX4_item_173 ⟨_, rfl, ?_, ?_⟩
      · rfl
      · exact ⟨hP2₉, trivial, hF2₉⟩
    · refine cl_X4_81 rfl (by decide) (k' := 0) (n' := 0) (c_commutedItem _ hT₉ hx₉ hC₉ hp₉ hpx₉ (by omega) hdn₉ hin₉ k1₉) (roomR (by omega) (by omega)) rfl dX4_item_113 (fun μ2 ⟨hP2₉, hR2₉, hF2₉⟩ => ?_)
      have hT2₉ := hT₉.rdf hF2₉ (by omega)
      obtain ⟨u1, u2, u3, u4⟩ := pItem_few (n := n) hC₉.sh hx₉ (by omega) (by omega) ((pItem_b k21).trans k1₉)
      refine J.is4 dX4_item_116 (by decide) rfl ?_
      refine J.goto (tgt := 123) dX4_item_118 (by decide) ?_
      refine J.il4 dX4_item_123 ?_
      refine J.iconst (v := -1) dX4_item_125 (by decide) ?_
      refine J.icmp_eqW (by omega) (tgt := 171) dX4_item_126 (by decide) ?_
      refine J.al0 dX4_item_129 ?_
      refine gf_X4_12 rfl (o2 := 194) (by decide) rfl dX4_item_130 ?_
      refine J.al0 dX4_item_133 ?_
      refine gf_X4_18 rfl (x := nI q1₉) (by decide) hP2₉ dX4_item_134 ?_
      refine cl_X4_47 rfl (by decide) (k' := 0) (n' := 0) (signAtI _ (by decide) hT2₉ (by omega) (by omega)) (roomR (by omega) (by omega)) rfl dX4_item_137 (fun μ9 h9₉ => ?_)
      rw [h9₉]; clear h9₉
      refine J.bipush dX4_item_140 kb_39 ?_
      refine J.icmp_neS (tgt := 171) (fun k hk₉ => (hT₉.2 k hk₉).2) (by decide) dX4_item_142 (by decide) (fun c142₉ => ?_) (fun c142₉ => ?_)
      · refine J.il4 dX4_item_171 ?_
        obtain rfl : r = .inr (q1₉, f1, F1) := by rw [← hr0₉]; exact pIt_o ((pItem_b k21).trans k1₉) c142₉
        refine J.iret rfl (Nat.zero_le _) (Nat.zero_le _) dX4_item_173 ⟨_, rfl, ?_, ?_⟩
        · rfl
        · exact ⟨hP2₉, hR2₉, hF2₉⟩
      · refine J.al0 dX4_item_145 ?_
        refine J.dup dX4_item_146 rfl ?_
        refine gf_X4_18 rfl (x := nI q1₉) (by decide) hP2₉ dX4_item_147 ?_
        refine J.iconst dX4_item_150 kI_1 ?_
        refine J.iaddN dX4_item_151 ?_
        refine pf_X4_18 rfl (by decide) dX4_item_152 ?_
        refine J.al0 dX4_item_155 ?_
        refine gf_X4_35 rfl (o2 := 199) (by decide) rfl dX4_item_156 ?_
        refine J.al3 dX4_item_159 ?_
        refine cl_X4_84 rfl (by decide) (k' := 0) (n' := 0) (c_toInverse _ (by decide) (kt_rd (by omega)).2.1 (by omega) (PermR.eq hR2₉ (by rw [wr_o (by omega)])) u3) (roomR (by omega) (by omega)) rfl dX4_item_160 (fun μ5 ⟨h5₉, hO5₉⟩ => ?_)
        refine J.al3 dX4_item_163 ?_
        refine J.al0 dX4_item_164 ?_
        refine gf_X4_35 rfl (o2 := 199) (by decide) rfl dX4_item_165 ?_
        refine cl_X4_87 rfl (kt_rd (d := d) (by omega)).2.1 (k' := 0) (n' := 0) (c_toCopy _ (kt_rd (by omega)).2.1 (by decide) (by omega) h5₉) (roomR (by omega) (by omega)) rfl dX4_item_168 (fun μ6 ⟨h6₉, hO6₉⟩ => ?_)
        refine J.il4 dX4_item_171 ?_
        obtain rfl : r = .inr (q1₉ + 1, f1, pinv F1) := by rw [← hr0₉]; exact pIt_q ((pItem_b k21).trans k1₉) c142₉
        refine J.iret rfl (Nat.zero_le _) (Nat.zero_le _) dX4_item_173 ⟨_, rfl, ?_, ?_⟩
        · rfl
        · exact ⟨(congrFun (hO6₉ 193 (by omega)) 1).trans ((congrFun (hO5₉ 193 (by omega)) 1).trans wr_s), h6₉, RdF.off hO6₉ (RdF.off hO5₉ hF2₉.wr (by omega)) (by omega)⟩
  · refine J.al0 dX4_item_75 ?_
    refine J.iconst dX4_item_76 kI_1 ?_
    refine J.al3 dX4_item_77 ?_
    have gl := (hr_one.mp k21).1
    rcases k1₉ : pMove t x 1 p with e1 | ⟨q1₉, f1, F1⟩
    · refine cl_X4_70 rfl (by decide) (k' := 0) (n' := 0) (c_moveItem1 _ hT₉ hx₉ hp₉ (by omega) (by omega) k1₉) (roomR (by omega) (by omega)) rfl dX4_item_78 (fun μ2 ⟨hP2₉, _, hF2₉⟩ => ?_)
      refine J.is4 dX4_item_81 (by decide) rfl ?_
      refine J.goto (tgt := 123) dX4_item_83 (by decide) ?_
      refine J.il4 dX4_item_123 ?_
      refine J.iconst (v := -1) dX4_item_125 (by decide) ?_
      refine J.icmp_eqV (tgt := 171) dX4_item_126 (by decide) ?_
      refine J.il4 dX4_item_171 ?_
      obtain rfl : r = .inl e1 := by rw [← hr0₉]; exact pIt_e ((pItem_c k21).trans k1₉)
      refine J.iret rfl (Nat.zero_le _) (Nat.zero_le _) dX4_item_173 ⟨_, rfl, ?_, ?_⟩
      · rfl
      · exact ⟨hP2₉, trivial, hF2₉⟩
    · refine cl_X4_70 rfl (by decide) (k' := 0) (n' := 0) (c_moveItem1 _ hT₉ hx₉ hp₉ (by omega) (by omega) k1₉) (roomR (by omega) (by omega)) rfl dX4_item_78 (fun μ2 ⟨hP2₉, hR2₉, hF2₉⟩ => ?_)
      have hT2₉ := hT₉.rdf hF2₉ (by omega)
      obtain ⟨u1, u2, u3, u4⟩ := pItem_few (n := n) hC₉.sh hx₉ (by omega) (by omega) ((pItem_c k21).trans k1₉)
      refine J.is4 dX4_item_81 (by decide) rfl ?_
      refine J.goto (tgt := 123) dX4_item_83 (by decide) ?_
      refine J.il4 dX4_item_123 ?_
      refine J.iconst (v := -1) dX4_item_125 (by decide) ?_
      refine J.icmp_eqW (by omega) (tgt := 171) dX4_item_126 (by decide) ?_
      refine J.al0 dX4_item_129 ?_
      refine gf_X4_12 rfl (o2 := 194) (by decide) rfl dX4_item_130 ?_
      refine J.al0 dX4_item_133 ?_
      refine gf_X4_18 rfl (x := nI q1₉) (by decide) hP2₉ dX4_item_134 ?_
      refine cl_X4_47 rfl (by decide) (k' := 0) (n' := 0) (signAtI _ (by decide) hT2₉ (by omega) (by omega)) (roomR (by omega) (by omega)) rfl dX4_item_137 (fun μ9 h9₉ => ?_)
      rw [h9₉]; clear h9₉
      refine J.bipush dX4_item_140 kb_39 ?_
      refine J.icmp_neS (tgt := 171) (fun k hk₉ => (hT₉.2 k hk₉).2) (by decide) dX4_item_142 (by decide) (fun c142₉ => ?_) (fun c142₉ => ?_)
      · refine J.il4 dX4_item_171 ?_
        obtain rfl : r = .inr (q1₉, f1, F1) := by rw [← hr0₉]; exact pIt_o ((pItem_c k21).trans k1₉) c142₉
        refine J.iret rfl (Nat.zero_le _) (Nat.zero_le _) dX4_item_173 ⟨_, rfl, ?_, ?_⟩
        · rfl
        · exact ⟨hP2₉, hR2₉, hF2₉⟩
      · refine J.al0 dX4_item_145 ?_
        refine J.dup dX4_item_146 rfl ?_
        refine gf_X4_18 rfl (x := nI q1₉) (by decide) hP2₉ dX4_item_147 ?_
        refine J.iconst dX4_item_150 kI_1 ?_
        refine J.iaddN dX4_item_151 ?_
        refine pf_X4_18 rfl (by decide) dX4_item_152 ?_
        refine J.al0 dX4_item_155 ?_
        refine gf_X4_35 rfl (o2 := 199) (by decide) rfl dX4_item_156 ?_
        refine J.al3 dX4_item_159 ?_
        refine cl_X4_84 rfl (by decide) (k' := 0) (n' := 0) (c_toInverse _ (by decide) (kt_rd (by omega)).2.1 (by omega) (PermR.eq hR2₉ (by rw [wr_o (by omega)])) u3) (roomR (by omega) (by omega)) rfl dX4_item_160 (fun μ5 ⟨h5₉, hO5₉⟩ => ?_)
        refine J.al3 dX4_item_163 ?_
        refine J.al0 dX4_item_164 ?_
        refine gf_X4_35 rfl (o2 := 199) (by decide) rfl dX4_item_165 ?_
        refine cl_X4_87 rfl (kt_rd (d := d) (by omega)).2.1 (k' := 0) (n' := 0) (c_toCopy _ (kt_rd (by omega)).2.1 (by decide) (by omega) h5₉) (roomR (by omega) (by omega)) rfl dX4_item_168 (fun μ6 ⟨h6₉, hO6₉⟩ => ?_)
        refine J.il4 dX4_item_171 ?_
        obtain rfl : r = .inr (q1₉ + 1, f1, pinv F1) := by rw [← hr0₉]; exact pIt_q ((pItem_c k21).trans k1₉) c142₉
        refine J.iret rfl (Nat.zero_le _) (Nat.zero_le _) dX4_item_173 ⟨_, rfl, ?_, ?_⟩
        · rfl
        · exact ⟨(congrFun (hO6₉ 193 (by omega)) 1).trans ((congrFun (hO5₉ 193 (by omega)) 1).trans wr_s), h6₉, RdF.off hO6₉ (RdF.off hO5₉ hF2₉.wr (by omega)) (by omega)⟩
  · refine J.al0 dX4_item_64 ?_
    refine J.iconst dX4_item_65 kI_0 ?_
    refine J.al3 dX4_item_66 ?_
    have gl := (hr_one.mp k21).1
    rcases k1₉ : pMove t x 0 p with e1 | ⟨q1₉, f1, F1⟩
    · refine cl_X4_70 rfl (by decide) (k' := 0) (n' := 0) (c_moveItem0 _ hT₉ hx₉ hp₉ (by omega) (by omega) k1₉) (roomR (by omega) (by omega)) rfl dX4_item_67 (fun μ2 ⟨hP2₉, _, hF2₉⟩ => ?_)
      refine J.is4 dX4_item_70 (by decide) rfl ?_
      refine J.goto (tgt := 123) dX4_item_72 (by decide) ?_
      refine J.il4 dX4_item_123 ?_
      refine J.iconst (v := -1) dX4_item_125 (by decide) ?_
      refine J.icmp_eqV (tgt := 171) dX4_item_126 (by decide) ?_
      refine J.il4 dX4_item_171 ?_
      obtain rfl : r = .inl e1 := by rw [← hr0₉]; exact pIt_e ((pItem_r k21).trans k1₉)
      refine J.iret rfl (Nat.zero_le _) (Nat.zero_le _) dX4_item_173 ⟨_, rfl, ?_, ?_⟩
      · rfl
      · exact ⟨hP2₉, trivial, hF2₉⟩
    · refine cl_X4_70 rfl (by decide) (k' := 0) (n' := 0) (c_moveItem0 _ hT₉ hx₉ hp₉ (by omega) (by omega) k1₉) (roomR (by omega) (by omega)) rfl dX4_item_67 (fun μ2 ⟨hP2₉, hR2₉, hF2₉⟩ => ?_)
      have hT2₉ := hT₉.rdf hF2₉ (by omega)
      obtain ⟨u1, u2, u3, u4⟩ := pItem_few (n := n) hC₉.sh hx₉ (by omega) (by omega) ((pItem_r k21).trans k1₉)
      refine J.is4 dX4_item_70 (by decide) rfl ?_
      refine J.goto (tgt := 123) dX4_item_72 (by decide) ?_
      refine J.il4 dX4_item_123 ?_
      refine J.iconst (v := -1) dX4_item_125 (by decide) ?_
      refine J.icmp_eqW (by omega) (tgt := 171) dX4_item_126 (by decide) ?_
      refine J.al0 dX4_item_129 ?_
      refine gf_X4_12 rfl (o2 := 194) (by decide) rfl dX4_item_130 ?_
      refine J.al0 dX4_item_133 ?_
      refine gf_X4_18 rfl (x := nI q1₉) (by decide) hP2₉ dX4_item_134 ?_
      refine cl_X4_47 rfl (by decide) (k' := 0) (n' := 0) (signAtI _ (by decide) hT2₉ (by omega) (by omega)) (roomR (by omega) (by omega)) rfl dX4_item_137 (fun μ9 h9₉ => ?_)
      rw [h9₉]; clear h9₉
      refine J.bipush dX4_item_140 kb_39 ?_
      refine J.icmp_neS (tgt := 171) (fun k hk₉ => (hT₉.2 k hk₉).2) (by decide) dX4_item_142 (by decide) (fun c142₉ => ?_) (fun c142₉ => ?_)
      · refine J.il4 dX4_item_171 ?_
        obtain rfl : r = .inr (q1₉, f1, F1) := by rw [← hr0₉]; exact pIt_o ((pItem_r k21).trans k1₉) c142₉
        refine J.iret rfl (Nat.zero_le _) (Nat.zero_le _) dX4_item_173 ⟨_, rfl, ?_, ?_⟩
        · rfl
        · exact ⟨hP2₉, hR2₉, hF2₉⟩
      · refine J.al0 dX4_item_145 ?_
        refine J.dup dX4_item_146 rfl ?_
        refine gf_X4_18 rfl (x := nI q1₉) (by decide) hP2₉ dX4_item_147 ?_
        refine J.iconst dX4_item_150 kI_1 ?_
        refine J.iaddN dX4_item_151 ?_
        refine pf_X4_18 rfl (by decide) dX4_item_152 ?_
        refine J.al0 dX4_item_155 ?_
        refine gf_X4_35 rfl (o2 := 199) (by decide) rfl dX4_item_156 ?_
        refine J.al3 dX4_item_159 ?_
        refine cl_X4_84 rfl (by decide) (k' := 0) (n' := 0) (c_toInverse _ (by decide) (kt_rd (by omega)).2.1 (by omega) (PermR.eq hR2₉ (by rw [wr_o (by omega)])) u3) (roomR (by omega) (by omega)) rfl dX4_item_160 (fun μ5 ⟨h5₉, hO5₉⟩ => ?_)
        refine J.al3 dX4_item_163 ?_
        refine J.al0 dX4_item_164 ?_
        refine gf_X4_35 rfl (o2 := 199) (by decide) rfl dX4_item_165 ?_
        refine cl_X4_87 rfl (kt_rd (d := d) (by omega)).2.1 (k' := 0) (n' := 0) (c_toCopy _ (kt_rd (by omega)).2.1 (by decide) (by omega) h5₉) (roomR (by omega) (by omega)) rfl dX4_item_168 (fun μ6 ⟨h6₉, hO6₉⟩ => ?_)
        refine J.il4 dX4_item_171 ?_
        obtain rfl : r = .inr (q1₉ + 1, f1, pinv F1) := by rw [← hr0₉]; exact pIt_q ((pItem_r k21).trans k1₉) c142₉
        refine J.iret rfl (Nat.zero_le _) (Nat.zero_le _) dX4_item_173 ⟨_, rfl, ?_, ?_⟩
        · rfl
        · exact ⟨(congrFun (hO6₉ 193 (by omega)) 1).trans ((congrFun (hO5₉ 193 (by omega)) 1).trans wr_s), h6₉, RdF.off hO6₉ (RdF.off hO5₉ hF2₉.wr (by omega)) (by omega)⟩
  · refine J.al0 dX4_item_86 ?_
    refine J.al2 dX4_item_87 ?_
    refine J.al3 dX4_item_88 ?_
    have gl := (hr_one.mp k21).1
    rcases k1₉ : pShelf t x σ p with e1 | ⟨q1₉, f1, F1⟩
    · refine cl_X4_74 rfl (by decide) (k' := 0) (n' := 0) (c_shelfItem _ hT₉ hx₉ hC₉ hp₉ hpx₉ (by omega) (by omega) k1₉) (roomR (by omega) (by omega)) rfl dX4_item_89 (fun μ2 ⟨hP2₉, _, hF2₉⟩ => ?_)
      refine J.is4 dX4_item_92 (by decide) rfl ?_
      refine J.goto (tgt := 123) dX4_item_94 (by decide) ?_
      refine J.il4 dX4_item_123 ?_
      refine J.iconst (v := -1) dX4_item_125 (by decide) ?_
      refine J.icmp_eqV (tgt := 171) dX4_item_126 (by decide) ?_
      refine J.il4 dX4_item_171 ?_
      obtain rfl : r = .inl e1 := by rw [← hr0₉]; exact pIt_e ((pItem_s k21).trans k1₉)
      refine J.iret rfl (Nat.zero_le _) (Nat.zero_le _) dX4_item_173 ⟨_, rfl, ?_, ?_⟩
      · rfl
      · exact ⟨hP2₉, trivial, hF2₉⟩
    · refine cl_X4_74 rfl (by decide) (k' := 0) (n' := 0) (c_shelfItem _ hT₉ hx₉ hC₉ hp₉ hpx₉ (by omega) (by omega) k1₉) (roomR (by omega) (by omega)) rfl dX4_item_89 (fun μ2 ⟨hP2₉, hR2₉, hF2₉⟩ => ?_)
      have hT2₉ := hT₉.rdf hF2₉ (by omega)
      obtain ⟨u1, u2, u3, u4⟩ := pItem_few (n := n) hC₉.sh hx₉ (by omega) (by omega) ((pItem_s k21).trans k1₉)
      refine J.is4 dX4_item_92 (by decide) rfl ?_
      refine J.goto (tgt := 123) dX4_item_94 (by decide) ?_
      refine J.il4 dX4_item_123 ?_
      refine J.iconst (v := -1) dX4_item_125 (by decide) ?_
      refine J.icmp_eqW (by omega) (tgt := 171) dX4_item_126 (by decide) ?_
      refine J.al0 dX4_item_129 ?_
      refine gf_X4_12 rfl (o2 := 194) (by decide) rfl dX4_item_130 ?_
      refine J.al0 dX4_item_133 ?_
      refine gf_X4_18 rfl (x := nI q1₉) (by decide) hP2₉ dX4_item_134 ?_
      refine cl_X4_47 rfl (by decide) (k' := 0) (n' := 0) (signAtI _ (by decide) hT2₉ (by omega) (by omega)) (roomR (by omega) (by omega)) rfl dX4_item_137 (fun μ9 h9₉ => ?_)
      rw [h9₉]; clear h9₉
      refine J.bipush dX4_item_140 kb_39 ?_
      refine J.icmp_neS (tgt := 171) (fun k hk₉ => (hT₉.2 k hk₉).2) (by decide) dX4_item_142 (by decide) (fun c142₉ => ?_) (fun c142₉ => ?_)
      · refine J.il4 dX4_item_171 ?_
        obtain rfl : r = .inr (q1₉, f1, F1) := by rw [← hr0₉]; exact pIt_o ((pItem_s k21).trans k1₉) c142₉
        refine J.iret rfl (Nat.zero_le _) (Nat.zero_le _) dX4_item_173 ⟨_, rfl, ?_, ?_⟩
        · rfl
        · exact ⟨hP2₉, hR2₉, hF2₉⟩
      · refine J.al0 dX4_item_145 ?_
        refine J.dup dX4_item_146 rfl ?_
        refine gf_X4_18 rfl (x := nI q1₉) (by decide) hP2₉ dX4_item_147 ?_
        refine J.iconst dX4_item_150 kI_1 ?_
        refine J.iaddN dX4_item_151 ?_
        refine pf_X4_18 rfl (by decide) dX4_item_152 ?_
        refine J.al0 dX4_item_155 ?_
        refine gf_X4_35 rfl (o2 := 199) (by decide) rfl dX4_item_156 ?_
        refine J.al3 dX4_item_159 ?_
        refine cl_X4_84 rfl (by decide) (k' := 0) (n' := 0) (c_toInverse _ (by decide) (kt_rd (by omega)).2.1 (by omega) (PermR.eq hR2₉ (by rw [wr_o (by omega)])) u3) (roomR (by omega) (by omega)) rfl dX4_item_160 (fun μ5 ⟨h5₉, hO5₉⟩ => ?_)
        refine J.al3 dX4_item_163 ?_
        refine J.al0 dX4_item_164 ?_
        refine gf_X4_35 rfl (o2 := 199) (by decide) rfl dX4_item_165 ?_
        refine cl_X4_87 rfl (kt_rd (d := d) (by omega)).2.1 (k' := 0) (n' := 0) (c_toCopy _ (kt_rd (by omega)).2.1 (by decide) (by omega) h5₉) (roomR (by omega) (by omega)) rfl dX4_item_168 (fun μ6 ⟨h6₉, hO6₉⟩ => ?_)
        refine J.il4 dX4_item_171 ?_
        obtain rfl : r = .inr (q1₉ + 1, f1, pinv F1) := by rw [← hr0₉]; exact pIt_q ((pItem_s k21).trans k1₉) c142₉
        refine J.iret rfl (Nat.zero_le _) (Nat.zero_le _) dX4_item_173 ⟨_, rfl, ?_, ?_⟩
        · rfl
        · exact ⟨(congrFun (hO6₉ 193 (by omega)) 1).trans ((congrFun (hO5₉ 193 (by omega)) 1).trans wr_s), h6₉, RdF.off hO6₉ (RdF.off hO5₉ hF2₉.wr (by omega)) (by omega)⟩
  · refine J.iconst (v := -1) dX4_item_121 (by decide) ?_
    obtain rfl : r = .inl p := by rw [← hr0₉]; exact pItem_not k21
    refine J.iret rfl (Nat.zero_le _) (Nat.zero_le _) dX4_item_122 ⟨_, rfl, ?_, ?_⟩
    · rfl
    · exact ⟨hp₉, trivial, RdF.rf⟩

set_option maxRecDepth 100000 in
set_option maxHeartbeats 4000000 in
theorem c_sequence {g : GP} {adr : Nat → Nat} (μ : Mem) {t : Nat → Nat} {x p d n : Nat} {σ : AS} {r : PRes} (hT₉ : SgT μ 194 x t) (hx₉ : x ≤ 60) (hC₉ : CS μ 1 σ) (hp₉ : μ 193 1 = nI p) (hpx₉ : p ≤ x) (hdn₉ : d + n = 4) (hin₉ : SeqOK g adr t x σ n (d + 1)) (hr0₉ : pSeq t x (pIt t x σ (pSq t x σ n)) p = r) : CT g yX4_sequence mX4_sequence (RM (3 * (n + 1) + 1) 0 0) (WM g adr μ) [.ref (adr 193), .int (nI d), .ref (adr 1)] (PM g adr ((.inl (some (.int (pVal r))))) (fun μ' => RdP μ' μ (201 + 6 * d) (201 + 6 * d + 1) r)) := by
  refine CT.of (l0 := [some (.ref (adr 193)), some (.int (nI d)), some (.ref (adr 1)), none, none, none, none, none]) (by decide +kernel) rfl (Nat.le_of_ble_eq_true rfl) rfl ?_
  refine J.il1 dX4_sequence_0 ?_
  refine J.iconst dX4_sequence_1 kI_5 ?_
  refine cl_X4_51 rfl (k' := 0) (n' := 0) (isIndexT (by omega) (by omega)) (roomR (by omega) (by omega)) rfl dX4_sequence_2 (fun μ9 h9₉ => ?_)
  rw [h9₉]; clear h9₉
  refine J.if_neN (tgt := 10) dX4_sequence_5 (by decide) (by omega) (fun c5₉ => ?_) (fun c5₉ => absurd c5₉ (by first | omega | (simp only [not_true_eq_false, not_false_eq_true]; done) | (simp; done)))
  refine J.al0 dX4_sequence_10 ?_
  refine gf_X4_24 rfl (o2 := 196) (by decide) rfl dX4_sequence_11 ?_
  refine J.il1 dX4_sequence_14 ?_
  refine J.aaldP (a := 201 + 6 * d) dX4_sequence_15 (by omega) (Or.inr (Or.inl ⟨by decide, by omega⟩)) ?_
  refine J.as3 dX4_sequence_16 (by decide) rfl ?_
  refine J.al0 dX4_sequence_17 ?_
  refine gf_X4_28 rfl (o2 := 197) (by decide) rfl dX4_sequence_18 ?_
  refine J.il1 dX4_sequence_21 ?_
  refine J.aaldP (a := 203 + 6 * d) dX4_sequence_22 (by omega) (Or.inr (Or.inr (Or.inl ⟨by decide, by omega⟩))) ?_
  refine J.as4 dX4_sequence_23 (by decide) rfl ?_
  refine J.al3 dX4_sequence_25 ?_
  refine cl_X4_55 rfl (kt_rd (d := d) (by omega)).1 (k' := 0) (n' := 0) (c_toNothing _ (kt_rd (by omega)).1) (roomR (by omega) (by omega)) rfl dX4_sequence_26 (fun μ9 ⟨h9a, hO9₉⟩ => ?_)
  refine J.iconst dX4_sequence_29 kI_0 ?_
  refine J.is5 dX4_sequence_30 (by decide) rfl ?_
  refine J.iconst dX4_sequence_32 kI_0 ?_
  refine J.is6 dX4_sequence_33 (by decide) rfl ?_
  have lp35_1 : ∀ (fu : Nat) (i q c : Nat) (F : Nat → Nat) (μ1 : Mem), 60 < i + fu → i ≤ 60 → μ1 193 1 = nI q → PermR μ1 (201 + 6 * d + 1) F → RdF μ1 μ (201 + 6 * d) → p ≤ q → q ≤ x → SqI t x (pIt t x σ (pSq t x σ n)) p i q c F r → J g mX4_sequence (RM (3 * (n + 1) + 1) 0 0) (MQx g (RM (3 * (n + 1) + 1) 0 0) (PM g adr ((.inl (some (.int (pVal r))))) (fun μ' => RdP μ' μ (201 + 6 * d) (201 + 6 * d + 1) r))) 0 0 (WM g adr μ1) 35 [some (.ref (adr 193)), some (.int (nI d)), some (.ref (adr 1)), some (.ref (adr (201 + 6 * d))), some (.ref (adr (203 + 6 * d))), some (.int (nI c)), some (.int (nI i)), none] [] := by
    intro fu
    induction fu with
    | zero => intro i q c F μ1 h9₉ hi₉ hP₉ hR₉ hF₉ hpq₉ hqx₉ hL₉; exact absurd h9₉ (by omega)
    | succ fu ih35 =>
      intro i q c F μ1 h9₉ hi₉ hP₉ hR₉ hF₉ hpq₉ hqx₉ hL₉
      have hT1₉ := hT₉.rdf hF₉ (by omega)
      have hC1₉ := hC₉.rdf hF₉ (by omega)
      refine J.il6 dX4_sequence_35 ?_
      refine J.bipush dX4_sequence_37 kb_60 ?_
      refine J.icmp_geN (tgt := 91) dX4_sequence_39 (by decide) (by omega) (by omega) (fun c39₉ => ?_) (fun c39₉ => ?_)
      · refine J.il5 dX4_sequence_91 ?_
        obtain rfl : r = .inr (q, c, F) := by first | exact SqI.full hL₉ (by omega) | exact SqI.stop hL₉ (by omega) (by omega) c51₉
        refine J.iret rfl (Nat.zero_le _) (Nat.zero_le _) dX4_sequence_93 ⟨_, rfl, ?_, ?_⟩
        · rfl
        · exact ⟨hP₉, hR₉, hF₉⟩
      · refine J.il6 dX4_sequence_42 ?_
        refine J.if_eqN (tgt := 54) dX4_sequence_44 (by decide) (by omega) (fun c44₉ => ?_) (fun c44₉ => ?_)
        · refine J.al0 dX4_sequence_54 ?_
          refine J.il1 dX4_sequence_55 ?_
          refine J.al2 dX4_sequence_56 ?_
          refine J.al4 dX4_sequence_57 ?_
          have h0₉ : i = 0 ∨ isIt t x q = true := by first | exact Or.inl c44₉ | exact Or.inr c51₉
          rcases k1₉ : pIt t x σ (pSq t x σ n) q with e1 | ⟨q1₉, f1, F1⟩
          · refine cl_X4_62 rfl (by decide) (k' := 0) (n' := 0) (c_item _ hT1₉ hx₉ hC1₉ hP₉ hqx₉ hdn₉ hin₉ k1₉) (roomR (by omega) (by omega)) rfl dX4_sequence_59 (fun μ2 ⟨hP2₉, _, hF2₉⟩ => ?_)
            refine J.is7 dX4_sequence_62 (by decide) rfl ?_
            refine J.il7 dX4_sequence_64 ?_
            refine J.iconst (v := -1) dX4_sequence_66 (by decide) ?_
            refine J.icmp_neV (tgt := 72) dX4_sequence_67 (by decide) ?_
            refine J.iconst (v := -1) dX4_sequence_70 (by decide) ?_
            obtain rfl := SqI.wrong hL₉ (by omega) h0₉ k1₉
            refine J.iret rfl (Nat.zero_le _) (Nat.zero_le _) dX4_sequence_71 ⟨_, rfl, ?_, ?_⟩
            · rfl
            · exact ⟨hP2₉, trivial, hF2₉.trans hF₉ (by omega) (by omega)⟩
          · refine cl_X4_62 rfl (by decide) (k' := 0) (n' := 0) (c_item _ hT1₉ hx₉ hC1₉ hP₉ hqx₉ hdn₉ hin₉ k1₉) (roomR (by omega) (by omega)) rfl dX4_sequence_59 (fun μ2 ⟨hP2₉, hR2₉, hF2₉⟩ => ?_)
            obtain ⟨u1, u2, u3, u4⟩ := pIt_few hC1₉.sh hx₉ (by omega) hqx₉ k1₉
            refine J.is7 dX4_sequence_62 (by decide) rfl ?_
            refine J.il7 dX4_sequence_64 ?_
            refine J.iconst (v := -1) dX4_sequence_66 (by decide) ?_
            refine J.icmp_neW (by omega) (tgt := 72) dX4_sequence_67 (by decide) ?_
            refine J.il5 dX4_sequence_72 ?_
            refine J.il7 dX4_sequence_74 ?_
            refine J.iaddN dX4_sequence_76 ?_
            refine J.is5 dX4_sequence_77 (by decide) rfl ?_
            refine J.al3 dX4_sequence_79 ?_
            refine J.al4 dX4_sequence_80 ?_
            refine cl_X4_66 rfl (kt_rd (d := d) (by omega)).1 (k' := 0) (n' := 0) (c_then _ (kt_rd (by omega)).1 (kt_rd (by omega)).2.1 (by omega) (PermR.rdf hR₉ hF2₉ (by omega) (by omega)) hR2₉) (roomR (by omega) (by omega)) rfl dX4_sequence_82 (fun μ3 ⟨h3₉, hO3₉⟩ => ?_)
            refine J.ii6 (z := 1) dX4_sequence_85 (by decide) (by decide) rfl ?_
            refine J.goto (tgt := 35) dX4_sequence_88 (by decide) ?_
            exact J.subR (ih35 (i + 1) q1₉ (c + f1) (fun k => F1 (F k)) _ (by omega) (by omega) ((congrFun (hO3₉ 193 (by omega)) 1).trans hP2₉) h3₉ (RdF.off hO3₉ (hF2₉.trans hF₉ (by omega) (by omega)) (by omega)) (by omega) (by omega) (SqI.next hL₉ (by omega) h0₉ k1₉)) ⟨rfl, ⟨rfl, ⟨rfl, ⟨rfl, ⟨rfl, ⟨rfl, ⟨rfl, trivial⟩⟩⟩⟩⟩⟩⟩
        · refine J.al0 dX4_sequence_47 ?_
          refine cl_X4_58 rfl (by decide) (k' := 0) (n' := 0) (c_isItemNext _ hT1₉ hx₉ hP₉ hqx₉) (roomR (by omega) (by omega)) rfl dX4_sequence_48 (fun μ9 h9₉ => ?_)
          rw [h9₉]; clear h9₉
          refine J.if_eqB (tgt := 91) dX4_sequence_51 (by decide) (fun c51₉ => ?_) (fun c51₉ => ?_)
          · refine J.il5 dX4_sequence_91 ?_
            obtain rfl : r = .inr (q, c, F) := by first | exact SqI.full hL₉ (by omega) | exact SqI.stop hL₉ (by omega) (by omega) c51₉
            refine J.iret rfl (Nat.zero_le _) (Nat.zero_le _) dX4_sequence_93 ⟨_, rfl, ?_, ?_⟩
            · rfl
            · exact ⟨hP₉, hR₉, hF₉⟩
          · refine J.al0 dX4_sequence_54 ?_
            refine J.il1 dX4_sequence_55 ?_
            refine J.al2 dX4_sequence_56 ?_
            refine J.al4 dX4_sequence_57 ?_
            have h0₉ : i = 0 ∨ isIt t x q = true := by first | exact Or.inl c44₉ | exact Or.inr c51₉
            rcases k1₉ : pIt t x σ (pSq t x σ n) q with e1 | ⟨q1₉, f1, F1⟩
            · refine cl_X4_62 rfl (by decide) (k' := 0) (n' := 0) (c_item _ hT1₉ hx₉ hC1₉ hP₉ hqx₉ hdn₉ hin₉ k1₉) (roomR (by omega) (by omega)) rfl dX4_sequence_59 (fun μ2 ⟨hP2₉, _, hF2₉⟩ => ?_)
              refine J.is7 dX4_sequence_62 (by decide) rfl ?_
              refine J.il7 dX4_sequence_64 ?_
              refine J.iconst (v := -1) dX4_sequence_66 (by decide) ?_
              refine J.icmp_neV (tgt := 72) dX4_sequence_67 (by decide) ?_
              refine J.iconst (v := -1) dX4_sequence_70 (by decide) ?_
              obtain rfl := SqI.wrong hL₉ (by omega) h0₉ k1₉
              refine J.iret rfl (Nat.zero_le _) (Nat.zero_le _) dX4_sequence_71 ⟨_, rfl, ?_, ?_⟩
              · rfl
              · exact ⟨hP2₉, trivial, hF2₉.trans hF₉ (by omega) (by omega)⟩
            · refine cl_X4_62 rfl (by decide) (k' := 0) (n' := 0) (c_item _ hT1₉ hx₉ hC1₉ hP₉ hqx₉ hdn₉ hin₉ k1₉) (roomR (by omega) (by omega)) rfl dX4_sequence_59 (fun μ2 ⟨hP2₉, hR2₉, hF2₉⟩ => ?_)
              obtain ⟨u1, u2, u3, u4⟩ := pIt_few hC1₉.sh hx₉ (by omega) hqx₉ k1₉
              refine J.is7 dX4_sequence_62 (by decide) rfl ?_
              refine J.il7 dX4_sequence_64 ?_
              refine J.iconst (v := -1) dX4_sequence_66 (by decide) ?_
              refine J.icmp_neW (by omega) (tgt := 72) dX4_sequence_67 (by decide) ?_
              refine J.il5 dX4_sequence_72 ?_
              refine J.il7 dX4_sequence_74 ?_
              refine J.iaddN dX4_sequence_76 ?_
              refine J.is5 dX4_sequence_77 (by decide) rfl ?_
              refine J.al3 dX4_sequence_79 ?_
              refine J.al4 dX4_sequence_80 ?_
              refine cl_X4_66 rfl (kt_rd (d := d) (by omega)).1 (k' := 0) (n' := 0) (c_then _ (kt_rd (by omega)).1 (kt_rd (by omega)).2.1 (by omega) (PermR.rdf hR₉ hF2₉ (by omega) (by omega)) hR2₉) (roomR (by omega) (by omega)) rfl dX4_sequence_82 (fun μ3 ⟨h3₉, hO3₉⟩ => ?_)
              refine J.ii6 (z := 1) dX4_sequence_85 (by decide) (by decide) rfl ?_
              refine J.goto (tgt := 35) dX4_sequence_88 (by decide) ?_
              exact J.subR (ih35 (i + 1) q1₉ (c + f1) (fun k => F1 (F k)) _ (by omega) (by omega) ((congrFun (hO3₉ 193 (by omega)) 1).trans hP2₉) h3₉ (RdF.off hO3₉ (hF2₉.trans hF₉ (by omega) (by omega)) (by omega)) (by omega) (by omega) (SqI.next hL₉ (by omega) h0₉ k1₉)) ⟨rfl, ⟨rfl, ⟨rfl, ⟨rfl, ⟨rfl, ⟨rfl, ⟨rfl, trivial⟩⟩⟩⟩⟩⟩⟩
  exact lp35_1 (61) 0 p 0 (fun k => k) _ (by omega) (by omega) ((congrFun (hO9₉ 193 (by omega)) 1).trans hp₉) h9a (RdF.off hO9₉ RdF.rf (by omega)) (by omega) hpx₉ (Or.inl ⟨rfl, rfl, rfl, rfl, hr0₉⟩)

theorem seq_all {g : GP} {adr : Nat → Nat} {t : Nat → Nat} {x : Nat} {σ : AS} (hx₉ : x ≤ 60) : ∀ n d, d + n = 5 → SeqOK g adr t x σ n d
  | 0, d, _ => fun μ p _ _ _ _ h => absurd h (by omega)
  | n + 1, d, e => fun μ p hT₉ hC₉ hp₉ hpx₉ _ r hr0₉ => c_sequence μ hT₉ hx₉ hC₉ hp₉ hpx₉ (by omega) (seq_all hx₉ n (d + 1) (by omega)) hr0₉
theorem pTxt_few {t : Nat → Nat} {x : Nat} {σ : AS} (hV₉ : ∀ i, i < 5 → aFl σ i = true → Bij (aSh σ i)) (hx₉ : x ≤ 60) : (∀ e, pTxt t x σ = .inl e → e ≤ x) ∧ ∀ q c F, pTxt t x σ = .inr (q, c, F) → Bij F ∧ c ≤ 3542940 := by
  unfold pTxt
  rcases h : pSq t x σ 5 0 with e | ⟨q, c, F⟩
  · exact ⟨fun e' h' => by cases h'; exact (pSq_good hV₉ 5 0 (by omega)).1 e h, fun q c F h' => by cases h'⟩
  · have k := pSq_few hV₉ hx₉ (by omega) (by omega) h
    by_cases c1₉ : q < x
    · simp only [if_pos c1₉]
      exact ⟨fun e' h' => by cases h'; omega, fun q c F h' => by cases h'⟩
    · simp only [if_neg c1₉]
      exact ⟨fun e' h' => (by cases h'), fun q c F h' => by cases h'; exact ⟨k.2.2.1, k.2.2.2⟩⟩
theorem pTxt_1 {t : Nat → Nat} {x e : Nat} {σ : AS} (h : pSq t x σ 5 0 = .inl e) : pTxt t x σ = .inl e := by unfold pTxt; rw [h]
theorem pTxt_2 {t : Nat → Nat} {x q c : Nat} {F : Nat → Nat} {σ : AS} (h : pSq t x σ 5 0 = .inr (q, c, F)) (h2₉ : q < x) : pTxt t x σ = .inl q := by unfold pTxt; rw [h]; simp only [if_pos h2₉]
theorem pTxt_3 {t : Nat → Nat} {x q c : Nat} {F : Nat → Nat} {σ : AS} (h : pSq t x σ 5 0 = .inr (q, c, F)) (h2₉ : ¬ q < x) : pTxt t x σ = .inr (q, c, F) := by unfold pTxt; rw [h]; simp only [if_neg h2₉]
