/-! ===== printed: the reader of sequences ===== -/
set_option maxRecDepth 100000 in
set_option maxHeartbeats 4000000 in
theorem c_commutedItem {g : GP} {adr : Nat → Nat} (μ : Mem) {t : Nat → Nat} {x p d n : Nat} {σ : AS} {r : PRes} (hT₉ : SgT μ 194 x t) (hx₉ : x ≤ 60) (hC₉ : CS μ 1 σ) (hp₉ : μ 193 1 = nI p) (hpx₉ : p ≤ x) (hpl₉ : p < x) (hdn₉ : d + n = 4) (hin₉ : SeqOK g adr t x σ n (d + 1)) (hr0₉ : pCom t x (pSq t x σ n) p = r) : CT g yX4_commutedItem mX4_commutedItem (RM (3 * n + 2) 0 0) (WM g adr μ) [.ref (adr 193), .int (nI d), .ref (adr 1), .ref (adr (203 + 6 * d))] (PM g adr ((.inl (some (.int (pVal r))))) (fun μ' => RdP μ' μ (203 + 6 * d) (203 + 6 * d + 1) r)) := by
  refine CT.of (l0 := [some (.ref (adr 193)), some (.int (nI d)), some (.ref (adr 1)), some (.ref (adr (203 + 6 * d))), none, none]) (by decide +kernel) rfl (Nat.le_of_ble_eq_true rfl) rfl ?_
  refine J.il1 dX4_commutedItem_0 ?_
  refine J.iconst dX4_commutedItem_1 kI_4 ?_
  refine J.icmp_ltN (tgt := 7) dX4_commutedItem_2 (by decide) (by omega) (by omega) (fun c2₉ => ?_) (fun c2₉ => ?_)
  · refine J.al0 dX4_commutedItem_7 ?_
    refine J.dup dX4_commutedItem_8 rfl ?_
    refine gf_X4_18 rfl (x := nI p) (by decide) hp₉ dX4_commutedItem_9 ?_
    refine J.iconst dX4_commutedItem_12 kI_1 ?_
    refine J.iaddN dX4_commutedItem_13 ?_
    refine pf_X4_18 rfl (by decide) dX4_commutedItem_14 ?_
    refine J.al0 dX4_commutedItem_17 ?_
    refine J.il1 dX4_commutedItem_18 ?_
    refine J.iconst dX4_commutedItem_19 kI_1 ?_
    refine J.iaddN dX4_commutedItem_20 ?_
    refine J.al2 dX4_commutedItem_21 ?_
    rcases k1₉ : pSq t x σ n (p + 1) with e1 | ⟨q1₉, f1, F1⟩
    · refine cl_X4_39 rfl (by decide) (k' := 0) (n' := 0) (hin₉ _ _ (hT₉.rdf (b := 231) RdF.rf.wr (by decide)) (hC₉.rdf (b := 231) RdF.rf.wr (by decide)) wr_s (by omega) (by omega) _ k1₉) (roomR (by omega) (by omega)) rfl dX4_commutedItem_22 (fun μ2 ⟨hP2₉, _, hF2₉⟩ => ?_)
      have hW2₉ := (hF2₉.trans (RdF.rf (b := 231)).wr (b := 203 + 6 * d) (by omega) (by omega))
      refine J.is4 dX4_commutedItem_25 (by decide) rfl ?_
      refine J.il4 dX4_commutedItem_27 ?_
      refine J.iconst (v := -1) dX4_commutedItem_29 (by decide) ?_
      refine J.icmp_eqV (tgt := 49) dX4_commutedItem_30 (by decide) ?_
      refine J.iconst (v := -1) dX4_commutedItem_49 (by decide) ?_
      obtain rfl : r = .inl e1 := by rw [← hr0₉]; exact pCom_1 k1₉
      refine J.iret rfl (Nat.zero_le _) (Nat.zero_le _) dX4_commutedItem_50 ⟨_, rfl, ?_, ?_⟩
      · rfl
      · exact ⟨hP2₉, trivial, hW2₉⟩
    · refine cl_X4_39 rfl (by decide) (k' := 0) (n' := 0) (hin₉ _ _ (hT₉.rdf (b := 231) RdF.rf.wr (by decide)) (hC₉.rdf (b := 231) RdF.rf.wr (by decide)) wr_s (by omega) (by omega) _ k1₉) (roomR (by omega) (by omega)) rfl dX4_commutedItem_22 (fun μ2 ⟨hP2₉, hR2₉, hF2₉⟩ => ?_)
      have hW2₉ := (hF2₉.trans (RdF.rf (b := 231)).wr (b := 203 + 6 * d) (by omega) (by omega))
      have hT2₉ := (hT₉.rdf (b := 231) RdF.rf.wr (by decide)).rdf hF2₉ (by omega)
      have hC2₉ := (hC₉.rdf (b := 231) RdF.rf.wr (by decide)).rdf hF2₉ (by omega)
      obtain ⟨u21, u22, u23, u24⟩ := pSq_few hC₉.sh hx₉ (by omega) (by omega) k1₉
      refine J.is4 dX4_commutedItem_25 (by decide) rfl ?_
      refine J.il4 dX4_commutedItem_27 ?_
      refine J.iconst (v := -1) dX4_commutedItem_29 (by decide) ?_
      refine J.icmp_eqW (by omega) (tgt := 49) dX4_commutedItem_30 (by decide) ?_
      refine J.al0 dX4_commutedItem_33 ?_
      refine gf_X4_12 rfl (o2 := 194) (by decide) rfl dX4_commutedItem_34 ?_
      refine J.al0 dX4_commutedItem_37 ?_
      refine gf_X4_18 rfl (x := nI q1₉) (by decide) hP2₉ dX4_commutedItem_38 ?_
      refine cl_X4_47 rfl (by decide) (k' := 0) (n' := 0) (signAtI _ (by decide) hT2₉ (by omega) (by omega)) (roomR (by omega) (by omega)) rfl dX4_commutedItem_41 (fun μ9 h9₉ => ?_)
      rw [h9₉]; clear h9₉
      refine J.bipush dX4_commutedItem_44 kb_44 ?_
      refine J.icmp_eqS (tgt := 51) (fun k hk₉ => (hT₉.2 k hk₉).2) (by decide) dX4_commutedItem_46 (by decide) (fun c46₉ => ?_) (fun c46₉ => ?_)
      · have g46 := hr_one.mp c46₉
        refine J.al0 dX4_commutedItem_51 ?_
        refine J.dup dX4_commutedItem_52 rfl ?_
        refine gf_X4_18 rfl (x := nI q1₉) (by decide) hP2₉ dX4_commutedItem_53 ?_
        refine J.iconst dX4_commutedItem_56 kI_1 ?_
        refine J.iaddN dX4_commutedItem_57 ?_
        refine pf_X4_18 rfl (by decide) dX4_commutedItem_58 ?_
        refine J.al0 dX4_commutedItem_61 ?_
        refine gf_X4_31 rfl (o2 := 198) (by decide) rfl dX4_commutedItem_62 ?_
        refine J.il1 dX4_commutedItem_65 ?_
        refine J.aaldP (a := 205 + 6 * d) dX4_commutedItem_66 (by omega) (Or.inr (Or.inr (Or.inr ⟨by decide, by omega⟩))) ?_
        refine J.al0 dX4_commutedItem_67 ?_
        refine gf_X4_24 rfl (o2 := 196) (by decide) rfl dX4_commutedItem_68 ?_
        refine J.il1 dX4_commutedItem_71 ?_
        refine J.iconst dX4_commutedItem_72 kI_1 ?_
        refine J.iaddN dX4_commutedItem_73 ?_
        refine J.aaldP (a := 201 + 6 * (d + 1)) dX4_commutedItem_74 (by omega) (Or.inr (Or.inl ⟨by decide, by omega⟩)) ?_
        refine cl_X4_87 rfl (kt_rd (d := d) (by omega)).2.2 (k' := 0) (n' := 0) (c_toCopy _ (kt_rd (by omega)).2.2 (kt_rd (d := d + 1) (by omega)).1 (by omega) (PermR.eq hR2₉ (by rw [wr_o (by omega)]))) (roomR (by omega) (by omega)) rfl dX4_commutedItem_75 (fun μ3 ⟨h3₉, hO3₉⟩ => ?_)
        have hW3₉ := RdF.off hO3₉ hW2₉.wr (by omega)
        have hT3₉ := hT₉.rdf hW3₉ (by omega)
        have hC3₉ := hC₉.rdf hW3₉ (by omega)
        have hP3₉ : μ3 193 1 = nI (q1₉ + 1) := (congrFun (hO3₉ 193 (by omega)) 1).trans wr_s
        refine J.al0 dX4_commutedItem_78 ?_
        refine J.il1 dX4_commutedItem_79 ?_
        refine J.iconst dX4_commutedItem_80 kI_1 ?_
        refine J.iaddN dX4_commutedItem_81 ?_
        refine J.al2 dX4_commutedItem_82 ?_
        rcases k2₉ : pSq t x σ n (q1₉ + 1) with e2 | ⟨q2₉, f2, F2⟩
        · refine cl_X4_39 rfl (by decide) (k' := 0) (n' := 0) (hin₉ _ _ hT3₉ hC3₉ hP3₉ (by omega) (by omega) _ k2₉) (roomR (by omega) (by omega)) rfl dX4_commutedItem_83 (fun μ5 ⟨hP5₉, _, hF5₉⟩ => ?_)
          have hW5₉ := (hF5₉.trans hW3₉ (b := 203 + 6 * d) (by omega) (by omega))
          refine J.is5 dX4_commutedItem_86 (by decide) rfl ?_
          refine J.il5 dX4_commutedItem_88 ?_
          refine J.iconst (v := -1) dX4_commutedItem_90 (by decide) ?_
          refine J.icmp_eqV (tgt := 110) dX4_commutedItem_91 (by decide) ?_
          refine J.iconst (v := -1) dX4_commutedItem_110 (by decide) ?_
          obtain rfl : r = .inl e2 := by rw [← hr0₉]; exact pCom_3 k1₉ c46₉ k2₉
          refine J.iret rfl (Nat.zero_le _) (Nat.zero_le _) dX4_commutedItem_111 ⟨_, rfl, ?_, ?_⟩
          · rfl
          · exact ⟨hP5₉, trivial, hW5₉⟩
        · refine cl_X4_39 rfl (by decide) (k' := 0) (n' := 0) (hin₉ _ _ hT3₉ hC3₉ hP3₉ (by omega) (by omega) _ k2₉) (roomR (by omega) (by omega)) rfl dX4_commutedItem_83 (fun μ5 ⟨hP5₉, hR5₉, hF5₉⟩ => ?_)
          have hW5₉ := (hF5₉.trans hW3₉ (b := 203 + 6 * d) (by omega) (by omega))
          have hT5₉ := hT3₉.rdf hF5₉ (by omega)
          have hC5₉ := hC3₉.rdf hF5₉ (by omega)
          obtain ⟨u51, u52, u53, u54⟩ := pSq_few hC₉.sh hx₉ (by omega) (by omega) k2₉
          refine J.is5 dX4_commutedItem_86 (by decide) rfl ?_
          refine J.il5 dX4_commutedItem_88 ?_
          refine J.iconst (v := -1) dX4_commutedItem_90 (by decide) ?_
          refine J.icmp_eqW (by omega) (tgt := 110) dX4_commutedItem_91 (by decide) ?_
          refine J.al0 dX4_commutedItem_94 ?_
          refine gf_X4_12 rfl (o2 := 194) (by decide) rfl dX4_commutedItem_95 ?_
          refine J.al0 dX4_commutedItem_98 ?_
          refine gf_X4_18 rfl (x := nI q2₉) (by decide) hP5₉ dX4_commutedItem_99 ?_
          refine cl_X4_47 rfl (by decide) (k' := 0) (n' := 0) (signAtI _ (by decide) hT5₉ (by omega) (by omega)) (roomR (by omega) (by omega)) rfl dX4_commutedItem_102 (fun μ9 h9₉ => ?_)
          rw [h9₉]; clear h9₉
          refine J.bipush dX4_commutedItem_105 kb_93 ?_
          refine J.icmp_eqS (tgt := 112) (fun k hk₉ => (hT₉.2 k hk₉).2) (by decide) dX4_commutedItem_107 (by decide) (fun c107₉ => ?_) (fun c107₉ => ?_)
          · have g107 := hr_one.mp c107₉
            refine J.al0 dX4_commutedItem_112 ?_
            refine J.dup dX4_commutedItem_113 rfl ?_
            refine gf_X4_18 rfl (x := nI q2₉) (by decide) hP5₉ dX4_commutedItem_114 ?_
            refine J.iconst dX4_commutedItem_117 kI_1 ?_
            refine J.iaddN dX4_commutedItem_118 ?_
            refine pf_X4_18 rfl (by decide) dX4_commutedItem_119 ?_
            refine J.al3 dX4_commutedItem_122 ?_
            refine J.al0 dX4_commutedItem_123 ?_
            refine gf_X4_31 rfl (o2 := 198) (by decide) rfl dX4_commutedItem_124 ?_
            refine J.il1 dX4_commutedItem_127 ?_
            refine J.aaldP (a := 205 + 6 * d) dX4_commutedItem_128 (by omega) (Or.inr (Or.inr (Or.inr ⟨by decide, by omega⟩))) ?_
            refine J.al0 dX4_commutedItem_129 ?_
            refine gf_X4_24 rfl (o2 := 196) (by decide) rfl dX4_commutedItem_130 ?_
            refine J.il1 dX4_commutedItem_133 ?_
            refine J.iconst dX4_commutedItem_134 kI_1 ?_
            refine J.iaddN dX4_commutedItem_135 ?_
            refine J.aaldP (a := 201 + 6 * (d + 1)) dX4_commutedItem_136 (by omega) (Or.inr (Or.inl ⟨by decide, by omega⟩)) ?_
            refine J.al0 dX4_commutedItem_137 ?_
            refine gf_X4_35 rfl (o2 := 199) (by decide) rfl dX4_commutedItem_138 ?_
            refine cl_X4_115 rfl (kt_rd (d := d) (by omega)).2.1 (k' := 0) (n' := 0) (c_toCommuted _ (kt_rd (by omega)).2.1 (kt_rd (by omega)).2.2 (kt_rd (d := d + 1) (by omega)).1 (by decide) (by omega) (by omega) (by omega) (by omega) (by omega) (PermR.eq (PermR.rdf h3₉ hF5₉ (by omega) (by omega)) (by rw [wr_o (by omega)])) (PermR.eq hR5₉ (by rw [wr_o (by omega)])) u23 u53) (roomR (by omega) (by omega)) rfl dX4_commutedItem_141 (fun μ7 ⟨h7₉, hO7₉⟩ => ?_)
            refine J.iconst dX4_commutedItem_144 kI_2 ?_
            refine J.il4 dX4_commutedItem_145 ?_
            refine J.il5 dX4_commutedItem_147 ?_
            refine J.iaddN dX4_commutedItem_149 ?_
            refine J.imulN dX4_commutedItem_150 ?_
            obtain rfl : r = .inr (q2₉ + 1, 2 * (f1 + f2), comF F1 F2) := by rw [← hr0₉]; exact pCom_5 k1₉ c46₉ k2₉ c107₉
            refine J.iret rfl (Nat.zero_le _) (Nat.zero_le _) dX4_commutedItem_151 ⟨_, rfl, ?_, ?_⟩
            · rfl
            · exact ⟨(congrFun (hO7₉ 193 (by omega) (by omega)) 1).trans wr_s, h7₉, RdF.off2 hO7₉ hW5₉.wr (by omega)⟩
          · refine J.iconst (v := -1) dX4_commutedItem_110 (by decide) ?_
            obtain rfl : r = .inl q2₉ := by rw [← hr0₉]; exact pCom_4 k1₉ c46₉ k2₉ c107₉
            refine J.iret rfl (Nat.zero_le _) (Nat.zero_le _) dX4_commutedItem_111 ⟨_, rfl, ?_, ?_⟩
            · rfl
            · exact ⟨hP5₉, trivial, hW5₉⟩
      · refine J.iconst (v := -1) dX4_commutedItem_49 (by decide) ?_
        obtain rfl : r = .inl q1₉ := by rw [← hr0₉]; exact pCom_2 k1₉ c46₉
        refine J.iret rfl (Nat.zero_le _) (Nat.zero_le _) dX4_commutedItem_50 ⟨_, rfl, ?_, ?_⟩
        · rfl
        · exact ⟨hP2₉, trivial, hW2₉⟩
  · refine J.iconst (v := -1) dX4_commutedItem_5 (by decide) ?_
    obtain rfl : n = 0 := by omega
    obtain rfl : r = .inl p := by rw [← hr0₉]; exact pCom_1 rfl
    refine J.iret rfl (Nat.zero_le _) (Nat.zero_le _) dX4_commutedItem_6 ⟨_, rfl, ?_, ?_⟩
    · rfl
    · exact ⟨hp₉, trivial, RdF.rf⟩
