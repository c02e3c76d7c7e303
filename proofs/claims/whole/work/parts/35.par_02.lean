/-! ===== printed: the model: its reader, sequences ===== -/
theorem c_m_item {g : GP} {adr : Nat → Nat} (μ : Mem) {t : Nat → Nat} {x p r d n : Nat} {σ : AS} {res : PRes} (hT₉ : TxM μ 245 14 (x, t)) (hx₉ : x ≤ 60) (hS₉ : MS μ 238 0 σ) (hp₉ : μ 237 15 = nI p) (hpl₉ : p < x) (hw₉ : μ 237 16 = nI 0) (hr₉ : μ 237 11 = nI r) (hr0₉ : 0 < r) (hV₉ : PoolV μ r) (hro₉ : r + 2 * (x - p) ≤ 200) (hdn₉ : d + n = 4) (hin₉ : SeqM g adr t x σ n (d + 1)) (hI₉ : isIt t x p = true) (hr0x : pItem t x σ (pSq t x σ n) p = res) : CT g yX8_item mX8_item (RM (4 * n + 4) 0 0) (WM g adr μ) [.ref (adr 237), .int (nI d)] (PMx g adr (fun it μ' => IP μ' μ x r p it res)) := by
  rcases isIt_iff.mp hI₉ with k | k | k | k | k
  · rw [pItem_r k] at hr0x; exact c_m_itemr μ hT₉ hx₉ hS₉ hp₉ hpl₉ hw₉ hr₉ hr0₉ hV₉ hro₉ k hr0x
  · rw [pItem_c k] at hr0x; exact c_m_itemc μ hT₉ hx₉ hS₉ hp₉ hpl₉ hw₉ hr₉ hr0₉ hV₉ hro₉ k hr0x
  · rw [pItem_s k] at hr0x; exact c_m_items μ hT₉ hx₉ hS₉ hp₉ hpl₉ hw₉ hr₉ hr0₉ hV₉ hro₉ k hr0x
  · rw [pItem_p k] at hr0x; exact c_m_itemp μ hT₉ hx₉ hS₉ hp₉ hpl₉ hw₉ hr₉ hr0₉ hV₉ hro₉ hdn₉ hin₉ k hr0x
  · rw [pItem_b k] at hr0x; exact c_m_itemb μ hT₉ hx₉ hS₉ hp₉ hpl₉ hw₉ hr₉ hr0₉ hV₉ hro₉ hdn₉ hin₉ k hr0x

set_option maxRecDepth 100000 in
set_option maxHeartbeats 4000000 in
theorem c_m_sequence {g : GP} {adr : Nat → Nat} (μ : Mem) {t : Nat → Nat} {x p r d n : Nat} {σ : AS} {res : PRes} (hT₉ : TxM μ 245 14 (x, t)) (hx₉ : x ≤ 60) (hS₉ : MS μ 238 0 σ) (hp₉ : μ 237 15 = nI p) (hpx₉ : p ≤ x) (hw₉ : μ 237 16 = nI 0) (hr₉ : μ 237 11 = nI r) (hV₉ : PoolV μ r) (hro₉ : r + 1 + 2 * (x - p) ≤ 200) (hdn₉ : d + n = 4) (hin₉ : SeqM g adr t x σ n (d + 1)) (hr0x : pSeq t x (pIt t x σ (pSq t x σ n)) p = res) : CT g yX8_sequence mX8_sequence (RM (4 * (n + 1) + 1) 0 0) (WM g adr μ) [.ref (adr 237), .int (nI d)] (PM g adr ((.inl (some (.int (nI r))))) (fun μ' => SP μ' μ x r p res)) := by
  refine CT.of (l0 := [some (.ref (adr 237)), some (.int (nI d)), none, none, none]) (by decide +kernel) rfl (Nat.le_of_ble_eq_true rfl) rfl ?_
  refine J.al0 dX8_sequence_0 ?_
  refine cl_X8_63 rfl (by decide) (k' := 0) (n' := 0) (c_m_nothing _ hr₉ (by omega)) (roomR (by omega) (by omega)) rfl dX8_sequence_1 (fun μ2 ⟨hP2n, hc2₉, hr2₉, hF2₉⟩ => ?_)
  have hF2r := hF2₉.rf9
  have hT2₉ := hT₉.rf hF2r
  have hS2₉ : MS μ2 238 0 σ := hS₉.off hF2r.s
  have hp2₉ : μ2 237 15 = nI p := (hF2₉.2.2 237 15 (by decide) (by decide) (by decide)).trans hp₉
  have hw2₉ : μ2 237 16 = nI 0 := (hF2₉.2.2 237 16 (by decide) (by decide) (by decide)).trans hw₉
  have hV2₉ : PoolV μ2 (r + 1) := PoolV.push (PoolV.rf hV₉ hF2r (Nat.le_refl r)) hP2n.sl
  refine J.is2 dX8_sequence_4 (by decide) rfl ?_
  refine J.iconst dX8_sequence_5 kI_0 ?_
  refine J.is3 dX8_sequence_6 (by decide) rfl ?_
  refine J.al0 dX8_sequence_7 ?_
  refine cl_X8_148 rfl (by decide) (k' := 0) (n' := 0) (c_m_isItem _ hT2₉ hx₉ hp2₉ hpx₉ hw2₉) (roomR (by omega) (by omega)) rfl dX8_sequence_8 (fun μ9 h9₉ => ?_)
  rw [h9₉]; clear h9₉
  refine J.if_neB (tgt := 19) dX8_sequence_11 (by decide) (fun c11₉ => ?_) (fun c11₉ => ?_)
  · have lp19_1 : ∀ (fu : Nat) (i q c : Nat) (F : Nat → Nat) (r1 : Nat) (μ1 : Mem), 60 < i + fu → i ≤ 60 → μ1 237 15 = nI q → μ1 237 16 = nI 0 → PoolR μ1 r F → μ1 237 11 = nI r1 → PoolV μ1 r1 → RF μ1 μ r → r < r1 → r1 ≤ r + 1 + 2 * (q - p) → p + i ≤ q → q ≤ x → (i = 0 → isIt t x q = true) → SqI t x (pIt t x σ (pSq t x σ n)) p i q c F res → J g mX8_sequence (RM (4 * (n + 1) + 1) 0 0) (MQx g (RM (4 * (n + 1) + 1) 0 0) (PM g adr ((.inl (some (.int (nI r))))) (fun μ' => SP μ' μ x r p res))) 0 0 (WM g adr μ1) 19 [some (.ref (adr 237)), some (.int (nI d)), some (.int (nI r)), some (.int (nI c)), none] [] := by
      intro fu
      induction fu with
      | zero => intro i q c F r1 μ1 h9₉ hi₉ hP₉ hw1₉ hR₉ hr1₉ hV1₉ hF₉ hrr₉ hlr₉ hpq₉ hqx₉ hz₉ hL₉; exact absurd h9₉ (by omega)
      | succ fu ih19 =>
        intro i q c F r1 μ1 h9₉ hi₉ hP₉ hw1₉ hR₉ hr1₉ hV1₉ hF₉ hrr₉ hlr₉ hpq₉ hqx₉ hz₉ hL₉
        have hT1₉ := hT₉.rf hF₉
        have hS1₉ : MS μ1 238 0 σ := hS₉.off hF₉.s
        refine J.al0 dX8_sequence_19 ?_
        refine cl_X8_148 rfl (by decide) (k' := 0) (n' := 0) (c_m_isItem _ hT1₉ hx₉ hP₉ hqx₉ hw1₉) (roomR (by omega) (by omega)) rfl dX8_sequence_20 (fun μ9 h9₉ => ?_)
        rw [h9₉]; clear h9₉
        refine J.if_eqB (tgt := 82) dX8_sequence_23 (by decide) (fun c23₉ => ?_) (fun c23₉ => ?_)
        · refine J.al0 dX8_sequence_82 ?_
          refine gf_X8_25 rfl (o2 := 243) (by decide) rfl dX8_sequence_83 ?_
          refine J.il2 dX8_sequence_86 ?_
          refine J.il3 dX8_sequence_87 ?_
          refine J.iast (N := 200) (by decide) (by decide) (by decide) (by omega) dX8_sequence_88 ?_
          refine J.il2 dX8_sequence_89 ?_
          obtain rfl : res = .inr (q, c, F) := by
            have hi0₉ : i ≠ 0 := fun h9₉ => c23₉ (hz₉ h9₉)
            by_cases h60₉ : i = 60
            · exact SqI.full hL₉ h60₉
            · exact SqI.stop hL₉ (by omega) hi0₉ c23₉
          refine J.iret rfl (Nat.zero_le _) (Nat.zero_le _) dX8_sequence_90 ⟨_, rfl, ?_, ?_⟩
          · rfl
          · exact ⟨(wr_n (Or.inl (by decide))).trans hP₉, (wr_n (Or.inl (by decide))).trans hw1₉, ⟨r1, by omega, by omega, (wr_n (Or.inl (by decide))).trans hr1₉, PoolV.w243 hV1₉⟩, RF.w243 hF₉ (Nat.le_refl r), hR₉.w (Or.inl (by decide)), wr_s⟩
        · refine J.al0 dX8_sequence_26 ?_
          refine J.il1 dX8_sequence_27 ?_
          have hq23₉ := c23₉
          have hql₉ := isIt_lt c23₉
          rcases k1₉ : pItem t x σ (pSq t x σ n) q with e1 | ⟨q1₉, f1, F1⟩
          · refine clx_X8_152 rfl (by decide) (k' := 0) (n' := 0) (c_m_item _ hT1₉ hx₉ hS1₉ hP₉ (isIt_lt c23₉) hw1₉ hr1₉ (by omega) hV1₉ (by omega) hdn₉ hin₉ c23₉ k1₉) (roomR (by omega) (by omega)) rfl dX8_sequence_28 (fun i3 μ3 ⟨hP3₉, hW3₉, ⟨r3, hg3₉, hl3₉, hr3₉, hV3₉⟩, hF3₉, hi3₉⟩ => ?_)
            subst hi3₉
            have hA3₉ : RF μ3 μ r := RF.trans hF3₉ hF₉ (Nat.le_refl r) (by omega)
            have hR3₉ := hR₉.rf hF3₉ (by omega)
            refine J.is4 dX8_sequence_31 (by decide) rfl ?_
            refine J.al0 dX8_sequence_33 ?_
            refine J.bipush dX8_sequence_34 kb_39 ?_
            refine J.bipush dX8_sequence_36 kb_39 ?_
            refine cl_X8_144 rfl (by decide) (k' := 0) (n' := 0) (c_m_isHereW _ hW3₉) (roomR (by omega) (by omega)) rfl dX8_sequence_38 (fun μ9 h9₉ => ?_)
            rw [h9₉]; clear h9₉
            refine J.if_eqN (tgt := 62) dX8_sequence_41 (by decide) (by omega) (fun c41₉ => ?_) (fun c41₉ => absurd c41₉ (by first | omega | (simp only [not_true_eq_false, not_false_eq_true]; done) | (simp; done)))
            refine J.al0 dX8_sequence_62 ?_
            refine J.il2 dX8_sequence_63 ?_
            refine J.il4 dX8_sequence_64 ?_
            refine cl_X8_67 rfl (by decide) (k' := 0) (n' := 0) (c_m_thenW _ (by omega) (by omega) hR3₉.sl (hV3₉ 0 (by omega))) (roomR (by omega) (by omega)) rfl dX8_sequence_66 (fun μ5 ⟨hs5₉, hO5₉⟩ => ?_)
            have hw5₉ : μ5 237 16 = nI 1 := (hO5₉ _ _ (Or.inl (by decide))).trans hW3₉
            have hV5₉ : PoolV μ5 r3 := hV3₉.p1 hO5₉ hs5₉
            have hA5₉ : RF μ5 μ r := RF.trans (hO5₉.rf9 (Nat.le_refl r)) hA3₉ (Nat.le_refl r) (Nat.le_refl r)
            refine J.il3 dX8_sequence_69 ?_
            refine J.al0 dX8_sequence_70 ?_
            refine gf_X8_25 rfl (o2 := 243) (by decide) rfl dX8_sequence_71 ?_
            refine J.il4 dX8_sequence_74 ?_
            refine J.iald (N := 200) (x := μ5 243 0) (by decide) (by decide) (by decide) (by omega) rfl dX8_sequence_76 ?_
            refine J.iadd dX8_sequence_77 rfl ?_
            refine J.is3 dX8_sequence_78 (by decide) rfl ?_
            refine J.goto (tgt := 19) dX8_sequence_79 (by decide) ?_
            refine J.al0 dX8_sequence_19 ?_
            refine cl_X8_148 rfl (by decide) (k' := 0) (n' := 0) (c_m_isItemW _ hw5₉) (roomR (by omega) (by omega)) rfl dX8_sequence_20 (fun μ9 h9₉ => ?_)
            rw [h9₉]; clear h9₉
            refine J.if_eqN (tgt := 82) dX8_sequence_23 (by decide) (by omega) (fun c23₉ => ?_) (fun c23₉ => absurd c23₉ (by first | omega | (simp only [not_true_eq_false, not_false_eq_true]; done) | (simp; done)))
            refine J.al0 dX8_sequence_82 ?_
            refine gf_X8_25 rfl (o2 := 243) (by decide) rfl dX8_sequence_83 ?_
            refine J.il2 dX8_sequence_86 ?_
            refine J.il3 dX8_sequence_87 ?_
            refine J.iast (N := 200) (by decide) (by decide) (by decide) (by omega) dX8_sequence_88 ?_
            refine J.il2 dX8_sequence_89 ?_
            obtain rfl := SqI.wrong hL₉ (by omega) (Or.inr hq23₉) (pIt_e k1₉)
            refine J.iret rfl (Nat.zero_le _) (Nat.zero_le _) dX8_sequence_90 ⟨_, rfl, ?_, ?_⟩
            · rfl
            · exact ⟨(wr_n (Or.inl (by decide))).trans ((hO5₉ _ _ (Or.inl (by decide))).trans hP3₉), (wr_n (Or.inl (by decide))).trans hw5₉, ⟨r3, by omega, by omega, (wr_n (Or.inl (by decide))).trans ((hO5₉ _ _ (Or.inl (by decide))).trans hr3₉), PoolV.w243 hV5₉⟩, RF.w243 hA5₉ (Nat.le_refl r)⟩
          · refine clx_X8_152 rfl (by decide) (k' := 0) (n' := 0) (c_m_item _ hT1₉ hx₉ hS1₉ hP₉ (isIt_lt c23₉) hw1₉ hr1₉ (by omega) hV1₉ (by omega) hdn₉ hin₉ c23₉ k1₉) (roomR (by omega) (by omega)) rfl dX8_sequence_28 (fun i3 μ3 ⟨hP3₉, hW3₉, ⟨r3, hg3₉, hg3b, hl3₉, hr3₉, hV3₉⟩, hF3₉, hI3₉, hc3₉⟩ => ?_)
            have hA3₉ : RF μ3 μ r := RF.trans hF3₉ hF₉ (Nat.le_refl r) (by omega)
            have hR3₉ := hR₉.rf hF3₉ (by omega)
            have hT3₉ := hT1₉.rf hF3₉
            obtain ⟨u1, u2, u3, u4⟩ := pItem_few (n := n) hS₉.vs.2.2.2.2 hx₉ (by omega) hqx₉ k1₉
            refine J.is4 dX8_sequence_31 (by decide) rfl ?_
            refine J.al0 dX8_sequence_33 ?_
            refine J.bipush dX8_sequence_34 kb_39 ?_
            refine J.bipush dX8_sequence_36 kb_39 ?_
            refine cl_X8_144 rfl (by decide) (k' := 0) (n' := 0) (c_m_isHere _ hT3₉ hx₉ hP3₉ (by omega) hW3₉ (by decide) (by decide)) (roomR (by omega) (by omega)) rfl dX8_sequence_38 (fun μ9 h9₉ => ?_)
            rw [h9₉]; clear h9₉
            refine J.if_eqB (tgt := 62) dX8_sequence_41 (by decide) (fun c41₉ => ?_) (fun c41₉ => ?_)
            · refine J.al0 dX8_sequence_62 ?_
              refine J.il2 dX8_sequence_63 ?_
              refine J.il4 dX8_sequence_64 ?_
              refine cl_X8_67 rfl (by decide) (k' := 0) (n' := 0) (c_m_then _ (by omega) (by omega) (by omega) hR3₉ hI3₉) (roomR (by omega) (by omega)) rfl dX8_sequence_66 (fun μ5 ⟨h5₉, hO5₉⟩ => ?_)
              have hV5₉ : PoolV μ5 r3 := hV3₉.p1 hO5₉ h5₉.sl
              have hA5₉ : RF μ5 μ r := RF.trans (hO5₉.rf9 (Nat.le_refl r)) hA3₉ (Nat.le_refl r) (Nat.le_refl r)
              have hc5₉ : μ5 243 i3 = nI f1 := (hO5₉ _ _ (Or.inl (by decide))).trans hc3₉
              refine J.il3 dX8_sequence_69 ?_
              refine J.al0 dX8_sequence_70 ?_
              refine gf_X8_25 rfl (o2 := 243) (by decide) rfl dX8_sequence_71 ?_
              refine J.il4 dX8_sequence_74 ?_
              refine J.iald (N := 200) (x := nI f1) (by decide) (by decide) (by decide) (by omega) hc5₉ dX8_sequence_76 ?_
              refine J.iaddN dX8_sequence_77 ?_
              refine J.is3 dX8_sequence_78 (by decide) rfl ?_
              refine J.goto (tgt := 19) dX8_sequence_79 (by decide) ?_
              exact J.subR (ih19 (i + 1) q1₉ (c + f1) (fun k => F1 (F k)) r3 _ (by omega) (by omega) ((hO5₉ _ _ (Or.inl (by decide))).trans hP3₉) ((hO5₉ _ _ (Or.inl (by decide))).trans hW3₉) h5₉ ((hO5₉ _ _ (Or.inl (by decide))).trans hr3₉) hV5₉ hA5₉ (by omega) (by omega) (by omega) (by omega) (fun h9₉ => absurd h9₉ (by omega)) (SqI.next hL₉ (by omega) (Or.inr c23₉) (pIt_o k1₉ c41₉))) ⟨rfl, ⟨rfl, ⟨rfl, ⟨rfl, trivial⟩⟩⟩⟩
            · have hq41₉ := (hr_iff.mp c41₉).1
              refine J.al0 dX8_sequence_44 ?_
              refine J.dup dX8_sequence_45 rfl ?_
              refine gf_X8_141 rfl (x := nI q1₉) (by decide) hP3₉ dX8_sequence_46 ?_
              refine J.iconst dX8_sequence_49 kI_1 ?_
              refine J.iaddN dX8_sequence_50 ?_
              refine pf_X8_141 rfl (by decide) dX8_sequence_51 ?_
              refine J.al0 dX8_sequence_54 ?_
              refine J.il4 dX8_sequence_55 ?_
              refine cl_X8_75 rfl (by decide) (k' := 0) (n' := 0) (c_m_inverse _ (r := r3) (x := nI f1) (by rw [wr_n (by omega)]; exact hr3₉) (by omega) (a := i3) (by omega) (PoolR.w hI3₉ (Or.inl (by decide))) u3 (by simp only [wr_o (show (243 : Nat) ≠ 237 by decide)]; exact hc3₉)) (roomR (by omega) (by omega)) rfl dX8_sequence_57 (fun μ4 ⟨hP4₉, hc4₉, hr4₉, hF4₉⟩ => ?_)
              have hA4₉ : RF μ4 μ r := RF.trans hF4₉.rf9 (RF.w hA3₉ (by decide)) (Nat.le_refl r) (by omega)
              have hR4₉ : PoolR μ4 r F := (PoolR.w hR3₉ (Or.inl (by decide))).pf hF4₉ (by omega)
              have hV4₉ : PoolV μ4 (r3 + 1) := PoolV.push (PoolV.rf (PoolV.w hV3₉) hF4₉.rf9 (Nat.le_refl _)) hP4₉.sl
              have hp4₉ : μ4 237 15 = nI (q1₉ + 1) := (hF4₉.2.2 237 15 (by decide) (by decide) (by decide)).trans wr_s
              have hw4₉ : μ4 237 16 = nI 0 := (hF4₉.2.2 237 16 (by decide) (by decide) (by decide)).trans ((wr_n (by decide)).trans hW3₉)
              refine J.is4 dX8_sequence_60 (by decide) rfl ?_
              refine J.al0 dX8_sequence_62 ?_
              refine J.il2 dX8_sequence_63 ?_
              refine J.il4 dX8_sequence_64 ?_
              refine cl_X8_67 rfl (by decide) (k' := 0) (n' := 0) (c_m_then _ (by omega) (by omega) (by omega) hR4₉ hP4₉) (roomR (by omega) (by omega)) rfl dX8_sequence_66 (fun μ5 ⟨h5₉, hO5₉⟩ => ?_)
              have hV5₉ : PoolV μ5 (r3 + 1) := hV4₉.p1 hO5₉ h5₉.sl
              have hA5₉ : RF μ5 μ r := RF.trans (hO5₉.rf9 (Nat.le_refl r)) hA4₉ (Nat.le_refl r) (Nat.le_refl r)
              have hc5₉ : μ5 243 r3 = nI f1 := (hO5₉ _ _ (Or.inl (by decide))).trans hc4₉
              refine J.il3 dX8_sequence_69 ?_
              refine J.al0 dX8_sequence_70 ?_
              refine gf_X8_25 rfl (o2 := 243) (by decide) rfl dX8_sequence_71 ?_
              refine J.il4 dX8_sequence_74 ?_
              refine J.iald (N := 200) (x := nI f1) (by decide) (by decide) (by decide) (by omega) hc5₉ dX8_sequence_76 ?_
              refine J.iaddN dX8_sequence_77 ?_
              refine J.is3 dX8_sequence_78 (by decide) rfl ?_
              refine J.goto (tgt := 19) dX8_sequence_79 (by decide) ?_
              exact J.subR (ih19 (i + 1) (q1₉ + 1) (c + f1) (fun k => pinv F1 (F k)) (r3 + 1) _ (by omega) (by omega) ((hO5₉ _ _ (Or.inl (by decide))).trans hp4₉) ((hO5₉ _ _ (Or.inl (by decide))).trans hw4₉) h5₉ ((hO5₉ _ _ (Or.inl (by decide))).trans hr4₉) hV5₉ hA5₉ (by omega) (by omega) (by omega) (by omega) (fun h9₉ => absurd h9₉ (by omega)) (SqI.next hL₉ (by omega) (Or.inr c23₉) (pIt_q k1₉ c41₉))) ⟨rfl, ⟨rfl, ⟨rfl, ⟨rfl, trivial⟩⟩⟩⟩
    exact lp19_1 (61) 0 p 0 (fun k => k) (r + 1) _ (by omega) (by omega) hp2₉ hw2₉ hP2n hr2₉ hV2₉ hF2r (by omega) (by omega) (by omega) hpx₉ (fun _ => c11₉) (Or.inl ⟨rfl, rfl, rfl, rfl, hr0x⟩)
  · refine J.al0 dX8_sequence_14 ?_
    refine J.iconst dX8_sequence_15 kI_1 ?_
    refine pf_X8_137 rfl (by decide) (Or.inr (by decide)) dX8_sequence_16 ?_
    refine J.al0 dX8_sequence_19 ?_
    refine cl_X8_148 rfl (by decide) (k' := 0) (n' := 0) (c_m_isItemW _ wr_s) (roomR (by omega) (by omega)) rfl dX8_sequence_20 (fun μ9 h9₉ => ?_)
    rw [h9₉]; clear h9₉
    refine J.if_eqN (tgt := 82) dX8_sequence_23 (by decide) (by omega) (fun c23₉ => ?_) (fun c23₉ => absurd c23₉ (by first | omega | (simp only [not_true_eq_false, not_false_eq_true]; done) | (simp; done)))
    refine J.al0 dX8_sequence_82 ?_
    refine gf_X8_25 rfl (o2 := 243) (by decide) rfl dX8_sequence_83 ?_
    refine J.il2 dX8_sequence_86 ?_
    refine J.il3 dX8_sequence_87 ?_
    refine J.iast (N := 200) (by decide) (by decide) (by decide) (by omega) dX8_sequence_88 ?_
    refine J.il2 dX8_sequence_89 ?_
    obtain rfl : res = .inl p := SqI.wrong (i := 0) (Or.inl ⟨rfl, rfl, rfl, rfl, hr0x⟩) (by decide) (Or.inl rfl) (pItem_not c11₉)
    refine J.iret rfl (Nat.zero_le _) (Nat.zero_le _) dX8_sequence_90 ⟨_, rfl, ?_, ?_⟩
    · rfl
    · exact ⟨(wr_n (Or.inl (by decide))).trans ((wr_n (by decide)).trans hp2₉), (wr_n (Or.inl (by decide))).trans wr_s, ⟨r + 1, by omega, by omega, (wr_n (Or.inl (by decide))).trans ((wr_n (by decide)).trans hr2₉), PoolV.w243 (PoolV.w hV2₉)⟩, RF.w243 (RF.w hF2r (by decide)) (Nat.le_refl r)⟩
