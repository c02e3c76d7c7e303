/-! ===== printed: the reader of sequences ===== -/
set_option maxRecDepth 100000 in
set_option maxHeartbeats 4000000 in
theorem c_understand {g : GP} {adr : Nat → Nat} (μ : Mem) {t : Nat → Nat} {x p0 : Nat} {σ : AS} {r : PRes} (hT₉ : SgT μ 194 x t) (hx₉ : x ≤ 60) (hC₉ : CS μ 1 σ) (hr0₉ : pTxt t x σ = r) : CT g yX4_understand mX4_understand (RM 17 0 0) (WM g adr μ) [.ref (adr 193), .ref (adr 1)] (PM g adr ((.inl (some (.int (pVal r))))) (fun μ' => RdP μ' μ (201) (201 + 1) r)) := by
  refine CT.of (l0 := [some (.ref (adr 193)), some (.ref (adr 1)), none]) (by decide +kernel) rfl (Nat.le_of_ble_eq_true rfl) rfl ?_
  refine J.al0 dX4_understand_0 ?_
  refine J.iconst dX4_understand_1 kI_0 ?_
  refine pf_X4_18 rfl (by decide) dX4_understand_2 ?_
  refine J.al0 dX4_understand_5 ?_
  refine J.iconst dX4_understand_6 kI_0 ?_
  refine J.al1 dX4_understand_7 ?_
  rcases k1₉ : pSq t x σ 5 0 with e1 | ⟨q1₉, f1, F1⟩
  · refine cl_X4_39 rfl (by decide) (k' := 0) (n' := 0) (seq_all hx₉ 5 0 rfl _ 0 (hT₉.rdf (b := 231) RdF.rf.wr (by decide)) (hC₉.rdf (b := 231) RdF.rf.wr (by decide)) wr_s (by omega) (by decide) _ k1₉) ⟨⟨by decide, by decide⟩, ⟨rfl, rfl⟩, by decide, by decide⟩ rfl dX4_understand_8 (fun μ2 ⟨hP2₉, _, hF2₉⟩ => ?_)
    have hW2₉ := hF2₉.trans (RdF.rf (b := 231)).wr (b := 201) (by omega) (by omega)
    have hT2₉ := hT₉.rdf hW2₉ (by decide)
    have u1 := (pSq_good hC₉.sh 5 0 (by omega)).1 e1 k1₉
    refine J.is2 dX4_understand_11 (by decide) rfl ?_
    refine J.al0 dX4_understand_12 ?_
    refine gf_X4_18 rfl (x := nI e1) (by decide) hP2₉ dX4_understand_13 ?_
    refine J.al0 dX4_understand_16 ?_
    refine gf_X4_12 rfl (o2 := 194) (by decide) rfl dX4_understand_17 ?_
    refine cl_X4_43 rfl (by decide) (k' := 0) (n' := 0) (c_s_size _ (by decide) hT2₉.1) ⟨⟨by decide, by decide⟩, ⟨rfl, rfl⟩, by decide, by decide⟩ rfl dX4_understand_20 (fun μ9 h9₉ => ?_)
    rw [h9₉]; clear h9₉
    refine J.icmp_geN (tgt := 30) dX4_understand_23 (by decide) (by omega) (by omega) (fun c23₉ => ?_) (fun c23₉ => ?_)
    · refine J.il2 dX4_understand_30 ?_
      obtain rfl : r = .inl e1 := by rw [← hr0₉]; exact pTxt_1 k1₉
      refine J.iret rfl (by decide) (by decide) dX4_understand_31 ⟨_, rfl, ?_, ?_⟩
      · rfl
      · exact ⟨hP2₉, trivial, hW2₉⟩
    · refine J.iconst (v := -1) dX4_understand_26 (by decide) ?_
      refine J.goto (tgt := 31) dX4_understand_27 (by decide) ?_
      obtain rfl : r = .inl e1 := by rw [← hr0₉]; exact pTxt_1 k1₉
      refine J.iret rfl (by decide) (by decide) dX4_understand_31 ⟨_, rfl, ?_, ?_⟩
      · rfl
      · exact ⟨hP2₉, trivial, hW2₉⟩
  · refine cl_X4_39 rfl (by decide) (k' := 0) (n' := 0) (seq_all hx₉ 5 0 rfl _ 0 (hT₉.rdf (b := 231) RdF.rf.wr (by decide)) (hC₉.rdf (b := 231) RdF.rf.wr (by decide)) wr_s (by omega) (by decide) _ k1₉) ⟨⟨by decide, by decide⟩, ⟨rfl, rfl⟩, by decide, by decide⟩ rfl dX4_understand_8 (fun μ2 ⟨hP2₉, hR2₉, hF2₉⟩ => ?_)
    have hW2₉ := hF2₉.trans (RdF.rf (b := 231)).wr (b := 201) (by omega) (by omega)
    have hT2₉ := hT₉.rdf hW2₉ (by decide)
    obtain ⟨u1, u2, u3, u4⟩ := pSq_few hC₉.sh hx₉ (by omega) (by omega) k1₉
    refine J.is2 dX4_understand_11 (by decide) rfl ?_
    refine J.al0 dX4_understand_12 ?_
    refine gf_X4_18 rfl (x := nI q1₉) (by decide) hP2₉ dX4_understand_13 ?_
    refine J.al0 dX4_understand_16 ?_
    refine gf_X4_12 rfl (o2 := 194) (by decide) rfl dX4_understand_17 ?_
    refine cl_X4_43 rfl (by decide) (k' := 0) (n' := 0) (c_s_size _ (by decide) hT2₉.1) ⟨⟨by decide, by decide⟩, ⟨rfl, rfl⟩, by decide, by decide⟩ rfl dX4_understand_20 (fun μ9 h9₉ => ?_)
    rw [h9₉]; clear h9₉
    refine J.icmp_geN (tgt := 30) dX4_understand_23 (by decide) (by omega) (by omega) (fun c23₉ => ?_) (fun c23₉ => ?_)
    · refine J.il2 dX4_understand_30 ?_
      obtain rfl : r = .inr (q1₉, f1, F1) := by rw [← hr0₉]; exact pTxt_3 k1₉ (by omega)
      refine J.iret rfl (by decide) (by decide) dX4_understand_31 ⟨_, rfl, ?_, ?_⟩
      · rfl
      · exact ⟨hP2₉, hR2₉, hW2₉⟩
    · refine J.iconst (v := -1) dX4_understand_26 (by decide) ?_
      refine J.goto (tgt := 31) dX4_understand_27 (by decide) ?_
      obtain rfl : r = .inl q1₉ := by rw [← hr0₉]; exact pTxt_2 k1₉ c23₉
      refine J.iret rfl (by decide) (by decide) dX4_understand_31 ⟨_, rfl, ?_, ?_⟩
      · rfl
      · exact ⟨hP2₉, trivial, hW2₉⟩

set_option maxRecDepth 100000 in
set_option maxHeartbeats 4000000 in
theorem c_r_place {g : GP} {adr : Nat → Nat} (μ : Mem) {p : Nat} (hp₉ : μ 193 1 = nI p) : CT g yX4_place mX4_place (RM 0 0 0) (WM g adr μ) [.ref (adr 193)] (PM g adr ((.inl (some (.int (nI p))))) (fun μ' => μ' = μ)) := by
  refine CT.of (l0 := [some (.ref (adr 193))]) (by decide +kernel) rfl (Nat.le_of_ble_eq_true rfl) rfl ?_
  refine J.al0 dX4_place_0 ?_
  refine gf_X4_18 rfl (x := nI p) (by decide) hp₉ dX4_place_1 ?_
  refine J.iret rfl (by decide) (by decide) dX4_place_4 ⟨_, rfl, ?_, ?_⟩
  · rfl
  · rfl

set_option maxRecDepth 100000 in
set_option maxHeartbeats 4000000 in
theorem c_result {g : GP} {adr : Nat → Nat} (μ : Mem)  : CT g yX4_result mX4_result (RM 0 0 0) (WM g adr μ) [.ref (adr 193)] (PM g adr (.inl (some (.ref (adr (201 + 6 * 0))))) (fun μ' => μ' = μ)) := by
  refine CT.of (l0 := [some (.ref (adr 193))]) (by decide +kernel) rfl (Nat.le_of_ble_eq_true rfl) rfl ?_
  refine J.al0 dX4_result_0 ?_
  refine gf_X4_24 rfl (o2 := 196) (by decide) rfl dX4_result_1 ?_
  refine J.iconst dX4_result_4 kI_0 ?_
  refine J.aaldP (a := 201 + 6 * 0) dX4_result_5 (by omega) (Or.inr (Or.inl ⟨by decide, by omega⟩)) ?_
  refine J.aret (C := "TwistyBarrels$Permutation") rfl (by decide) (by decide) dX4_result_6 ⟨_, rfl, ?_, ?_⟩
  · rfl
  · rfl
