/-! ===== printed: the reader of sequences ===== -/
set_option maxRecDepth 100000 in
set_option maxHeartbeats 4000000 in
theorem c_digitS {g : GP} {adr : Nat → Nat} (μ : Mem) {t : Nat → Nat} {x p lo hi₉ w : Nat} (hT₉ : SgT μ 194 x t) (hx₉ : x ≤ 60) (hp₉ : μ 193 1 = nI p) (h1₉ : lo < 65536) (h2₉ : hi₉ < 65536) (hs₉ : pDig t x p lo hi₉ = some w) : CT g yX4_digit mX4_digit (RM 1 0 0) (WM g adr μ) [.ref (adr 193), .int (nI lo), .int (nI hi₉)] (PM g adr ((.inl (some (.int (nI w))))) (fun μ' => μ' = wr μ 193 1 (nI (p + 1)))) := by
  refine CT.of (l0 := [some (.ref (adr 193)), some (.int (nI lo)), some (.int (nI hi₉)), none]) (by decide +kernel) rfl (Nat.le_of_ble_eq_true rfl) rfl ?_
  have g1 := pDig_some hs₉
  refine J.al0 dX4_digit_0 ?_
  refine gf_X4_12 rfl (o2 := 194) (by decide) rfl dX4_digit_1 ?_
  refine J.al0 dX4_digit_4 ?_
  refine gf_X4_18 rfl (x := nI p) (by decide) hp₉ dX4_digit_5 ?_
  refine cl_X4_47 rfl (by decide) (k' := 0) (n' := 0) (c_signAt _ (by decide) hT₉.1 (by omega) (by omega) (fun k hk₉ => (hT₉.2 k hk₉).1)) ⟨⟨by decide, by decide⟩, ⟨rfl, rfl⟩, by decide, by decide⟩ rfl dX4_digit_8 (fun μ9 h9₉ => ?_)
  rw [h9₉]; clear h9₉
  refine J.bipush dX4_digit_11 kb_48 ?_
  refine J.isubN dX4_digit_13 (by omega) ?_
  refine J.is3 dX4_digit_14 (by decide) rfl ?_
  refine J.il3 dX4_digit_15 ?_
  refine J.il1 dX4_digit_16 ?_
  refine J.icmp_ltN (tgt := 25) dX4_digit_17 (by decide) (by omega) (by omega) (fun c17₉ => absurd c17₉ (by first | omega | (simp only [not_true_eq_false, not_false_eq_true]; done) | (simp; done))) (fun c17₉ => ?_)
  refine J.il3 dX4_digit_20 ?_
  refine J.il2 dX4_digit_21 ?_
  refine J.icmp_leN (tgt := 27) dX4_digit_22 (by decide) (by omega) (by omega) (fun c22₉ => ?_) (fun c22₉ => absurd c22₉ (by first | omega | (simp only [not_true_eq_false, not_false_eq_true]; done) | (simp; done)))
  refine J.al0 dX4_digit_27 ?_
  refine J.dup dX4_digit_28 rfl ?_
  refine gf_X4_18 rfl (x := nI p) (by decide) hp₉ dX4_digit_29 ?_
  refine J.iconst dX4_digit_32 kI_1 ?_
  refine J.iaddN dX4_digit_33 ?_
  refine pf_X4_18 rfl (by decide) dX4_digit_34 ?_
  refine J.il3 dX4_digit_37 ?_
  refine J.iret rfl (by decide) (by decide) dX4_digit_38 ⟨_, rfl, ?_, ?_⟩
  · rw [show t p - 48 = w by omega]
  · rfl

set_option maxRecDepth 100000 in
set_option maxHeartbeats 4000000 in
theorem c_moveItem0 {g : GP} {adr : Nat → Nat} (μ : Mem) {t : Nat → Nat} {x p d : Nat} {r : PRes} (hT₉ : SgT μ 194 x t) (hx₉ : x ≤ 60) (hp₉ : μ 193 1 = nI p) (hpx₉ : p < x) (hd₉ : d < 5) (hr0₉ : pMove t x 0 p = r) : CT g yX4_moveItem mX4_moveItem (RM 2 0 0) (WM g adr μ) [.ref (adr 193), .int (nI 0), .ref (adr (203 + 6 * d))] (PM g adr ((.inl (some (.int (pVal r))))) (fun μ' => RdP μ' μ (203 + 6 * d) (203 + 6 * d + 1) r)) := by
  refine CT.of (l0 := [some (.ref (adr 193)), some (.int (nI 0)), some (.ref (adr (203 + 6 * d))), none, none]) (by decide +kernel) rfl (Nat.le_of_ble_eq_true rfl) rfl ?_
  refine J.al0 dX4_moveItem_0 ?_
  refine J.dup dX4_moveItem_1 rfl ?_
  refine gf_X4_18 rfl (x := nI p) (by decide) hp₉ dX4_moveItem_2 ?_
  refine J.iconst dX4_moveItem_5 kI_1 ?_
  refine J.iaddN dX4_moveItem_6 ?_
  refine pf_X4_18 rfl (by decide) dX4_moveItem_7 ?_
  refine J.al0 dX4_moveItem_10 ?_
  refine J.iconst dX4_moveItem_11 kI_0 ?_
  refine J.il1 dX4_moveItem_12 ?_
  refine J.if_neN (tgt := 20) dX4_moveItem_13 (by decide) (by omega) (fun c13₉ => absurd c13₉ (by first | omega | (simp only [not_true_eq_false, not_false_eq_true]; done) | (simp; done))) (fun c13₉ => ?_)
  refine J.iconst dX4_moveItem_16 kI_3 ?_
  refine J.goto (tgt := 22) dX4_moveItem_17 (by decide) ?_
  rcases k1₉ : pDig t x (p + 1) 0 3 with _ | w
  · refine cl_X4_90 rfl (by decide) (k' := 0) (n' := 0) (c_digitN _ (hT₉.rdf (b := 231) RdF.rf.wr (by decide)) hx₉ wr_s (by omega) (by decide) (by decide) k1₉) ⟨⟨by decide, by decide⟩, ⟨rfl, rfl⟩, by decide, by decide⟩ rfl dX4_moveItem_22 (fun μ9 h9₉ => ?_)
    rw [h9₉]; clear h9₉
    refine J.is3 dX4_moveItem_25 (by decide) rfl ?_
    refine J.il3 dX4_moveItem_26 ?_
    refine J.iconst (v := -1) dX4_moveItem_27 (by decide) ?_
    refine J.icmp_neV (tgt := 35) dX4_moveItem_28 (by decide) ?_
    refine J.iconst (v := -1) dX4_moveItem_31 (by decide) ?_
    refine J.goto (tgt := 46) dX4_moveItem_32 (by decide) ?_
    refine J.is4 dX4_moveItem_46 (by decide) rfl ?_
    refine J.il4 dX4_moveItem_48 ?_
    refine J.iconst (v := -1) dX4_moveItem_50 (by decide) ?_
    refine J.icmp_neV (tgt := 56) dX4_moveItem_51 (by decide) ?_
    refine J.iconst (v := -1) dX4_moveItem_54 (by decide) ?_
    obtain rfl : r = .inl (p + 1) := by rw [← hr0₉]; exact pMove_1 (a := 0) k1₉
    refine J.iret rfl (by decide) (by decide) dX4_moveItem_55 ⟨_, rfl, ?_, ?_⟩
    · rfl
    · exact ⟨wr_s, trivial, RdF.rf.wr⟩
  · refine cl_X4_90 rfl (by decide) (k' := 0) (n' := 0) (c_digitS _ (hT₉.rdf (b := 231) RdF.rf.wr (by decide)) hx₉ wr_s (by decide) (by decide) k1₉) ⟨⟨by decide, by decide⟩, ⟨rfl, rfl⟩, by decide, by decide⟩ rfl dX4_moveItem_22 (fun μ2 h2₉ => ?_)
    subst h2₉
    have g2 := pDig_some k1₉
    refine J.is3 dX4_moveItem_25 (by decide) rfl ?_
    refine J.il3 dX4_moveItem_26 ?_
    refine J.iconst (v := -1) dX4_moveItem_27 (by decide) ?_
    refine J.icmp_neW (by omega) (tgt := 35) dX4_moveItem_28 (by decide) ?_
    refine J.al0 dX4_moveItem_35 ?_
    refine J.iconst dX4_moveItem_36 kI_1 ?_
    refine J.il1 dX4_moveItem_37 ?_
    refine cl_X4_94 rfl (k' := 0) (n' := 0) (c_roundOf0 _) ⟨⟨by decide, by decide⟩, ⟨rfl, rfl⟩, by decide, by decide⟩ rfl dX4_moveItem_38 (fun μ9 h9₉ => ?_)
    rw [h9₉]; clear h9₉
    refine J.iconst dX4_moveItem_41 kI_1 ?_
    refine J.isubN dX4_moveItem_42 (by omega) ?_
    rcases k2₉ : pDig t x (p + 2) 1 7 with _ | b
    · refine cl_X4_90 rfl (by decide) (k' := 0) (n' := 0) (c_digitN _ (hT₉.rdf (b := 231) RdF.rf.wr.wr (by decide)) hx₉ wr_s (by omega) (by decide) (by decide) k2₉) ⟨⟨by decide, by decide⟩, ⟨rfl, rfl⟩, by decide, by decide⟩ rfl dX4_moveItem_43 (fun μ9 h9₉ => ?_)
      rw [h9₉]; clear h9₉
      refine J.is4 dX4_moveItem_46 (by decide) rfl ?_
      refine J.il4 dX4_moveItem_48 ?_
      refine J.iconst (v := -1) dX4_moveItem_50 (by decide) ?_
      refine J.icmp_neV (tgt := 56) dX4_moveItem_51 (by decide) ?_
      refine J.iconst (v := -1) dX4_moveItem_54 (by decide) ?_
      obtain rfl : r = .inl (p + 2) := by rw [← hr0₉]; exact pMove_2 (a := 0) k1₉ k2₉
      refine J.iret rfl (by decide) (by decide) dX4_moveItem_55 ⟨_, rfl, ?_, ?_⟩
      · rfl
      · exact ⟨wr_s, trivial, RdF.rf.wr.wr⟩
    · refine cl_X4_90 rfl (by decide) (k' := 0) (n' := 0) (c_digitS _ (hT₉.rdf (b := 231) RdF.rf.wr.wr (by decide)) hx₉ wr_s (by decide) (by decide) k2₉) ⟨⟨by decide, by decide⟩, ⟨rfl, rfl⟩, by decide, by decide⟩ rfl dX4_moveItem_43 (fun μ3 h3₉ => ?_)
      subst h3₉
      have g3 := pDig_some k2₉
      refine J.is4 dX4_moveItem_46 (by decide) rfl ?_
      refine J.il4 dX4_moveItem_48 ?_
      refine J.iconst (v := -1) dX4_moveItem_50 (by decide) ?_
      refine J.icmp_neW (by omega) (tgt := 56) dX4_moveItem_51 (by decide) ?_
      refine J.al2 dX4_moveItem_56 ?_
      refine J.il1 dX4_moveItem_57 ?_
      refine J.il3 dX4_moveItem_58 ?_
      refine J.il4 dX4_moveItem_59 ?_
      refine cl_X4_97 rfl (kt_rd (d := d) (by omega)).2.1 (k' := 0) (n' := 0) (c_toMove _ (kt_rd hd₉).2.1 (by omega)) ⟨⟨by decide, by decide⟩, ⟨rfl, rfl⟩, by decide, by decide⟩ rfl dX4_moveItem_61 (fun μ4 ⟨h4₉, hO4₉⟩ => ?_)
      refine J.iconst dX4_moveItem_64 kI_1 ?_
      obtain rfl : r = .inr (p + 3, 1, moveF 0 w b) := by rw [← hr0₉]; exact pMove_3 (a := 0) k1₉ k2₉
      refine J.iret rfl (by decide) (by decide) dX4_moveItem_65 ⟨_, rfl, ?_, ?_⟩
      · rfl
      · exact ⟨(congrFun (hO4₉ 193 (by omega)) 1).trans wr_s, h4₉, RdF.off hO4₉ RdF.rf.wr.wr.wr (by omega)⟩

set_option maxRecDepth 100000 in
set_option maxHeartbeats 4000000 in
theorem c_moveItem1 {g : GP} {adr : Nat → Nat} (μ : Mem) {t : Nat → Nat} {x p d : Nat} {r : PRes} (hT₉ : SgT μ 194 x t) (hx₉ : x ≤ 60) (hp₉ : μ 193 1 = nI p) (hpx₉ : p < x) (hd₉ : d < 5) (hr0₉ : pMove t x 1 p = r) : CT g yX4_moveItem mX4_moveItem (RM 2 0 0) (WM g adr μ) [.ref (adr 193), .int (nI 1), .ref (adr (203 + 6 * d))] (PM g adr ((.inl (some (.int (pVal r))))) (fun μ' => RdP μ' μ (203 + 6 * d) (203 + 6 * d + 1) r)) := by
  refine CT.of (l0 := [some (.ref (adr 193)), some (.int (nI 1)), some (.ref (adr (203 + 6 * d))), none, none]) (by decide +kernel) rfl (Nat.le_of_ble_eq_true rfl) rfl ?_
  refine J.al0 dX4_moveItem_0 ?_
  refine J.dup dX4_moveItem_1 rfl ?_
  refine gf_X4_18 rfl (x := nI p) (by decide) hp₉ dX4_moveItem_2 ?_
  refine J.iconst dX4_moveItem_5 kI_1 ?_
  refine J.iaddN dX4_moveItem_6 ?_
  refine pf_X4_18 rfl (by decide) dX4_moveItem_7 ?_
  refine J.al0 dX4_moveItem_10 ?_
  refine J.iconst dX4_moveItem_11 kI_0 ?_
  refine J.il1 dX4_moveItem_12 ?_
  refine J.if_neN (tgt := 20) dX4_moveItem_13 (by decide) (by omega) (fun c13₉ => ?_) (fun c13₉ => absurd c13₉ (by first | omega | (simp only [not_true_eq_false, not_false_eq_true]; done) | (simp; done)))
  refine J.bipush dX4_moveItem_20 kb_7 ?_
  rcases k1₉ : pDig t x (p + 1) 0 7 with _ | w
  · refine cl_X4_90 rfl (by decide) (k' := 0) (n' := 0) (c_digitN _ (hT₉.rdf (b := 231) RdF.rf.wr (by decide)) hx₉ wr_s (by omega) (by decide) (by decide) k1₉) ⟨⟨by decide, by decide⟩, ⟨rfl, rfl⟩, by decide, by decide⟩ rfl dX4_moveItem_22 (fun μ9 h9₉ => ?_)
    rw [h9₉]; clear h9₉
    refine J.is3 dX4_moveItem_25 (by decide) rfl ?_
    refine J.il3 dX4_moveItem_26 ?_
    refine J.iconst (v := -1) dX4_moveItem_27 (by decide) ?_
    refine J.icmp_neV (tgt := 35) dX4_moveItem_28 (by decide) ?_
    refine J.iconst (v := -1) dX4_moveItem_31 (by decide) ?_
    refine J.goto (tgt := 46) dX4_moveItem_32 (by decide) ?_
    refine J.is4 dX4_moveItem_46 (by decide) rfl ?_
    refine J.il4 dX4_moveItem_48 ?_
    refine J.iconst (v := -1) dX4_moveItem_50 (by decide) ?_
    refine J.icmp_neV (tgt := 56) dX4_moveItem_51 (by decide) ?_
    refine J.iconst (v := -1) dX4_moveItem_54 (by decide) ?_
    obtain rfl : r = .inl (p + 1) := by rw [← hr0₉]; exact pMove_1 (a := 1) k1₉
    refine J.iret rfl (by decide) (by decide) dX4_moveItem_55 ⟨_, rfl, ?_, ?_⟩
    · rfl
    · exact ⟨wr_s, trivial, RdF.rf.wr⟩
  · refine cl_X4_90 rfl (by decide) (k' := 0) (n' := 0) (c_digitS _ (hT₉.rdf (b := 231) RdF.rf.wr (by decide)) hx₉ wr_s (by decide) (by decide) k1₉) ⟨⟨by decide, by decide⟩, ⟨rfl, rfl⟩, by decide, by decide⟩ rfl dX4_moveItem_22 (fun μ2 h2₉ => ?_)
    subst h2₉
    have g2 := pDig_some k1₉
    refine J.is3 dX4_moveItem_25 (by decide) rfl ?_
    refine J.il3 dX4_moveItem_26 ?_
    refine J.iconst (v := -1) dX4_moveItem_27 (by decide) ?_
    refine J.icmp_neW (by omega) (tgt := 35) dX4_moveItem_28 (by decide) ?_
    refine J.al0 dX4_moveItem_35 ?_
    refine J.iconst dX4_moveItem_36 kI_1 ?_
    refine J.il1 dX4_moveItem_37 ?_
    refine cl_X4_94 rfl (k' := 0) (n' := 0) (c_roundOf1 _) ⟨⟨by decide, by decide⟩, ⟨rfl, rfl⟩, by decide, by decide⟩ rfl dX4_moveItem_38 (fun μ9 h9₉ => ?_)
    rw [h9₉]; clear h9₉
    refine J.iconst dX4_moveItem_41 kI_1 ?_
    refine J.isubN dX4_moveItem_42 (by omega) ?_
    rcases k2₉ : pDig t x (p + 2) 1 3 with _ | b
    · refine cl_X4_90 rfl (by decide) (k' := 0) (n' := 0) (c_digitN _ (hT₉.rdf (b := 231) RdF.rf.wr.wr (by decide)) hx₉ wr_s (by omega) (by decide) (by decide) k2₉) ⟨⟨by decide, by decide⟩, ⟨rfl, rfl⟩, by decide, by decide⟩ rfl dX4_moveItem_43 (fun μ9 h9₉ => ?_)
      rw [h9₉]; clear h9₉
      refine J.is4 dX4_moveItem_46 (by decide) rfl ?_
      refine J.il4 dX4_moveItem_48 ?_
      refine J.iconst (v := -1) dX4_moveItem_50 (by decide) ?_
      refine J.icmp_neV (tgt := 56) dX4_moveItem_51 (by decide) ?_
      refine J.iconst (v := -1) dX4_moveItem_54 (by decide) ?_
      obtain rfl : r = .inl (p + 2) := by rw [← hr0₉]; exact pMove_2 (a := 1) k1₉ k2₉
      refine J.iret rfl (by decide) (by decide) dX4_moveItem_55 ⟨_, rfl, ?_, ?_⟩
      · rfl
      · exact ⟨wr_s, trivial, RdF.rf.wr.wr⟩
    · refine cl_X4_90 rfl (by decide) (k' := 0) (n' := 0) (c_digitS _ (hT₉.rdf (b := 231) RdF.rf.wr.wr (by decide)) hx₉ wr_s (by decide) (by decide) k2₉) ⟨⟨by decide, by decide⟩, ⟨rfl, rfl⟩, by decide, by decide⟩ rfl dX4_moveItem_43 (fun μ3 h3₉ => ?_)
      subst h3₉
      have g3 := pDig_some k2₉
      refine J.is4 dX4_moveItem_46 (by decide) rfl ?_
      refine J.il4 dX4_moveItem_48 ?_
      refine J.iconst (v := -1) dX4_moveItem_50 (by decide) ?_
      refine J.icmp_neW (by omega) (tgt := 56) dX4_moveItem_51 (by decide) ?_
      refine J.al2 dX4_moveItem_56 ?_
      refine J.il1 dX4_moveItem_57 ?_
      refine J.il3 dX4_moveItem_58 ?_
      refine J.il4 dX4_moveItem_59 ?_
      refine cl_X4_97 rfl (kt_rd (d := d) (by omega)).2.1 (k' := 0) (n' := 0) (c_toMove _ (kt_rd hd₉).2.1 (by omega)) ⟨⟨by decide, by decide⟩, ⟨rfl, rfl⟩, by decide, by decide⟩ rfl dX4_moveItem_61 (fun μ4 ⟨h4₉, hO4₉⟩ => ?_)
      refine J.iconst dX4_moveItem_64 kI_1 ?_
      obtain rfl : r = .inr (p + 3, 1, moveF 1 w b) := by rw [← hr0₉]; exact pMove_3 (a := 1) k1₉ k2₉
      refine J.iret rfl (by decide) (by decide) dX4_moveItem_65 ⟨_, rfl, ?_, ?_⟩
      · rfl
      · exact ⟨(congrFun (hO4₉ 193 (by omega)) 1).trans wr_s, h4₉, RdF.off hO4₉ RdF.rf.wr.wr.wr (by omega)⟩

set_option maxRecDepth 100000 in
set_option maxHeartbeats 4000000 in
theorem c_shelfItem1 {g : GP} {adr : Nat → Nat} (μ : Mem) {t : Nat → Nat} {x p d : Nat} {σ : AS} {r : PRes} (hT₉ : SgT μ 194 x t) (hx₉ : x ≤ 60) (hC₉ : CS μ 1 σ) (hp₉ : μ 193 1 = nI p) (hpx₉ : p ≤ x) (hpl₉ : p < x) (hd₉ : d < 5) (hs₉ : pDig t x (p + 1) 0 4 = none) (hr0₉ : pShelf t x σ p = r) : CT g yX4_shelfItem mX4_shelfItem (RM 2 0 0) (WM g adr μ) [.ref (adr 193), .ref (adr 1), .ref (adr (203 + 6 * d))] (PM g adr ((.inl (some (.int (pVal r))))) (fun μ' => RdP μ' μ (203 + 6 * d) (203 + 6 * d + 1) r)) := by
  refine CT.of (l0 := [some (.ref (adr 193)), some (.ref (adr 1)), some (.ref (adr (203 + 6 * d))), none]) (by decide +kernel) rfl (Nat.le_of_ble_eq_true rfl) rfl ?_
  refine J.al0 dX4_shelfItem_0 ?_
  refine J.dup dX4_shelfItem_1 rfl ?_
  refine gf_X4_18 rfl (x := nI p) (by decide) hp₉ dX4_shelfItem_2 ?_
  refine J.iconst dX4_shelfItem_5 kI_1 ?_
  refine J.iaddN dX4_shelfItem_6 ?_
  refine pf_X4_18 rfl (by decide) dX4_shelfItem_7 ?_
  refine J.al0 dX4_shelfItem_10 ?_
  refine gf_X4_12 rfl (o2 := 194) (by decide) rfl dX4_shelfItem_11 ?_
  refine J.al0 dX4_shelfItem_14 ?_
  refine gf_X4_18 rfl (x := nI (p + 1)) (by decide) wr_s dX4_shelfItem_15 ?_
  refine cl_X4_47 rfl (by decide) (k' := 0) (n' := 0) (signAtI _ (by decide) (hT₉.rdf (b := 231) RdF.rf.wr (by decide)) (by omega) (by omega)) ⟨⟨by decide, by decide⟩, ⟨rfl, rfl⟩, by decide, by decide⟩ rfl dX4_shelfItem_18 (fun μ9 h9₉ => ?_)
  rw [h9₉]; clear h9₉
  refine J.bipush dX4_shelfItem_21 kb_48 ?_
  refine J.isub dX4_shelfItem_23 rfl ?_
  refine J.is3 dX4_shelfItem_24 (by decide) rfl ?_
  refine J.al1 dX4_shelfItem_25 ?_
  refine J.il3 dX4_shelfItem_26 ?_
  refine cl_X4_101 rfl (by decide) (k' := 0) (n' := 0) (c_isFilledX _ (by decide) (sg_shelf (fun k hk₉ => (hT₉.2 k hk₉).2) hs₉)) ⟨⟨by decide, by decide⟩, ⟨rfl, rfl⟩, by decide, by decide⟩ rfl dX4_shelfItem_27 (fun μ9 h9₉ => ?_)
  rw [h9₉]; clear h9₉
  refine J.if_neN (tgt := 35) dX4_shelfItem_30 (by decide) (by omega) (fun c30₉ => absurd c30₉ (by first | omega | (simp only [not_true_eq_false, not_false_eq_true]; done) | (simp; done))) (fun c30₉ => ?_)
  refine J.iconst (v := -1) dX4_shelfItem_33 (by decide) ?_
  obtain rfl : r = .inl (p + 1) := by rw [← hr0₉]; exact pShelf_1 hs₉
  refine J.iret rfl (by decide) (by decide) dX4_shelfItem_34 ⟨_, rfl, ?_, ?_⟩
  · rfl
  · exact ⟨wr_s, trivial, RdF.rf.wr⟩
