/-! ===== printed: the model: reading a text ===== -/
set_option maxRecDepth 100000 in
set_option maxHeartbeats 4000000 in
theorem c_m_rtW1 {g : GP} {adr : Nat → Nat} (μ : Mem) {t : Nat → Nat} {x : Nat} {σ : AS} (hT₉ : TxM μ 245 14 (x, t)) (hx₉ : x ≤ 60) (hS₉ : MS μ 238 0 σ) {e : Nat} (hr0x : pTxt t x σ = .inl e) : CT g yX8_readsText mX8_readsText (RM 22 0 0) (WM g adr μ) [.ref (adr 237), .int (nI 1)] (PM g adr ((.inl (some (.int (nI 0))))) (fun μ' => μ' 237 6 = nI 1 ∧ μ' 237 17 = nI e ∧ μ' 237 14 = nI 0 ∧ ∀ o k, o ≠ 242 → o ≠ 243 → (o ≠ 237 ∨ (k ≠ 6 ∧ k ≠ 11 ∧ k ≠ 14 ∧ k ≠ 15 ∧ k ≠ 16 ∧ k ≠ 17)) → μ' o k = μ o k)) := by
  refine CT.of (l0 := [some (.ref (adr 237)), some (.int (nI 1)), none]) (by decide +kernel) rfl (Nat.le_of_ble_eq_true rfl) rfl ?_
  refine J.al0 dX8_readsText_0 ?_
  refine J.iconst dX8_readsText_1 kI_0 ?_
  refine pf_X8_60 rfl (by decide) dX8_readsText_2 ?_
  refine J.al0 dX8_readsText_5 ?_
  refine J.iconst dX8_readsText_6 kI_0 ?_
  refine pf_X8_141 rfl (by decide) dX8_readsText_7 ?_
  refine J.al0 dX8_readsText_10 ?_
  refine J.iconst dX8_readsText_11 kI_0 ?_
  refine pf_X8_137 rfl (by decide) (Or.inl nI_0) dX8_readsText_12 ?_
  refine J.al0 dX8_readsText_15 ?_
  refine J.iconst dX8_readsText_16 kI_0 ?_
  rcases k1₉ : pSq t x σ 5 0 with e1 | ⟨q1₉, f1, F1⟩
  · refine cl_X8_162 rfl (by decide) (k' := 0) (n' := 0) (seqM_all hx₉ 5 0 rfl _ 0 0 (hT₉.eq (by simp only [wr_n (show (237 : Nat) ≠ 237 ∨ (14 : Nat) ≠ 16 by decide), wr_n (show (237 : Nat) ≠ 237 ∨ (14 : Nat) ≠ 15 by decide), wr_n (show (237 : Nat) ≠ 237 ∨ (14 : Nat) ≠ 11 by decide)]) (by simp only [wr_o (show (245 : Nat) ≠ 237 by decide)])) (hS₉.off (by simp only [wr_o (show (238 : Nat) ≠ 237 by decide)])) ((wr_n (by decide)).trans wr_s) (Nat.zero_le _) wr_s ((wr_n (by decide)).trans ((wr_n (by decide)).trans wr_s)) (fun j hj₉ => absurd hj₉ (Nat.not_lt_zero j)) (by omega) (by decide) _ k1₉) ⟨⟨by decide, by decide⟩, ⟨rfl, rfl⟩, by decide, by decide⟩ rfl dX8_readsText_17 (fun μ2 ⟨hP2₉, hW2₉, ⟨r2, hg2₉, hl2x, hr2₉, hV2₉⟩, hF2₉⟩ => ?_)
    have hO2₉ : ∀ o k, o ≠ 242 → o ≠ 243 → (o ≠ 237 ∨ (k ≠ 11 ∧ k ≠ 15 ∧ k ≠ 16)) → μ2 o k = μ o k := fun o k a b c => by rw [hF2₉.2.2 o k a b c, wr_n (by omega), wr_n (by omega), wr_n (by omega)]
    have hl2₉ : μ2 237 14 = nI x := (hO2₉ 237 14 (by decide) (by decide) (by decide)).trans hT₉.1
    refine J.is2 dX8_readsText_20 (by decide) rfl ?_
    refine J.al0 dX8_readsText_21 ?_
    refine J.al0 dX8_readsText_22 ?_
    refine gf_X8_137 rfl (x := nI 1) (by decide) hW2₉ dX8_readsText_23 ?_
    refine J.if_neN (tgt := 40) dX8_readsText_26 (by decide) (by omega) (fun c26₉ => ?_) (fun c26₉ => absurd c26₉ (by first | omega | (simp only [not_true_eq_false, not_false_eq_true]; done) | (simp; done)))
    refine J.iconst dX8_readsText_40 kI_1 ?_
    refine J.goto (tgt := 45) dX8_readsText_41 (by decide) ?_
    refine pf_X8_137 rfl (by decide) (Or.inr (by decide)) dX8_readsText_45 ?_
    refine J.al0 dX8_readsText_48 ?_
    refine J.iconst dX8_readsText_49 kI_0 ?_
    refine pf_X8_134 rfl (by decide) dX8_readsText_50 ?_
    refine J.al0 dX8_readsText_53 ?_
    refine gf_X8_137 rfl (x := nI 1) (by decide) (by rw [wr_n (by omega)]; exact wr_s) dX8_readsText_54 ?_
    refine J.if_eqN (tgt := 74) dX8_readsText_57 (by decide) (by omega) (fun c57₉ => absurd c57₉ (by first | omega | (simp only [not_true_eq_false, not_false_eq_true]; done) | (simp; done))) (fun c57₉ => ?_)
    refine J.al0 dX8_readsText_60 ?_
    refine J.al0 dX8_readsText_61 ?_
    refine gf_X8_141 rfl (x := nI e1) (by decide) (by rw [wr_n (by omega)]; rw [wr_n (by omega)]; exact hP2₉) dX8_readsText_62 ?_
    refine pf_X8_35 rfl (by decide) dX8_readsText_65 ?_
    refine J.al0 dX8_readsText_68 ?_
    refine J.il1 dX8_readsText_69 ?_
    refine cl_X8_97 rfl (by decide) (k' := 0) (n' := 0) (c_m_fails _) ⟨⟨by decide, by decide⟩, ⟨rfl, rfl⟩, by decide, by decide⟩ rfl dX8_readsText_70 (fun μ5 h5₉ => ?_)
    subst h5₉
    obtain rfl : e = e1 := by
      have h9₉ := hr0x.symm.trans (pTxt_1 k1₉)
      exact Sum.inl.inj h9₉
    refine J.iret rfl (by decide) (by decide) dX8_readsText_73 ⟨_, rfl, ?_, ?_⟩
    · rfl
    · exact ⟨wr_s, (by rw [wr_n (by omega)]; exact wr_s), (by rw [wr_n (by omega)]; rw [wr_n (by omega)]; exact wr_s), fun o k a b c => by rw [wr_n (by omega), wr_n (by omega), wr_n (by omega), wr_n (by omega), hO2₉ o k a b (by omega)]⟩
  · refine cl_X8_162 rfl (by decide) (k' := 0) (n' := 0) (seqM_all hx₉ 5 0 rfl _ 0 0 (hT₉.eq (by simp only [wr_n (show (237 : Nat) ≠ 237 ∨ (14 : Nat) ≠ 16 by decide), wr_n (show (237 : Nat) ≠ 237 ∨ (14 : Nat) ≠ 15 by decide), wr_n (show (237 : Nat) ≠ 237 ∨ (14 : Nat) ≠ 11 by decide)]) (by simp only [wr_o (show (245 : Nat) ≠ 237 by decide)])) (hS₉.off (by simp only [wr_o (show (238 : Nat) ≠ 237 by decide)])) ((wr_n (by decide)).trans wr_s) (Nat.zero_le _) wr_s ((wr_n (by decide)).trans ((wr_n (by decide)).trans wr_s)) (fun j hj₉ => absurd hj₉ (Nat.not_lt_zero j)) (by omega) (by decide) _ k1₉) ⟨⟨by decide, by decide⟩, ⟨rfl, rfl⟩, by decide, by decide⟩ rfl dX8_readsText_17 (fun μ2 ⟨hP2₉, hW2₉, ⟨r2, hg2₉, hl2x, hr2₉, hV2₉⟩, hF2₉, hR2₉, hc2₉⟩ => ?_)
    have hO2₉ : ∀ o k, o ≠ 242 → o ≠ 243 → (o ≠ 237 ∨ (k ≠ 11 ∧ k ≠ 15 ∧ k ≠ 16)) → μ2 o k = μ o k := fun o k a b c => by rw [hF2₉.2.2 o k a b c, wr_n (by omega), wr_n (by omega), wr_n (by omega)]
    have hl2₉ : μ2 237 14 = nI x := (hO2₉ 237 14 (by decide) (by decide) (by decide)).trans hT₉.1
    obtain ⟨u1, u2, u3, u4⟩ := pSq_few hS₉.vs.2.2.2.2 hx₉ (by omega) (by omega) k1₉
    refine J.is2 dX8_readsText_20 (by decide) rfl ?_
    refine J.al0 dX8_readsText_21 ?_
    refine J.al0 dX8_readsText_22 ?_
    refine gf_X8_137 rfl (x := nI 0) (by decide) hW2₉ dX8_readsText_23 ?_
    refine J.if_neN (tgt := 40) dX8_readsText_26 (by decide) (by omega) (fun c26₉ => absurd c26₉ (by first | omega | (simp only [not_true_eq_false, not_false_eq_true]; done) | (simp; done))) (fun c26₉ => ?_)
    refine J.al0 dX8_readsText_29 ?_
    refine gf_X8_141 rfl (x := nI q1₉) (by decide) hP2₉ dX8_readsText_30 ?_
    refine J.al0 dX8_readsText_33 ?_
    refine gf_X8_134 rfl (x := nI x) (by decide) hl2₉ dX8_readsText_34 ?_
    refine J.icmp_geN (tgt := 44) dX8_readsText_37 (by decide) (by omega) (by omega) (fun c37₉ => ?_) (fun c37₉ => ?_)
    · refine J.iconst dX8_readsText_44 kI_0 ?_
      refine pf_X8_137 rfl (by decide) (Or.inl nI_0) dX8_readsText_45 ?_
      refine J.al0 dX8_readsText_48 ?_
      refine J.iconst dX8_readsText_49 kI_0 ?_
      refine pf_X8_134 rfl (by decide) dX8_readsText_50 ?_
      refine J.al0 dX8_readsText_53 ?_
      refine gf_X8_137 rfl (x := nI 0) (by decide) (by rw [wr_n (by omega)]; exact wr_s) dX8_readsText_54 ?_
      refine J.if_eqN (tgt := 74) dX8_readsText_57 (by decide) (by omega) (fun c57₉ => ?_) (fun c57₉ => absurd c57₉ (by first | omega | (simp only [not_true_eq_false, not_false_eq_true]; done) | (simp; done)))
      refine J.al0 dX8_readsText_74 ?_
      refine gf_X8_25 rfl (o2 := 243) (by decide) rfl dX8_readsText_75 ?_
      refine J.il2 dX8_readsText_78 ?_
      refine J.iald (N := 200) (x := nI f1) (by decide) (by decide) (by decide) (by omega) (by rw [wr_n (by omega)]; rw [wr_n (by omega)]; exact hc2₉) dX8_readsText_79 ?_
      refine J.sipush dX8_readsText_80 kc_200 ?_
      refine J.icmp_leN (tgt := 100) dX8_readsText_83 (by decide) (by omega) (by omega) (fun c83₉ => ?_) (fun c83₉ => ?_)
      · refine J.il2 dX8_readsText_100 ?_
        have h9₉ := hr0x.symm.trans (pTxt_3 k1₉ (by omega))
        cases h9₉
      · refine J.al0 dX8_readsText_86 ?_
        refine J.il1 dX8_readsText_87 ?_
        refine J.iconst dX8_readsText_88 kI_1 ?_
        refine J.iaddN dX8_readsText_89 ?_
        refine J.iconst dX8_readsText_90 kI_2 ?_
        refine J.sipush dX8_readsText_91 kc_200 ?_
        refine cl_X8_110 rfl (by decide) (k' := 0) (n' := 0) (c_m_refuse _) ⟨⟨by decide, by decide⟩, ⟨rfl, rfl⟩, by decide, by decide⟩ rfl dX8_readsText_94 (fun μ5 h5₉ => ?_)
        subst h5₉
        refine J.goto (tgt := 101) dX8_readsText_97 (by decide) ?_
        have h9₉ := hr0x.symm.trans (pTxt_3 k1₉ (by omega))
        cases h9₉
    · refine J.iconst dX8_readsText_40 kI_1 ?_
      refine J.goto (tgt := 45) dX8_readsText_41 (by decide) ?_
      refine pf_X8_137 rfl (by decide) (Or.inr (by decide)) dX8_readsText_45 ?_
      refine J.al0 dX8_readsText_48 ?_
      refine J.iconst dX8_readsText_49 kI_0 ?_
      refine pf_X8_134 rfl (by decide) dX8_readsText_50 ?_
      refine J.al0 dX8_readsText_53 ?_
      refine gf_X8_137 rfl (x := nI 1) (by decide) (by rw [wr_n (by omega)]; exact wr_s) dX8_readsText_54 ?_
      refine J.if_eqN (tgt := 74) dX8_readsText_57 (by decide) (by omega) (fun c57₉ => absurd c57₉ (by first | omega | (simp only [not_true_eq_false, not_false_eq_true]; done) | (simp; done))) (fun c57₉ => ?_)
      refine J.al0 dX8_readsText_60 ?_
      refine J.al0 dX8_readsText_61 ?_
      refine gf_X8_141 rfl (x := nI q1₉) (by decide) (by rw [wr_n (by omega)]; rw [wr_n (by omega)]; exact hP2₉) dX8_readsText_62 ?_
      refine pf_X8_35 rfl (by decide) dX8_readsText_65 ?_
      refine J.al0 dX8_readsText_68 ?_
      refine J.il1 dX8_readsText_69 ?_
      refine cl_X8_97 rfl (by decide) (k' := 0) (n' := 0) (c_m_fails _) ⟨⟨by decide, by decide⟩, ⟨rfl, rfl⟩, by decide, by decide⟩ rfl dX8_readsText_70 (fun μ5 h5₉ => ?_)
      subst h5₉
      obtain rfl : e = q1₉ := by
        have h9₉ := hr0x.symm.trans (pTxt_2 k1₉ c37₉)
        exact Sum.inl.inj h9₉
      refine J.iret rfl (by decide) (by decide) dX8_readsText_73 ⟨_, rfl, ?_, ?_⟩
      · rfl
      · exact ⟨wr_s, (by rw [wr_n (by omega)]; exact wr_s), (by rw [wr_n (by omega)]; rw [wr_n (by omega)]; exact wr_s), fun o k a b c => by rw [wr_n (by omega), wr_n (by omega), wr_n (by omega), wr_n (by omega), hO2₉ o k a b (by omega)]⟩

set_option maxRecDepth 100000 in
set_option maxHeartbeats 4000000 in
theorem c_m_rtX1 {g : GP} {adr : Nat → Nat} (μ : Mem) {t : Nat → Nat} {x : Nat} {σ : AS} (hT₉ : TxM μ 245 14 (x, t)) (hx₉ : x ≤ 60) (hS₉ : MS μ 238 0 σ) {q c : Nat} {F : Nat → Nat} (hr0x : pTxt t x σ = .inr (q, c, F)) (hc₉ : 200 < c) : CT g yX8_readsText mX8_readsText (RM 22 0 0) (WM g adr μ) [.ref (adr 237), .int (nI 1)] (PM g adr ((.inl (some (.int (nI 0))))) (fun μ' => μ' 237 6 = nI 2 ∧ μ' 237 7 = nI 2 ∧ μ' 237 8 = nI 200 ∧ μ' 237 14 = nI 0 ∧ ∀ o k, o ≠ 242 → o ≠ 243 → (o ≠ 237 ∨ (k ≠ 6 ∧ k ≠ 7 ∧ k ≠ 8 ∧ k ≠ 11 ∧ k ≠ 14 ∧ k ≠ 15 ∧ k ≠ 16)) → μ' o k = μ o k)) := by
  refine CT.of (l0 := [some (.ref (adr 237)), some (.int (nI 1)), none]) (by decide +kernel) rfl (Nat.le_of_ble_eq_true rfl) rfl ?_
  refine J.al0 dX8_readsText_0 ?_
  refine J.iconst dX8_readsText_1 kI_0 ?_
  refine pf_X8_60 rfl (by decide) dX8_readsText_2 ?_
  refine J.al0 dX8_readsText_5 ?_
  refine J.iconst dX8_readsText_6 kI_0 ?_
  refine pf_X8_141 rfl (by decide) dX8_readsText_7 ?_
  refine J.al0 dX8_readsText_10 ?_
  refine J.iconst dX8_readsText_11 kI_0 ?_
  refine pf_X8_137 rfl (by decide) (Or.inl nI_0) dX8_readsText_12 ?_
  refine J.al0 dX8_readsText_15 ?_
  refine J.iconst dX8_readsText_16 kI_0 ?_
  rcases k1₉ : pSq t x σ 5 0 with e1 | ⟨q1₉, f1, F1⟩
  · refine cl_X8_162 rfl (by decide) (k' := 0) (n' := 0) (seqM_all hx₉ 5 0 rfl _ 0 0 (hT₉.eq (by simp only [wr_n (show (237 : Nat) ≠ 237 ∨ (14 : Nat) ≠ 16 by decide), wr_n (show (237 : Nat) ≠ 237 ∨ (14 : Nat) ≠ 15 by decide), wr_n (show (237 : Nat) ≠ 237 ∨ (14 : Nat) ≠ 11 by decide)]) (by simp only [wr_o (show (245 : Nat) ≠ 237 by decide)])) (hS₉.off (by simp only [wr_o (show (238 : Nat) ≠ 237 by decide)])) ((wr_n (by decide)).trans wr_s) (Nat.zero_le _) wr_s ((wr_n (by decide)).trans ((wr_n (by decide)).trans wr_s)) (fun j hj₉ => absurd hj₉ (Nat.not_lt_zero j)) (by omega) (by decide) _ k1₉) ⟨⟨by decide, by decide⟩, ⟨rfl, rfl⟩, by decide, by decide⟩ rfl dX8_readsText_17 (fun μ2 ⟨hP2₉, hW2₉, ⟨r2, hg2₉, hl2x, hr2₉, hV2₉⟩, hF2₉⟩ => ?_)
    have hO2₉ : ∀ o k, o ≠ 242 → o ≠ 243 → (o ≠ 237 ∨ (k ≠ 11 ∧ k ≠ 15 ∧ k ≠ 16)) → μ2 o k = μ o k := fun o k a b c => by rw [hF2₉.2.2 o k a b c, wr_n (by omega), wr_n (by omega), wr_n (by omega)]
    have hl2₉ : μ2 237 14 = nI x := (hO2₉ 237 14 (by decide) (by decide) (by decide)).trans hT₉.1
    refine J.is2 dX8_readsText_20 (by decide) rfl ?_
    refine J.al0 dX8_readsText_21 ?_
    refine J.al0 dX8_readsText_22 ?_
    refine gf_X8_137 rfl (x := nI 1) (by decide) hW2₉ dX8_readsText_23 ?_
    refine J.if_neN (tgt := 40) dX8_readsText_26 (by decide) (by omega) (fun c26₉ => ?_) (fun c26₉ => absurd c26₉ (by first | omega | (simp only [not_true_eq_false, not_false_eq_true]; done) | (simp; done)))
    refine J.iconst dX8_readsText_40 kI_1 ?_
    refine J.goto (tgt := 45) dX8_readsText_41 (by decide) ?_
    refine pf_X8_137 rfl (by decide) (Or.inr (by decide)) dX8_readsText_45 ?_
    refine J.al0 dX8_readsText_48 ?_
    refine J.iconst dX8_readsText_49 kI_0 ?_
    refine pf_X8_134 rfl (by decide) dX8_readsText_50 ?_
    refine J.al0 dX8_readsText_53 ?_
    refine gf_X8_137 rfl (x := nI 1) (by decide) (by rw [wr_n (by omega)]; exact wr_s) dX8_readsText_54 ?_
    refine J.if_eqN (tgt := 74) dX8_readsText_57 (by decide) (by omega) (fun c57₉ => absurd c57₉ (by first | omega | (simp only [not_true_eq_false, not_false_eq_true]; done) | (simp; done))) (fun c57₉ => ?_)
    refine J.al0 dX8_readsText_60 ?_
    refine J.al0 dX8_readsText_61 ?_
    refine gf_X8_141 rfl (x := nI e1) (by decide) (by rw [wr_n (by omega)]; rw [wr_n (by omega)]; exact hP2₉) dX8_readsText_62 ?_
    refine pf_X8_35 rfl (by decide) dX8_readsText_65 ?_
    refine J.al0 dX8_readsText_68 ?_
    refine J.il1 dX8_readsText_69 ?_
    refine cl_X8_97 rfl (by decide) (k' := 0) (n' := 0) (c_m_fails _) ⟨⟨by decide, by decide⟩, ⟨rfl, rfl⟩, by decide, by decide⟩ rfl dX8_readsText_70 (fun μ5 h5₉ => ?_)
    subst h5₉
    have h9₉ := hr0x.symm.trans (pTxt_1 k1₉)
    cases h9₉
  · refine cl_X8_162 rfl (by decide) (k' := 0) (n' := 0) (seqM_all hx₉ 5 0 rfl _ 0 0 (hT₉.eq (by simp only [wr_n (show (237 : Nat) ≠ 237 ∨ (14 : Nat) ≠ 16 by decide), wr_n (show (237 : Nat) ≠ 237 ∨ (14 : Nat) ≠ 15 by decide), wr_n (show (237 : Nat) ≠ 237 ∨ (14 : Nat) ≠ 11 by decide)]) (by simp only [wr_o (show (245 : Nat) ≠ 237 by decide)])) (hS₉.off (by simp only [wr_o (show (238 : Nat) ≠ 237 by decide)])) ((wr_n (by decide)).trans wr_s) (Nat.zero_le _) wr_s ((wr_n (by decide)).trans ((wr_n (by decide)).trans wr_s)) (fun j hj₉ => absurd hj₉ (Nat.not_lt_zero j)) (by omega) (by decide) _ k1₉) ⟨⟨by decide, by decide⟩, ⟨rfl, rfl⟩, by decide, by decide⟩ rfl dX8_readsText_17 (fun μ2 ⟨hP2₉, hW2₉, ⟨r2, hg2₉, hl2x, hr2₉, hV2₉⟩, hF2₉, hR2₉, hc2₉⟩ => ?_)
    have hO2₉ : ∀ o k, o ≠ 242 → o ≠ 243 → (o ≠ 237 ∨ (k ≠ 11 ∧ k ≠ 15 ∧ k ≠ 16)) → μ2 o k = μ o k := fun o k a b c => by rw [hF2₉.2.2 o k a b c, wr_n (by omega), wr_n (by omega), wr_n (by omega)]
    have hl2₉ : μ2 237 14 = nI x := (hO2₉ 237 14 (by decide) (by decide) (by decide)).trans hT₉.1
    obtain ⟨u1, u2, u3, u4⟩ := pSq_few hS₉.vs.2.2.2.2 hx₉ (by omega) (by omega) k1₉
    refine J.is2 dX8_readsText_20 (by decide) rfl ?_
    refine J.al0 dX8_readsText_21 ?_
    refine J.al0 dX8_readsText_22 ?_
    refine gf_X8_137 rfl (x := nI 0) (by decide) hW2₉ dX8_readsText_23 ?_
    refine J.if_neN (tgt := 40) dX8_readsText_26 (by decide) (by omega) (fun c26₉ => absurd c26₉ (by first | omega | (simp only [not_true_eq_false, not_false_eq_true]; done) | (simp; done))) (fun c26₉ => ?_)
    refine J.al0 dX8_readsText_29 ?_
    refine gf_X8_141 rfl (x := nI q1₉) (by decide) hP2₉ dX8_readsText_30 ?_
    refine J.al0 dX8_readsText_33 ?_
    refine gf_X8_134 rfl (x := nI x) (by decide) hl2₉ dX8_readsText_34 ?_
    refine J.icmp_geN (tgt := 44) dX8_readsText_37 (by decide) (by omega) (by omega) (fun c37₉ => ?_) (fun c37₉ => ?_)
    · refine J.iconst dX8_readsText_44 kI_0 ?_
      refine pf_X8_137 rfl (by decide) (Or.inl nI_0) dX8_readsText_45 ?_
      refine J.al0 dX8_readsText_48 ?_
      refine J.iconst dX8_readsText_49 kI_0 ?_
      refine pf_X8_134 rfl (by decide) dX8_readsText_50 ?_
      refine J.al0 dX8_readsText_53 ?_
      refine gf_X8_137 rfl (x := nI 0) (by decide) (by rw [wr_n (by omega)]; exact wr_s) dX8_readsText_54 ?_
      refine J.if_eqN (tgt := 74) dX8_readsText_57 (by decide) (by omega) (fun c57₉ => ?_) (fun c57₉ => absurd c57₉ (by first | omega | (simp only [not_true_eq_false, not_false_eq_true]; done) | (simp; done)))
      refine J.al0 dX8_readsText_74 ?_
      refine gf_X8_25 rfl (o2 := 243) (by decide) rfl dX8_readsText_75 ?_
      refine J.il2 dX8_readsText_78 ?_
      refine J.iald (N := 200) (x := nI f1) (by decide) (by decide) (by decide) (by omega) (by rw [wr_n (by omega)]; rw [wr_n (by omega)]; exact hc2₉) dX8_readsText_79 ?_
      refine J.sipush dX8_readsText_80 kc_200 ?_
      refine J.icmp_leN (tgt := 100) dX8_readsText_83 (by decide) (by omega) (by omega) (fun c83₉ => ?_) (fun c83₉ => ?_)
      · refine J.il2 dX8_readsText_100 ?_
        have h9₉ := hr0x.symm.trans (pTxt_3 k1₉ (by omega))
        obtain ⟨rfl, rfl, rfl⟩ : q = q1₉ ∧ c = f1 ∧ F = F1 := by cases h9₉; exact ⟨rfl, rfl, rfl⟩
        exact absurd hc₉ (by omega)
      · refine J.al0 dX8_readsText_86 ?_
        refine J.il1 dX8_readsText_87 ?_
        refine J.iconst dX8_readsText_88 kI_1 ?_
        refine J.iaddN dX8_readsText_89 ?_
        refine J.iconst dX8_readsText_90 kI_2 ?_
        refine J.sipush dX8_readsText_91 kc_200 ?_
        refine cl_X8_110 rfl (by decide) (k' := 0) (n' := 0) (c_m_refuse _) ⟨⟨by decide, by decide⟩, ⟨rfl, rfl⟩, by decide, by decide⟩ rfl dX8_readsText_94 (fun μ5 h5₉ => ?_)
        subst h5₉
        refine J.goto (tgt := 101) dX8_readsText_97 (by decide) ?_
        obtain ⟨rfl, rfl, rfl⟩ : q = q1₉ ∧ c = f1 ∧ F = F1 := by
          have h9₉ := hr0x.symm.trans (pTxt_3 k1₉ (by omega))
          cases h9₉; exact ⟨rfl, rfl, rfl⟩
        refine J.iret rfl (by decide) (by decide) dX8_readsText_101 ⟨_, rfl, ?_, ?_⟩
        · rfl
        · exact ⟨(by rw [wr_n (by omega)]; rw [wr_n (by omega)]; exact wr_s), (by rw [wr_n (by omega)]; exact wr_s), wr_s, (by rw [wr_n (by omega)]; rw [wr_n (by omega)]; rw [wr_n (by omega)]; exact wr_s), fun o k a b c => by rw [wr_n (by omega), wr_n (by omega), wr_n (by omega), wr_n (by omega), wr_n (by omega), hO2₉ o k a b (by omega)]⟩
    · refine J.iconst dX8_readsText_40 kI_1 ?_
      refine J.goto (tgt := 45) dX8_readsText_41 (by decide) ?_
      refine pf_X8_137 rfl (by decide) (Or.inr (by decide)) dX8_readsText_45 ?_
      refine J.al0 dX8_readsText_48 ?_
      refine J.iconst dX8_readsText_49 kI_0 ?_
      refine pf_X8_134 rfl (by decide) dX8_readsText_50 ?_
      refine J.al0 dX8_readsText_53 ?_
      refine gf_X8_137 rfl (x := nI 1) (by decide) (by rw [wr_n (by omega)]; exact wr_s) dX8_readsText_54 ?_
      refine J.if_eqN (tgt := 74) dX8_readsText_57 (by decide) (by omega) (fun c57₉ => absurd c57₉ (by first | omega | (simp only [not_true_eq_false, not_false_eq_true]; done) | (simp; done))) (fun c57₉ => ?_)
      refine J.al0 dX8_readsText_60 ?_
      refine J.al0 dX8_readsText_61 ?_
      refine gf_X8_141 rfl (x := nI q1₉) (by decide) (by rw [wr_n (by omega)]; rw [wr_n (by omega)]; exact hP2₉) dX8_readsText_62 ?_
      refine pf_X8_35 rfl (by decide) dX8_readsText_65 ?_
      refine J.al0 dX8_readsText_68 ?_
      refine J.il1 dX8_readsText_69 ?_
      refine cl_X8_97 rfl (by decide) (k' := 0) (n' := 0) (c_m_fails _) ⟨⟨by decide, by decide⟩, ⟨rfl, rfl⟩, by decide, by decide⟩ rfl dX8_readsText_70 (fun μ5 h5₉ => ?_)
      subst h5₉
      have h9₉ := hr0x.symm.trans (pTxt_2 k1₉ c37₉)
      cases h9₉

set_option maxRecDepth 100000 in
set_option maxHeartbeats 4000000 in
theorem c_m_rtO1 {g : GP} {adr : Nat → Nat} (μ : Mem) {t : Nat → Nat} {x : Nat} {σ : AS} (hT₉ : TxM μ 245 14 (x, t)) (hx₉ : x ≤ 60) (hS₉ : MS μ 238 0 σ) {q c : Nat} {F : Nat → Nat} (hr0x : pTxt t x σ = .inr (q, c, F)) (hc₉ : c ≤ 200) : CT g yX8_readsText mX8_readsText (RM 22 0 0) (WM g adr μ) [.ref (adr 237), .int (nI 1)] (PM g adr ((.inl (some (.int (nI 0))))) (fun μ' => PoolR μ' 0 F ∧ μ' 243 0 = nI c ∧ μ' 237 14 = nI 0 ∧ ∀ o k, o ≠ 242 → o ≠ 243 → (o ≠ 237 ∨ (k ≠ 11 ∧ k ≠ 14 ∧ k ≠ 15 ∧ k ≠ 16)) → μ' o k = μ o k)) := by
  refine CT.of (l0 := [some (.ref (adr 237)), some (.int (nI 1)), none]) (by decide +kernel) rfl (Nat.le_of_ble_eq_true rfl) rfl ?_
  refine J.al0 dX8_readsText_0 ?_
  refine J.iconst dX8_readsText_1 kI_0 ?_
  refine pf_X8_60 rfl (by decide) dX8_readsText_2 ?_
  refine J.al0 dX8_readsText_5 ?_
  refine J.iconst dX8_readsText_6 kI_0 ?_
  refine pf_X8_141 rfl (by decide) dX8_readsText_7 ?_
  refine J.al0 dX8_readsText_10 ?_
  refine J.iconst dX8_readsText_11 kI_0 ?_
  refine pf_X8_137 rfl (by decide) (Or.inl nI_0) dX8_readsText_12 ?_
  refine J.al0 dX8_readsText_15 ?_
  refine J.iconst dX8_readsText_16 kI_0 ?_
  rcases k1₉ : pSq t x σ 5 0 with e1 | ⟨q1₉, f1, F1⟩
  · refine cl_X8_162 rfl (by decide) (k' := 0) (n' := 0) (seqM_all hx₉ 5 0 rfl _ 0 0 (hT₉.eq (by simp only [wr_n (show (237 : Nat) ≠ 237 ∨ (14 : Nat) ≠ 16 by decide), wr_n (show (237 : Nat) ≠ 237 ∨ (14 : Nat) ≠ 15 by decide), wr_n (show (237 : Nat) ≠ 237 ∨ (14 : Nat) ≠ 11 by decide)]) (by simp only [wr_o (show (245 : Nat) ≠ 237 by decide)])) (hS₉.off (by simp only [wr_o (show (238 : Nat) ≠ 237 by decide)])) ((wr_n (by decide)).trans wr_s) (Nat.zero_le _) wr_s ((wr_n (by decide)).trans ((wr_n (by decide)).trans wr_s)) (fun j hj₉ => absurd hj₉ (Nat.not_lt_zero j)) (by omega) (by decide) _ k1₉) ⟨⟨by decide, by decide⟩, ⟨rfl, rfl⟩, by decide, by decide⟩ rfl dX8_readsText_17 (fun μ2 ⟨hP2₉, hW2₉, ⟨r2, hg2₉, hl2x, hr2₉, hV2₉⟩, hF2₉⟩ => ?_)
    have hO2₉ : ∀ o k, o ≠ 242 → o ≠ 243 → (o ≠ 237 ∨ (k ≠ 11 ∧ k ≠ 15 ∧ k ≠ 16)) → μ2 o k = μ o k := fun o k a b c => by rw [hF2₉.2.2 o k a b c, wr_n (by omega), wr_n (by omega), wr_n (by omega)]
    have hl2₉ : μ2 237 14 = nI x := (hO2₉ 237 14 (by decide) (by decide) (by decide)).trans hT₉.1
    refine J.is2 dX8_readsText_20 (by decide) rfl ?_
    refine J.al0 dX8_readsText_21 ?_
    refine J.al0 dX8_readsText_22 ?_
    refine gf_X8_137 rfl (x := nI 1) (by decide) hW2₉ dX8_readsText_23 ?_
    refine J.if_neN (tgt := 40) dX8_readsText_26 (by decide) (by omega) (fun c26₉ => ?_) (fun c26₉ => absurd c26₉ (by first | omega | (simp only [not_true_eq_false, not_false_eq_true]; done) | (simp; done)))
    refine J.iconst dX8_readsText_40 kI_1 ?_
    refine J.goto (tgt := 45) dX8_readsText_41 (by decide) ?_
    refine pf_X8_137 rfl (by decide) (Or.inr (by decide)) dX8_readsText_45 ?_
    refine J.al0 dX8_readsText_48 ?_
    refine J.iconst dX8_readsText_49 kI_0 ?_
    refine pf_X8_134 rfl (by decide) dX8_readsText_50 ?_
    refine J.al0 dX8_readsText_53 ?_
    refine gf_X8_137 rfl (x := nI 1) (by decide) (by rw [wr_n (by omega)]; exact wr_s) dX8_readsText_54 ?_
    refine J.if_eqN (tgt := 74) dX8_readsText_57 (by decide) (by omega) (fun c57₉ => absurd c57₉ (by first | omega | (simp only [not_true_eq_false, not_false_eq_true]; done) | (simp; done))) (fun c57₉ => ?_)
    refine J.al0 dX8_readsText_60 ?_
    refine J.al0 dX8_readsText_61 ?_
    refine gf_X8_141 rfl (x := nI e1) (by decide) (by rw [wr_n (by omega)]; rw [wr_n (by omega)]; exact hP2₉) dX8_readsText_62 ?_
    refine pf_X8_35 rfl (by decide) dX8_readsText_65 ?_
    refine J.al0 dX8_readsText_68 ?_
    refine J.il1 dX8_readsText_69 ?_
    refine cl_X8_97 rfl (by decide) (k' := 0) (n' := 0) (c_m_fails _) ⟨⟨by decide, by decide⟩, ⟨rfl, rfl⟩, by decide, by decide⟩ rfl dX8_readsText_70 (fun μ5 h5₉ => ?_)
    subst h5₉
    have h9₉ := hr0x.symm.trans (pTxt_1 k1₉)
    cases h9₉
  · refine cl_X8_162 rfl (by decide) (k' := 0) (n' := 0) (seqM_all hx₉ 5 0 rfl _ 0 0 (hT₉.eq (by simp only [wr_n (show (237 : Nat) ≠ 237 ∨ (14 : Nat) ≠ 16 by decide), wr_n (show (237 : Nat) ≠ 237 ∨ (14 : Nat) ≠ 15 by decide), wr_n (show (237 : Nat) ≠ 237 ∨ (14 : Nat) ≠ 11 by decide)]) (by simp only [wr_o (show (245 : Nat) ≠ 237 by decide)])) (hS₉.off (by simp only [wr_o (show (238 : Nat) ≠ 237 by decide)])) ((wr_n (by decide)).trans wr_s) (Nat.zero_le _) wr_s ((wr_n (by decide)).trans ((wr_n (by decide)).trans wr_s)) (fun j hj₉ => absurd hj₉ (Nat.not_lt_zero j)) (by omega) (by decide) _ k1₉) ⟨⟨by decide, by decide⟩, ⟨rfl, rfl⟩, by decide, by decide⟩ rfl dX8_readsText_17 (fun μ2 ⟨hP2₉, hW2₉, ⟨r2, hg2₉, hl2x, hr2₉, hV2₉⟩, hF2₉, hR2₉, hc2₉⟩ => ?_)
    have hO2₉ : ∀ o k, o ≠ 242 → o ≠ 243 → (o ≠ 237 ∨ (k ≠ 11 ∧ k ≠ 15 ∧ k ≠ 16)) → μ2 o k = μ o k := fun o k a b c => by rw [hF2₉.2.2 o k a b c, wr_n (by omega), wr_n (by omega), wr_n (by omega)]
    have hl2₉ : μ2 237 14 = nI x := (hO2₉ 237 14 (by decide) (by decide) (by decide)).trans hT₉.1
    obtain ⟨u1, u2, u3, u4⟩ := pSq_few hS₉.vs.2.2.2.2 hx₉ (by omega) (by omega) k1₉
    refine J.is2 dX8_readsText_20 (by decide) rfl ?_
    refine J.al0 dX8_readsText_21 ?_
    refine J.al0 dX8_readsText_22 ?_
    refine gf_X8_137 rfl (x := nI 0) (by decide) hW2₉ dX8_readsText_23 ?_
    refine J.if_neN (tgt := 40) dX8_readsText_26 (by decide) (by omega) (fun c26₉ => absurd c26₉ (by first | omega | (simp only [not_true_eq_false, not_false_eq_true]; done) | (simp; done))) (fun c26₉ => ?_)
    refine J.al0 dX8_readsText_29 ?_
    refine gf_X8_141 rfl (x := nI q1₉) (by decide) hP2₉ dX8_readsText_30 ?_
    refine J.al0 dX8_readsText_33 ?_
    refine gf_X8_134 rfl (x := nI x) (by decide) hl2₉ dX8_readsText_34 ?_
    refine J.icmp_geN (tgt := 44) dX8_readsText_37 (by decide) (by omega) (by omega) (fun c37₉ => ?_) (fun c37₉ => ?_)
    · refine J.iconst dX8_readsText_44 kI_0 ?_
      refine pf_X8_137 rfl (by decide) (Or.inl nI_0) dX8_readsText_45 ?_
      refine J.al0 dX8_readsText_48 ?_
      refine J.iconst dX8_readsText_49 kI_0 ?_
      refine pf_X8_134 rfl (by decide) dX8_readsText_50 ?_
      refine J.al0 dX8_readsText_53 ?_
      refine gf_X8_137 rfl (x := nI 0) (by decide) (by rw [wr_n (by omega)]; exact wr_s) dX8_readsText_54 ?_
      refine J.if_eqN (tgt := 74) dX8_readsText_57 (by decide) (by omega) (fun c57₉ => ?_) (fun c57₉ => absurd c57₉ (by first | omega | (simp only [not_true_eq_false, not_false_eq_true]; done) | (simp; done)))
      refine J.al0 dX8_readsText_74 ?_
      refine gf_X8_25 rfl (o2 := 243) (by decide) rfl dX8_readsText_75 ?_
      refine J.il2 dX8_readsText_78 ?_
      refine J.iald (N := 200) (x := nI f1) (by decide) (by decide) (by decide) (by omega) (by rw [wr_n (by omega)]; rw [wr_n (by omega)]; exact hc2₉) dX8_readsText_79 ?_
      refine J.sipush dX8_readsText_80 kc_200 ?_
      refine J.icmp_leN (tgt := 100) dX8_readsText_83 (by decide) (by omega) (by omega) (fun c83₉ => ?_) (fun c83₉ => ?_)
      · refine J.il2 dX8_readsText_100 ?_
        obtain ⟨rfl, rfl, rfl⟩ : q = q1₉ ∧ c = f1 ∧ F = F1 := by
          have h9₉ := hr0x.symm.trans (pTxt_3 k1₉ (by omega))
          cases h9₉; exact ⟨rfl, rfl, rfl⟩
        refine J.iret rfl (by decide) (by decide) dX8_readsText_101 ⟨_, rfl, ?_, ?_⟩
        · rfl
        · exact ⟨(PoolR.w (PoolR.w hR2₉ (Or.inl (by decide))) (Or.inl (by decide))), (by simp only [wr_o (show (243 : Nat) ≠ 237 by decide)]; exact hc2₉), wr_s, fun o k a b c => by rw [wr_n (by omega), wr_n (by omega), hO2₉ o k a b (by omega)]⟩
      · refine J.al0 dX8_readsText_86 ?_
        refine J.il1 dX8_readsText_87 ?_
        refine J.iconst dX8_readsText_88 kI_1 ?_
        refine J.iaddN dX8_readsText_89 ?_
        refine J.iconst dX8_readsText_90 kI_2 ?_
        refine J.sipush dX8_readsText_91 kc_200 ?_
        refine cl_X8_110 rfl (by decide) (k' := 0) (n' := 0) (c_m_refuse _) ⟨⟨by decide, by decide⟩, ⟨rfl, rfl⟩, by decide, by decide⟩ rfl dX8_readsText_94 (fun μ5 h5₉ => ?_)
        subst h5₉
        refine J.goto (tgt := 101) dX8_readsText_97 (by decide) ?_
        have h9₉ := hr0x.symm.trans (pTxt_3 k1₉ (by omega))
        obtain ⟨rfl, rfl, rfl⟩ : q = q1₉ ∧ c = f1 ∧ F = F1 := by cases h9₉; exact ⟨rfl, rfl, rfl⟩
        exact absurd hc₉ (by omega)
    · refine J.iconst dX8_readsText_40 kI_1 ?_
      refine J.goto (tgt := 45) dX8_readsText_41 (by decide) ?_
      refine pf_X8_137 rfl (by decide) (Or.inr (by decide)) dX8_readsText_45 ?_
      refine J.al0 dX8_readsText_48 ?_
      refine J.iconst dX8_readsText_49 kI_0 ?_
      refine pf_X8_134 rfl (by decide) dX8_readsText_50 ?_
      refine J.al0 dX8_readsText_53 ?_
      refine gf_X8_137 rfl (x := nI 1) (by decide) (by rw [wr_n (by omega)]; exact wr_s) dX8_readsText_54 ?_
      refine J.if_eqN (tgt := 74) dX8_readsText_57 (by decide) (by omega) (fun c57₉ => absurd c57₉ (by first | omega | (simp only [not_true_eq_false, not_false_eq_true]; done) | (simp; done))) (fun c57₉ => ?_)
      refine J.al0 dX8_readsText_60 ?_
      refine J.al0 dX8_readsText_61 ?_
      refine gf_X8_141 rfl (x := nI q1₉) (by decide) (by rw [wr_n (by omega)]; rw [wr_n (by omega)]; exact hP2₉) dX8_readsText_62 ?_
      refine pf_X8_35 rfl (by decide) dX8_readsText_65 ?_
      refine J.al0 dX8_readsText_68 ?_
      refine J.il1 dX8_readsText_69 ?_
      refine cl_X8_97 rfl (by decide) (k' := 0) (n' := 0) (c_m_fails _) ⟨⟨by decide, by decide⟩, ⟨rfl, rfl⟩, by decide, by decide⟩ rfl dX8_readsText_70 (fun μ5 h5₉ => ?_)
      subst h5₉
      have h9₉ := hr0x.symm.trans (pTxt_2 k1₉ c37₉)
      cases h9₉
