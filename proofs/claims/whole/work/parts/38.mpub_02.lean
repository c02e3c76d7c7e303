/-! ===== printed: the model: changes ===== -/
set_option maxRecDepth 100000 in
set_option maxHeartbeats 4000000 in
theorem c_m_back1 {g : GP} {adr : Nat → Nat} (μ : Mem) {α : A7} (hMR₉ : MR μ α) {x w b : Nat} (hx₉ : aLn (qS α) = x + 1) (ha₉ : aLg (qS α) (3 * x) = 1) (hw₉ : aLg (qS α) (3 * x + 1) = w) (hb₉ : aLg (qS α) (3 * x + 2) = b) (hm₉ : mvOK 1 w b) : CT g yX8_back mX8_back (RM 60 0 0) (WM g adr μ) [.ref (adr 237)] (PM g adr ((.inl (some (.int (nI x))))) (fun μ' => MR μ' (aPush (sLen x (sMv (sDo (moveF 1 w (4 - b)) (qS α)))) α) ∧ μ' 237 6 = nI 0 ∧ FrM μ' μ)) := by
  refine CT.of (l0 := [some (.ref (adr 237)), none, none]) (by decide +kernel) rfl (Nat.le_of_ble_eq_true rfl) rfl ?_
  have hq₉ : w < 8 ∧ 1 ≤ b ∧ b < 4 := by unfold mvOK at hm₉; omega
  have hln₉ := hMR₉.1.ln
  refine J.al0 dX8_back_0 ?_
  refine cl_X8_90 rfl (by decide) (k' := 0) (n' := 0) (c_m_keep _) ⟨⟨by decide, by decide⟩, ⟨rfl, rfl⟩, by decide, by decide⟩ rfl dX8_back_1 (fun μ2 ⟨hK₉, hT0₉, hs0₉, hk4₉⟩ => ?_)
  have hS2₉ : MS μ2 238 0 (qS α) := MS.off hMR₉.1 hs0₉
  have hn2₉ : μ2 237 5 = nI (qN α) := (hk4₉ 237 5 (by decide) (by decide)).trans hMR₉.2.1.1
  refine J.al0 dX8_back_4 ?_
  refine gf_X8_9 rfl (o2 := 238) (by decide) rfl dX8_back_5 ?_
  refine J.iconst dX8_back_8 kI_0 ?_
  refine J.iald (N := 352) (x := nI (x + 1)) (by decide) (by decide) (by decide) (by omega) (by have h9₉ := hS2₉.rLn; rw [hx₉] at h9₉; exact h9₉) dX8_back_9 ?_
  refine J.if_neN (tgt := 25) dX8_back_10 (by decide) (by omega) (fun c10₉ => ?_) (fun c10₉ => absurd c10₉ (by first | omega | (simp only [not_true_eq_false, not_false_eq_true]; done) | (simp; done)))
  refine J.al0 dX8_back_25 ?_
  refine gf_X8_9 rfl (o2 := 238) (by decide) rfl dX8_back_26 ?_
  refine J.iconst dX8_back_29 kI_0 ?_
  refine J.dup2 dX8_back_30 rfl rfl ?_
  refine J.iald (N := 352) (x := nI (x + 1)) (by decide) (by decide) (by decide) (by omega) (by have h9₉ := hS2₉.rLn; rw [hx₉] at h9₉; exact h9₉) dX8_back_31 ?_
  refine J.iconst dX8_back_32 kI_1 ?_
  refine J.isubN dX8_back_33 (by omega) ?_
  rw [Nat.add_sub_cancel]
  refine J.iast (N := 352) (by decide) (by decide) (by decide) (by omega) dX8_back_34 ?_
  refine J.bipush dX8_back_35 kb_72 ?_
  refine J.iconst dX8_back_37 kI_3 ?_
  refine J.al0 dX8_back_38 ?_
  refine gf_X8_9 rfl (o2 := 238) (by decide) rfl dX8_back_39 ?_
  refine J.iconst dX8_back_42 kI_0 ?_
  refine J.iald (N := 352) (x := nI x) (by decide) (by decide) (by decide) (by omega) wr_s dX8_back_43 ?_
  refine J.imulN dX8_back_44 ?_
  refine J.iaddN dX8_back_45 ?_
  refine J.is1 dX8_back_46 (by decide) rfl ?_
  refine J.al0 dX8_back_47 ?_
  refine gf_X8_9 rfl (o2 := 238) (by decide) rfl dX8_back_48 ?_
  refine J.il1 dX8_back_51 ?_
  refine J.iald (N := 352) (x := nI 1) (by decide) (by decide) (by decide) (by omega) (by rw [wr_n (by omega)]; exact (by rw [← ha₉]; exact hS2₉.rLg (k := 3 * x) (by omega))) dX8_back_52 ?_
  refine J.iconst dX8_back_53 kI_1 ?_
  refine J.icmp_neN (tgt := 61) dX8_back_54 (by decide) (by omega) (by omega) (fun c54₉ => absurd c54₉ (by first | omega | (simp only [not_true_eq_false, not_false_eq_true]; done) | (simp; done))) (fun c54₉ => ?_)
  refine J.iconst dX8_back_57 kI_1 ?_
  refine J.goto (tgt := 62) dX8_back_58 (by decide) ?_
  refine J.is2 dX8_back_62 (by decide) rfl ?_
  refine J.al0 dX8_back_63 ?_
  refine J.iconst dX8_back_64 kI_0 ?_
  refine pf_X8_60 rfl (by decide) dX8_back_65 ?_
  refine J.al0 dX8_back_68 ?_
  refine J.al0 dX8_back_69 ?_
  refine J.il2 dX8_back_70 ?_
  refine J.al0 dX8_back_71 ?_
  refine gf_X8_9 rfl (o2 := 238) (by decide) rfl dX8_back_72 ?_
  refine J.il1 dX8_back_75 ?_
  refine J.iconst dX8_back_76 kI_1 ?_
  refine J.iaddN dX8_back_77 ?_
  refine J.iald (N := 352) (x := nI w) (by decide) (by decide) (by decide) (by omega) (by rw [wr_n (by omega)]; rw [wr_n (by omega)]; exact (by rw [← hw₉]; exact hS2₉.rLg (k := 3 * x + 1) (by omega))) dX8_back_78 ?_
  refine J.il2 dX8_back_79 ?_
  refine J.if_eqN (tgt := 87) dX8_back_80 (by decide) (by omega) (fun c80₉ => absurd c80₉ (by first | omega | (simp only [not_true_eq_false, not_false_eq_true]; done) | (simp; done))) (fun c80₉ => ?_)
  refine J.iconst dX8_back_83 kI_4 ?_
  refine J.goto (tgt := 89) dX8_back_84 (by decide) ?_
  refine J.al0 dX8_back_89 ?_
  refine gf_X8_9 rfl (o2 := 238) (by decide) rfl dX8_back_90 ?_
  refine J.il1 dX8_back_93 ?_
  refine J.iconst dX8_back_94 kI_2 ?_
  refine J.iaddN dX8_back_95 ?_
  refine J.iald (N := 352) (x := nI b) (by decide) (by decide) (by decide) (by omega) (by rw [wr_n (by omega)]; rw [wr_n (by omega)]; exact (by rw [← hb₉]; exact hS2₉.rLg (k := 3 * x + 2) (by omega))) dX8_back_96 ?_
  refine J.isubN dX8_back_97 (by omega) ?_
  refine cl_X8_82 rfl (by decide) (k' := 0) (n' := 0) (c_m_move1 _ (r := 0) wr_s (by decide) (show mvOK 1 w (4 - b) by unfold mvOK; omega)) ⟨⟨by decide, by decide⟩, ⟨rfl, rfl⟩, by decide, by decide⟩ rfl dX8_back_98 (fun μ4 ⟨hP4₉, hc4₉, hr4₉, hF4₉⟩ => ?_)
  have hS4₉ : MS μ4 238 0 (sLen x (qS α)) := (hS2₉.sLen (μ' := wr μ2 238 0 (nI x)) (x := x) (by omega) wr_s (fun k hk₉ => wr_n (Or.inr hk₉))).off (by rw [hF4₉.s, wr_o (by decide)])
  have hBF₉ : Bij (moveF 1 w (4 - b)) := moveF_bij (mv_lt (show mvOK 1 w (4 - b) by unfold mvOK; omega))
  have hKT4₉ : KT μ4 μ2 := KT.trans hF4₉.kt (KT.wrx (KT.wrx KT.rf (by omega)) (by omega))
  refine cl_X8_86 rfl (by decide) (k' := 0) (n' := 0) (c_m_does _ (by decide) hP4₉ hBF₉ (f := aAt (qS α)) (fun k hk₉ => hS4₉.rAt hk₉)) ⟨⟨by decide, by decide⟩, ⟨rfl, rfl⟩, by decide, by decide⟩ rfl dX8_back_101 (fun μ5 ⟨hA5₉, hK5₉, hO5₉⟩ => ?_)
  have hS5₉ : MS μ5 238 0 (sDo (moveF 1 w (4 - b)) (sLen x (qS α))) := hS4₉.sDo hBF₉ hA5₉ hK5₉
  have hKT5₉ : KT μ5 μ2 := fun o k a b c d e => by rw [hO5₉ o a d]; exact hKT4₉ o k a b c d e
  refine J.al0 dX8_back_104 ?_
  refine gf_X8_9 rfl (o2 := 238) (by decide) rfl dX8_back_105 ?_
  refine J.iconst dX8_back_108 kI_1 ?_
  refine J.dup2 dX8_back_109 rfl rfl ?_
  refine J.iald (N := 352) (x := nI (aMv (qS α))) (by decide) (by decide) (by decide) (by omega) hS5₉.rMv dX8_back_110 ?_
  refine J.iconst dX8_back_111 kI_1 ?_
  refine J.iaddN dX8_back_112 ?_
  refine J.iast (N := 352) (by decide) (by decide) (by decide) (by omega) dX8_back_113 ?_
  refine J.al0 dX8_back_114 ?_
  refine J.al0 dX8_back_115 ?_
  refine gf_X8_9 rfl (o2 := 238) (by decide) rfl dX8_back_116 ?_
  refine J.iconst dX8_back_119 kI_0 ?_
  refine J.iald (N := 352) (x := nI x) (by decide) (by decide) (by decide) (by omega) (by rw [wr_n (by omega)]; exact hS5₉.rLn) dX8_back_120 ?_
  have hkt₉ : KT ((wr μ5 238 1 (nI ((aMv (qS α)) + 1)))) μ2 := (KT.wrx hKT5₉ (by omega))
  have hT6₉ : ((wr μ5 238 1 (nI ((aMv (qS α)) + 1)))) 237 6 = nI 0 := (hkt₉ 237 6 (by decide) (by decide) (by decide) (by decide) (by decide)).trans hT0₉
  have hn6₉ : ((wr μ5 238 1 (nI ((aMv (qS α)) + 1)))) 237 5 = nI (qN α) := (hkt₉ 237 5 (by decide) (by decide) (by decide) (by decide) (by decide)).trans hn2₉
  refine cl_X8_100 rfl (by decide) (k' := 0) (n' := 0) (c_m_ends _ hT6₉ hn6₉ hMR₉.2.1.2.1) ⟨⟨by decide, by decide⟩, ⟨rfl, rfl⟩, by decide, by decide⟩ rfl dX8_back_121 (fun μe he₉ => ?_)
  refine J.iret rfl (by decide) (by decide) dX8_back_124 ⟨_, rfl, ?_, ?_⟩
  · rfl
  · have hS9₉ : MS (wr μ5 238 1 (nI (aMv (qS α) + 1))) 238 0 (sLen x (sMv (sDo (moveF 1 w (4 - b)) (qS α)))) := hS5₉.sMv wr_s (fun k hk₉ => wr_n (Or.inr hk₉))
    have hpu₉ := hMR₉.push (hK₉.step hkt₉.ks) hS9₉ he₉
    exact ⟨hpu₉.1, (he₉.2.2 237 6 (by decide) (by decide)).trans hT6₉, hpu₉.2⟩

set_option maxRecDepth 100000 in
set_option maxHeartbeats 4000000 in
theorem c_m_scrambleX0 {g : GP} {adr : Nat → Nat} (μ : Mem) {α : A7} (hMR₉ : MR μ α) {i : Int32} (hx₉ : i < nI 0 ∨ nI 9999 < i) {j : Int32} : CT g yX8_scramble mX8_scramble (RM 60 0 0) (WM g adr μ) [.ref (adr 237), .int i, .int j] (PM g adr ((.inl (some (.int (nI 0))))) (fun μ' => MR μ' (α) ∧ μ' 237 6 = nI 1 ∧ FrM μ' μ)) := by
  refine CT.of (l0 := [some (.ref (adr 237)), some (.int i), some (.int j), none, none, none]) (by decide +kernel) rfl (Nat.le_of_ble_eq_true rfl) rfl ?_
  refine J.al0 dX8_scramble_0 ?_
  refine cl_X8_90 rfl (by decide) (k' := 0) (n' := 0) (c_m_keep _) ⟨⟨by decide, by decide⟩, ⟨rfl, rfl⟩, by decide, by decide⟩ rfl dX8_scramble_1 (fun μ2 ⟨hK₉, hT0₉, hs0₉, hk4₉⟩ => ?_)
  have hS2₉ : MS μ2 238 0 (qS α) := MS.off hMR₉.1 hs0₉
  have hn2₉ : μ2 237 5 = nI (qN α) := (hk4₉ 237 5 (by decide) (by decide)).trans hMR₉.2.1.1
  refine J.il1 dX8_scramble_4 ?_
  refine J.iconst dX8_scramble_5 kI_0 ?_
  refine J.sipush dX8_scramble_6 kc_9999 ?_
  refine cl_X8_93 rfl (k' := 0) (n' := 0) (inF _ (in_rng hx₉)) ⟨⟨by decide, by decide⟩, ⟨rfl, rfl⟩, by decide, by decide⟩ rfl dX8_scramble_9 (fun μ9 h9₉ => ?_)
  rw [h9₉]; clear h9₉
  refine J.if_eqN (tgt := 25) dX8_scramble_12 (by decide) (by omega) (fun c12₉ => ?_) (fun c12₉ => absurd c12₉ (by first | omega | (simp only [not_true_eq_false, not_false_eq_true]; done) | (simp; done)))
  refine J.al0 dX8_scramble_25 ?_
  refine J.al0 dX8_scramble_26 ?_
  refine J.iconst dX8_scramble_27 kI_1 ?_
  refine cl_X8_97 rfl (by decide) (k' := 0) (n' := 0) (c_m_fails _) ⟨⟨by decide, by decide⟩, ⟨rfl, rfl⟩, by decide, by decide⟩ rfl dX8_scramble_28 (fun μf hf₉ => ?_)
  refine cl_X8_100 rfl (by decide) (k' := 0) (n' := 0) (c_m_endsX _ (j := 1) (by rw [hf₉]; exact wr_s) (by decide) (by decide)) ⟨⟨by decide, by decide⟩, ⟨rfl, rfl⟩, by decide, by decide⟩ rfl dX8_scramble_31 (fun μe ⟨he1₉, he2₉⟩ => ?_)
  refine J.iret rfl (by decide) (by decide) dX8_scramble_34 ⟨_, rfl, ?_, ?_⟩
  · rfl
  · have hbk₉ := hMR₉.back (hK₉.step (by rw [hf₉]; exact KS.rf.wrx (by omega))) he1₉ he2₉
    exact ⟨hbk₉.1, by rw [he2₉ 237 (by decide), hf₉]; exact wr_s, hbk₉.2⟩

set_option maxRecDepth 100000 in
set_option maxHeartbeats 4000000 in
theorem c_m_scrambleX1 {g : GP} {adr : Nat → Nat} (μ : Mem) {α : A7} (hMR₉ : MR μ α) {i : Nat} (hi1₉ : 0 ≤ i) (hi2₉ : i ≤ 9999) {j : Int32} (hx₉ : j < nI 1 ∨ nI 60 < j) : CT g yX8_scramble mX8_scramble (RM 60 0 0) (WM g adr μ) [.ref (adr 237), .int (nI i), .int j] (PM g adr ((.inl (some (.int (nI 0))))) (fun μ' => MR μ' (α) ∧ μ' 237 6 = nI 1 ∧ FrM μ' μ)) := by
  refine CT.of (l0 := [some (.ref (adr 237)), some (.int (nI i)), some (.int j), none, none, none]) (by decide +kernel) rfl (Nat.le_of_ble_eq_true rfl) rfl ?_
  refine J.al0 dX8_scramble_0 ?_
  refine cl_X8_90 rfl (by decide) (k' := 0) (n' := 0) (c_m_keep _) ⟨⟨by decide, by decide⟩, ⟨rfl, rfl⟩, by decide, by decide⟩ rfl dX8_scramble_1 (fun μ2 ⟨hK₉, hT0₉, hs0₉, hk4₉⟩ => ?_)
  have hS2₉ : MS μ2 238 0 (qS α) := MS.off hMR₉.1 hs0₉
  have hn2₉ : μ2 237 5 = nI (qN α) := (hk4₉ 237 5 (by decide) (by decide)).trans hMR₉.2.1.1
  refine J.il1 dX8_scramble_4 ?_
  refine J.iconst dX8_scramble_5 kI_0 ?_
  refine J.sipush dX8_scramble_6 kc_9999 ?_
  refine cl_X8_93 rfl (k' := 0) (n' := 0) (inT _ (by omega) (by omega) (by omega)) ⟨⟨by decide, by decide⟩, ⟨rfl, rfl⟩, by decide, by decide⟩ rfl dX8_scramble_9 (fun μ9 h9₉ => ?_)
  rw [h9₉]; clear h9₉
  refine J.if_eqN (tgt := 25) dX8_scramble_12 (by decide) (by omega) (fun c12₉ => absurd c12₉ (by first | omega | (simp only [not_true_eq_false, not_false_eq_true]; done) | (simp; done))) (fun c12₉ => ?_)
  refine J.il2 dX8_scramble_15 ?_
  refine J.iconst dX8_scramble_16 kI_1 ?_
  refine J.bipush dX8_scramble_17 kb_60 ?_
  refine cl_X8_93 rfl (k' := 0) (n' := 0) (inF _ (in_rng hx₉)) ⟨⟨by decide, by decide⟩, ⟨rfl, rfl⟩, by decide, by decide⟩ rfl dX8_scramble_19 (fun μ9 h9₉ => ?_)
  rw [h9₉]; clear h9₉
  refine J.if_neN (tgt := 35) dX8_scramble_22 (by decide) (by omega) (fun c22₉ => absurd c22₉ (by first | omega | (simp only [not_true_eq_false, not_false_eq_true]; done) | (simp; done))) (fun c22₉ => ?_)
  refine J.al0 dX8_scramble_25 ?_
  refine J.al0 dX8_scramble_26 ?_
  refine J.iconst dX8_scramble_27 kI_1 ?_
  refine cl_X8_97 rfl (by decide) (k' := 0) (n' := 0) (c_m_fails _) ⟨⟨by decide, by decide⟩, ⟨rfl, rfl⟩, by decide, by decide⟩ rfl dX8_scramble_28 (fun μf hf₉ => ?_)
  refine cl_X8_100 rfl (by decide) (k' := 0) (n' := 0) (c_m_endsX _ (j := 1) (by rw [hf₉]; exact wr_s) (by decide) (by decide)) ⟨⟨by decide, by decide⟩, ⟨rfl, rfl⟩, by decide, by decide⟩ rfl dX8_scramble_31 (fun μe ⟨he1₉, he2₉⟩ => ?_)
  refine J.iret rfl (by decide) (by decide) dX8_scramble_34 ⟨_, rfl, ?_, ?_⟩
  · rfl
  · have hbk₉ := hMR₉.back (hK₉.step (by rw [hf₉]; exact KS.rf.wrx (by omega))) he1₉ he2₉
    exact ⟨hbk₉.1, by rw [he2₉ 237 (by decide), hf₉]; exact wr_s, hbk₉.2⟩

set_option maxRecDepth 100000 in
set_option maxHeartbeats 4000000 in
theorem c_m_scramble {g : GP} {adr : Nat → Nat} (μ : Mem) {α : A7} (hMR₉ : MR μ α) {i : Nat} (hi1₉ : 0 ≤ i) (hi2₉ : i ≤ 9999) {j : Nat} (hj1₉ : 1 ≤ j) (hj2₉ : j ≤ 60)  : CT g yX8_scramble mX8_scramble (RM 60 0 0) (WM g adr μ) [.ref (adr 237), .int (nI i), .int (nI j)] (PM g adr ((.inl (some (.int (nI (cnt (fun s => decide (aAt ((scP (i + 1) (qS α) j).2) s = s)) 32)))))) (fun μ' => MR μ' (aPush ((scP (i + 1) (qS α) j).2) α) ∧ μ' 237 6 = nI 0 ∧ FrM μ' μ)) := by
  refine CT.of (l0 := [some (.ref (adr 237)), some (.int (nI i)), some (.int (nI j)), none, none, none]) (by decide +kernel) rfl (Nat.le_of_ble_eq_true rfl) rfl ?_
  refine J.al0 dX8_scramble_0 ?_
  refine cl_X8_90 rfl (by decide) (k' := 0) (n' := 0) (c_m_keep _) ⟨⟨by decide, by decide⟩, ⟨rfl, rfl⟩, by decide, by decide⟩ rfl dX8_scramble_1 (fun μ2 ⟨hK₉, hT0₉, hs0₉, hk4₉⟩ => ?_)
  have hS2₉ : MS μ2 238 0 (qS α) := MS.off hMR₉.1 hs0₉
  have hn2₉ : μ2 237 5 = nI (qN α) := (hk4₉ 237 5 (by decide) (by decide)).trans hMR₉.2.1.1
  refine J.il1 dX8_scramble_4 ?_
  refine J.iconst dX8_scramble_5 kI_0 ?_
  refine J.sipush dX8_scramble_6 kc_9999 ?_
  refine cl_X8_93 rfl (k' := 0) (n' := 0) (inT _ (by omega) (by omega) (by omega)) ⟨⟨by decide, by decide⟩, ⟨rfl, rfl⟩, by decide, by decide⟩ rfl dX8_scramble_9 (fun μ9 h9₉ => ?_)
  rw [h9₉]; clear h9₉
  refine J.if_eqN (tgt := 25) dX8_scramble_12 (by decide) (by omega) (fun c12₉ => absurd c12₉ (by first | omega | (simp only [not_true_eq_false, not_false_eq_true]; done) | (simp; done))) (fun c12₉ => ?_)
  refine J.il2 dX8_scramble_15 ?_
  refine J.iconst dX8_scramble_16 kI_1 ?_
  refine J.bipush dX8_scramble_17 kb_60 ?_
  refine cl_X8_93 rfl (k' := 0) (n' := 0) (inT _ (by omega) (by omega) (by omega)) ⟨⟨by decide, by decide⟩, ⟨rfl, rfl⟩, by decide, by decide⟩ rfl dX8_scramble_19 (fun μ9 h9₉ => ?_)
  rw [h9₉]; clear h9₉
  refine J.if_neN (tgt := 35) dX8_scramble_22 (by decide) (by omega) (fun c22₉ => ?_) (fun c22₉ => absurd c22₉ (by first | omega | (simp only [not_true_eq_false, not_false_eq_true]; done) | (simp; done)))
  refine J.il1 dX8_scramble_35 ?_
  refine J.iconst dX8_scramble_36 kI_1 ?_
  refine J.iaddN dX8_scramble_37 ?_
  refine J.is3 dX8_scramble_38 (by decide) rfl ?_
  refine J.iconst dX8_scramble_39 kI_0 ?_
  refine J.is4 dX8_scramble_40 (by decide) rfl ?_
  have lp42_1 : ∀ (fu : Nat) (m v : Nat) (μ1 : Mem), j < m + fu → m ≤ j → v = (scP (i + 1) (qS α) m).1 → v ≤ 65537 → MS μ1 238 0 (scP (i + 1) (qS α) m).2 → KT μ1 μ2 → J g mX8_scramble (RM 60 0 0) (MQx g (RM 60 0 0) (PM g adr ((.inl (some (.int (nI (cnt (fun s => decide (aAt ((scP (i + 1) (qS α) j).2) s = s)) 32)))))) (fun μ' => MR μ' (aPush ((scP (i + 1) (qS α) j).2) α) ∧ μ' 237 6 = nI 0 ∧ FrM μ' μ))) 0 0 (WM g adr μ1) 42 [some (.ref (adr 237)), some (.int (nI i)), some (.int (nI j)), some (.int (nI v)), some (.int (nI m)), none] [] := by
    intro fu
    induction fu with
    | zero => intro m v μ1 h9₉ hm₉ hv₉ hv2₉ hS1₉ hKT1₉; exact absurd h9₉ (by omega)
    | succ fu ih42 =>
      intro m v μ1 h9₉ hm₉ hv₉ hv2₉ hS1₉ hKT1₉
      refine J.il4 dX8_scramble_42 ?_
      refine J.il2 dX8_scramble_44 ?_
      refine J.icmp_geN (tgt := 125) dX8_scramble_45 (by decide) (by omega) (by omega) (fun c45₉ => ?_) (fun c45₉ => ?_)
      · refine J.al0 dX8_scramble_125 ?_
        refine J.al0 dX8_scramble_126 ?_
        obtain rfl : m = j := by omega
        refine cl_X8_107 rfl (by decide) (k' := 0) (n' := 0) (c_m_home _ (f := aAt (scP (i + 1) (qS α) m).2) (fun k hk₉ => hS1₉.rAt hk₉) (fun k hk₉ => hS1₉.vs.1.1 k hk₉)) ⟨⟨by decide, by decide⟩, ⟨rfl, rfl⟩, by decide, by decide⟩ rfl dX8_scramble_127 (fun μ9 h9₉ => ?_)
        rw [h9₉]; clear h9₉
        have hkt₉ : KT (μ1) μ2 := hKT1₉
        have hT6₉ : (μ1) 237 6 = nI 0 := (hkt₉ 237 6 (by decide) (by decide) (by decide) (by decide) (by decide)).trans hT0₉
        have hn6₉ : (μ1) 237 5 = nI (qN α) := (hkt₉ 237 5 (by decide) (by decide) (by decide) (by decide) (by decide)).trans hn2₉
        refine cl_X8_100 rfl (by decide) (k' := 0) (n' := 0) (c_m_ends _ hT6₉ hn6₉ hMR₉.2.1.2.1) ⟨⟨by decide, by decide⟩, ⟨rfl, rfl⟩, by decide, by decide⟩ rfl dX8_scramble_130 (fun μe he₉ => ?_)
        refine J.iret rfl (by decide) (by decide) dX8_scramble_133 ⟨_, rfl, ?_, ?_⟩
        · rfl
        · have hpu₉ := hMR₉.push (hK₉.step hkt₉.ks) hS1₉ he₉
          exact ⟨hpu₉.1, (he₉.2.2 237 6 (by decide) (by decide)).trans hT6₉, hpu₉.2⟩
      · refine J.bipush dX8_scramble_48 kb_75 ?_
        refine J.il3 dX8_scramble_50 ?_
        refine J.imulN dX8_scramble_51 ?_
        refine J.bipush dX8_scramble_52 kb_74 ?_
        refine J.iaddN dX8_scramble_54 ?_
        refine J.ldcI dX8_scramble_55 t_1103 (show (_ : Int32) = nI 65537 by decide) ?_
        refine J.irem dX8_scramble_57 (by omega) (by omega) (by omega) ?_
        refine J.is3 dX8_scramble_58 (by decide) rfl ?_
        refine J.il3 dX8_scramble_59 ?_
        refine J.iconst dX8_scramble_60 kI_2 ?_
        refine J.irem dX8_scramble_61 (by omega) (by omega) (by omega) ?_
        refine J.iconst dX8_scramble_62 kI_1 ?_
        refine J.icmp_neN (tgt := 70) dX8_scramble_63 (by decide) (by omega) (by omega) (fun c63₉ => ?_) (fun c63₉ => ?_)
        · refine J.iconst dX8_scramble_70 kI_0 ?_
          refine J.is5 dX8_scramble_71 (by decide) rfl ?_
          refine J.il5 dX8_scramble_73 ?_
          refine J.if_eqN (tgt := 100) dX8_scramble_75 (by decide) (by omega) (fun c75₉ => ?_) (fun c75₉ => absurd c75₉ (by first | omega | (simp only [not_true_eq_false, not_false_eq_true]; done) | (simp; done)))
          refine J.al0 dX8_scramble_100 ?_
          refine J.iconst dX8_scramble_101 kI_0 ?_
          refine J.il3 dX8_scramble_102 ?_
          refine J.iconst dX8_scramble_103 kI_2 ?_
          refine J.idiv dX8_scramble_104 (by omega) (by omega) (by omega) ?_
          refine J.iconst dX8_scramble_105 kI_4 ?_
          refine J.irem dX8_scramble_106 (by omega) (by omega) (by omega) ?_
          refine J.iconst dX8_scramble_107 kI_1 ?_
          refine J.il3 dX8_scramble_108 ?_
          refine J.bipush dX8_scramble_109 kb_8 ?_
          refine J.idiv dX8_scramble_111 (by omega) (by omega) (by omega) ?_
          refine J.bipush dX8_scramble_112 kb_7 ?_
          refine J.irem dX8_scramble_114 (by omega) (by omega) (by omega) ?_
          refine J.iaddN dX8_scramble_115 ?_
          refine cl_X8_103 rfl (by decide) (k' := 0) (n' := 0) (c_m_moves0 _ (show mvOK 0 _ _ by unfold mvOK; omega) hS1₉) ⟨⟨by decide, by decide⟩, ⟨rfl, rfl⟩, by decide, by decide⟩ rfl dX8_scramble_116 (fun μ3 ⟨hS3₉, hKT3₉⟩ => ?_)
          refine J.ii4 (z := 1) dX8_scramble_119 (by decide) (by decide) rfl ?_
          refine J.goto (tgt := 42) dX8_scramble_122 (by decide) ?_
          have hsc₉ : (scP (i + 1) (qS α) (m + 1)).2 = mvS 0 (((((75 * v) + 74) % 65537) / 2) % 4) (1 + (((((75 * v) + 74) % 65537) / 8) % 7)) (scP (i + 1) (qS α) m).2 := by
            show scM (scV (scP (i + 1) (qS α) m).1) _ = _
            rw [← hv₉]; first | exact if_pos (show scV v % 2 = 0 by unfold scV; omega) | exact if_neg (show ¬ scV v % 2 = 0 by unfold scV; omega)
          exact J.subR (ih42 (m + 1) (((75 * v) + 74) % 65537) _ (by omega) (by omega) (by show _ = scV (scP (i + 1) (qS α) m).1; rw [← hv₉]; rfl) (by omega) (by rw [hsc₉]; exact hS3₉) (hKT3₉.trans hKT1₉)) ⟨rfl, ⟨rfl, ⟨rfl, ⟨rfl, ⟨rfl, trivial⟩⟩⟩⟩⟩
        · refine J.iconst dX8_scramble_66 kI_1 ?_
          refine J.goto (tgt := 71) dX8_scramble_67 (by decide) ?_
          refine J.is5 dX8_scramble_71 (by decide) rfl ?_
          refine J.il5 dX8_scramble_73 ?_
          refine J.if_eqN (tgt := 100) dX8_scramble_75 (by decide) (by omega) (fun c75₉ => absurd c75₉ (by first | omega | (simp only [not_true_eq_false, not_false_eq_true]; done) | (simp; done))) (fun c75₉ => ?_)
          refine J.al0 dX8_scramble_78 ?_
          refine J.iconst dX8_scramble_79 kI_1 ?_
          refine J.il3 dX8_scramble_80 ?_
          refine J.iconst dX8_scramble_81 kI_2 ?_
          refine J.idiv dX8_scramble_82 (by omega) (by omega) (by omega) ?_
          refine J.bipush dX8_scramble_83 kb_8 ?_
          refine J.irem dX8_scramble_85 (by omega) (by omega) (by omega) ?_
          refine J.iconst dX8_scramble_86 kI_1 ?_
          refine J.il3 dX8_scramble_87 ?_
          refine J.bipush dX8_scramble_88 kb_16 ?_
          refine J.idiv dX8_scramble_90 (by omega) (by omega) (by omega) ?_
          refine J.iconst dX8_scramble_91 kI_3 ?_
          refine J.irem dX8_scramble_92 (by omega) (by omega) (by omega) ?_
          refine J.iaddN dX8_scramble_93 ?_
          refine cl_X8_103 rfl (by decide) (k' := 0) (n' := 0) (c_m_moves1 _ (show mvOK 1 _ _ by unfold mvOK; omega) hS1₉) ⟨⟨by decide, by decide⟩, ⟨rfl, rfl⟩, by decide, by decide⟩ rfl dX8_scramble_94 (fun μ3 ⟨hS3₉, hKT3₉⟩ => ?_)
          refine J.goto (tgt := 119) dX8_scramble_97 (by decide) ?_
          refine J.ii4 (z := 1) dX8_scramble_119 (by decide) (by decide) rfl ?_
          refine J.goto (tgt := 42) dX8_scramble_122 (by decide) ?_
          have hsc₉ : (scP (i + 1) (qS α) (m + 1)).2 = mvS 1 (((((75 * v) + 74) % 65537) / 2) % 8) (1 + (((((75 * v) + 74) % 65537) / 16) % 3)) (scP (i + 1) (qS α) m).2 := by
            show scM (scV (scP (i + 1) (qS α) m).1) _ = _
            rw [← hv₉]; first | exact if_pos (show scV v % 2 = 0 by unfold scV; omega) | exact if_neg (show ¬ scV v % 2 = 0 by unfold scV; omega)
          exact J.subR (ih42 (m + 1) (((75 * v) + 74) % 65537) _ (by omega) (by omega) (by show _ = scV (scP (i + 1) (qS α) m).1; rw [← hv₉]; rfl) (by omega) (by rw [hsc₉]; exact hS3₉) (hKT3₉.trans hKT1₉)) ⟨rfl, ⟨rfl, ⟨rfl, ⟨rfl, ⟨rfl, trivial⟩⟩⟩⟩⟩
  exact lp42_1 (j + 1) 0 (i + 1) _ (by omega) (by omega) rfl (by omega) hS2₉ KT.rf

set_option maxRecDepth 100000 in
set_option maxHeartbeats 4000000 in
theorem c_m_paintX0 {g : GP} {adr : Nat → Nat} (μ : Mem) {α : A7} (hMR₉ : MR μ α) {i : Int32} (hx₉ : ¬ (0 ≤ i ∧ i < nI 32)) {j : Int32} : CT g yX8_paint mX8_paint (RM 60 0 0) (WM g adr μ) [.ref (adr 237), .int i, .int j] (PM g adr ((.inl (some (.int (nI 0))))) (fun μ' => MR μ' (α) ∧ μ' 237 6 = nI 1 ∧ FrM μ' μ)) := by
  refine CT.of (l0 := [some (.ref (adr 237)), some (.int i), some (.int j), none]) (by decide +kernel) rfl (Nat.le_of_ble_eq_true rfl) rfl ?_
  refine J.al0 dX8_paint_0 ?_
  refine cl_X8_90 rfl (by decide) (k' := 0) (n' := 0) (c_m_keep _) ⟨⟨by decide, by decide⟩, ⟨rfl, rfl⟩, by decide, by decide⟩ rfl dX8_paint_1 (fun μ2 ⟨hK₉, hT0₉, hs0₉, hk4₉⟩ => ?_)
  have hS2₉ : MS μ2 238 0 (qS α) := MS.off hMR₉.1 hs0₉
  have hn2₉ : μ2 237 5 = nI (qN α) := (hk4₉ 237 5 (by decide) (by decide)).trans hMR₉.2.1.1
  refine J.il1 dX8_paint_4 ?_
  refine cl_X8_115 rfl (k' := 0) (n' := 0) (c_m_isSlotF _ hx₉) ⟨⟨by decide, by decide⟩, ⟨rfl, rfl⟩, by decide, by decide⟩ rfl dX8_paint_5 (fun μ9 h9₉ => ?_)
  rw [h9₉]; clear h9₉
  refine J.if_neN (tgt := 21) dX8_paint_8 (by decide) (by omega) (fun c8₉ => absurd c8₉ (by first | omega | (simp only [not_true_eq_false, not_false_eq_true]; done) | (simp; done))) (fun c8₉ => ?_)
  refine J.al0 dX8_paint_11 ?_
  refine J.al0 dX8_paint_12 ?_
  refine J.iconst dX8_paint_13 kI_1 ?_
  refine cl_X8_97 rfl (by decide) (k' := 0) (n' := 0) (c_m_fails _) ⟨⟨by decide, by decide⟩, ⟨rfl, rfl⟩, by decide, by decide⟩ rfl dX8_paint_14 (fun μf hf₉ => ?_)
  refine cl_X8_100 rfl (by decide) (k' := 0) (n' := 0) (c_m_endsX _ (j := 1) (by rw [hf₉]; exact wr_s) (by decide) (by decide)) ⟨⟨by decide, by decide⟩, ⟨rfl, rfl⟩, by decide, by decide⟩ rfl dX8_paint_17 (fun μe ⟨he1₉, he2₉⟩ => ?_)
  refine J.iret rfl (by decide) (by decide) dX8_paint_20 ⟨_, rfl, ?_, ?_⟩
  · rfl
  · have hbk₉ := hMR₉.back (hK₉.step (by rw [hf₉]; exact KS.rf.wrx (by omega))) he1₉ he2₉
    exact ⟨hbk₉.1, by rw [he2₉ 237 (by decide), hf₉]; exact wr_s, hbk₉.2⟩

set_option maxRecDepth 100000 in
set_option maxHeartbeats 4000000 in
theorem c_m_paintX1 {g : GP} {adr : Nat → Nat} (μ : Mem) {α : A7} (hMR₉ : MR μ α) {i : Nat} (hi1₉ : i < 32) {j : Int32} (hx₉ : j < nI 0 ∨ nI 5 < j) : CT g yX8_paint mX8_paint (RM 60 0 0) (WM g adr μ) [.ref (adr 237), .int (nI i), .int j] (PM g adr ((.inl (some (.int (nI 0))))) (fun μ' => MR μ' (α) ∧ μ' 237 6 = nI 2 ∧ FrM μ' μ)) := by
  refine CT.of (l0 := [some (.ref (adr 237)), some (.int (nI i)), some (.int j), none]) (by decide +kernel) rfl (Nat.le_of_ble_eq_true rfl) rfl ?_
  refine J.al0 dX8_paint_0 ?_
  refine cl_X8_90 rfl (by decide) (k' := 0) (n' := 0) (c_m_keep _) ⟨⟨by decide, by decide⟩, ⟨rfl, rfl⟩, by decide, by decide⟩ rfl dX8_paint_1 (fun μ2 ⟨hK₉, hT0₉, hs0₉, hk4₉⟩ => ?_)
  have hS2₉ : MS μ2 238 0 (qS α) := MS.off hMR₉.1 hs0₉
  have hn2₉ : μ2 237 5 = nI (qN α) := (hk4₉ 237 5 (by decide) (by decide)).trans hMR₉.2.1.1
  refine J.il1 dX8_paint_4 ?_
  refine cl_X8_115 rfl (k' := 0) (n' := 0) (c_m_isSlotT _ (by omega)) ⟨⟨by decide, by decide⟩, ⟨rfl, rfl⟩, by decide, by decide⟩ rfl dX8_paint_5 (fun μ9 h9₉ => ?_)
  rw [h9₉]; clear h9₉
  refine J.if_neN (tgt := 21) dX8_paint_8 (by decide) (by omega) (fun c8₉ => ?_) (fun c8₉ => absurd c8₉ (by first | omega | (simp only [not_true_eq_false, not_false_eq_true]; done) | (simp; done)))
  refine J.il2 dX8_paint_21 ?_
  refine J.iconst dX8_paint_22 kI_0 ?_
  refine J.iconst dX8_paint_23 kI_5 ?_
  refine cl_X8_93 rfl (k' := 0) (n' := 0) (inF _ (in_rng hx₉)) ⟨⟨by decide, by decide⟩, ⟨rfl, rfl⟩, by decide, by decide⟩ rfl dX8_paint_24 (fun μ9 h9₉ => ?_)
  rw [h9₉]; clear h9₉
  refine J.if_neN (tgt := 40) dX8_paint_27 (by decide) (by omega) (fun c27₉ => absurd c27₉ (by first | omega | (simp only [not_true_eq_false, not_false_eq_true]; done) | (simp; done))) (fun c27₉ => ?_)
  refine J.al0 dX8_paint_30 ?_
  refine J.al0 dX8_paint_31 ?_
  refine J.iconst dX8_paint_32 kI_2 ?_
  refine cl_X8_97 rfl (by decide) (k' := 0) (n' := 0) (c_m_fails _) ⟨⟨by decide, by decide⟩, ⟨rfl, rfl⟩, by decide, by decide⟩ rfl dX8_paint_33 (fun μf hf₉ => ?_)
  refine cl_X8_100 rfl (by decide) (k' := 0) (n' := 0) (c_m_endsX _ (j := 2) (by rw [hf₉]; exact wr_s) (by decide) (by decide)) ⟨⟨by decide, by decide⟩, ⟨rfl, rfl⟩, by decide, by decide⟩ rfl dX8_paint_36 (fun μe ⟨he1₉, he2₉⟩ => ?_)
  refine J.iret rfl (by decide) (by decide) dX8_paint_39 ⟨_, rfl, ?_, ?_⟩
  · rfl
  · have hbk₉ := hMR₉.back (hK₉.step (by rw [hf₉]; exact KS.rf.wrx (by omega))) he1₉ he2₉
    exact ⟨hbk₉.1, by rw [he2₉ 237 (by decide), hf₉]; exact wr_s, hbk₉.2⟩

set_option maxRecDepth 100000 in
set_option maxHeartbeats 4000000 in
theorem c_m_paint {g : GP} {adr : Nat → Nat} (μ : Mem) {α : A7} (hMR₉ : MR μ α) {i : Nat} (hi1₉ : i < 32) {j : Nat} (hj1₉ : 0 ≤ j) (hj2₉ : j ≤ 5) (hq₉ : aCol (qS α) i ≠ j) : CT g yX8_paint mX8_paint (RM 60 0 0) (WM g adr μ) [.ref (adr 237), .int (nI i), .int (nI j)] (PM g adr ((.inl (some (.int (nI (aCol (qS α) i)))))) (fun μ' => MR μ' (aPush (sCol i j (qS α)) α) ∧ μ' 237 6 = nI 0 ∧ FrM μ' μ)) := by
  refine CT.of (l0 := [some (.ref (adr 237)), some (.int (nI i)), some (.int (nI j)), none]) (by decide +kernel) rfl (Nat.le_of_ble_eq_true rfl) rfl ?_
  refine J.al0 dX8_paint_0 ?_
  refine cl_X8_90 rfl (by decide) (k' := 0) (n' := 0) (c_m_keep _) ⟨⟨by decide, by decide⟩, ⟨rfl, rfl⟩, by decide, by decide⟩ rfl dX8_paint_1 (fun μ2 ⟨hK₉, hT0₉, hs0₉, hk4₉⟩ => ?_)
  have hS2₉ : MS μ2 238 0 (qS α) := MS.off hMR₉.1 hs0₉
  have hn2₉ : μ2 237 5 = nI (qN α) := (hk4₉ 237 5 (by decide) (by decide)).trans hMR₉.2.1.1
  refine J.il1 dX8_paint_4 ?_
  refine cl_X8_115 rfl (k' := 0) (n' := 0) (c_m_isSlotT _ (by omega)) ⟨⟨by decide, by decide⟩, ⟨rfl, rfl⟩, by decide, by decide⟩ rfl dX8_paint_5 (fun μ9 h9₉ => ?_)
  rw [h9₉]; clear h9₉
  refine J.if_neN (tgt := 21) dX8_paint_8 (by decide) (by omega) (fun c8₉ => ?_) (fun c8₉ => absurd c8₉ (by first | omega | (simp only [not_true_eq_false, not_false_eq_true]; done) | (simp; done)))
  refine J.il2 dX8_paint_21 ?_
  refine J.iconst dX8_paint_22 kI_0 ?_
  refine J.iconst dX8_paint_23 kI_5 ?_
  refine cl_X8_93 rfl (k' := 0) (n' := 0) (inT _ (by omega) (by omega) (by omega)) ⟨⟨by decide, by decide⟩, ⟨rfl, rfl⟩, by decide, by decide⟩ rfl dX8_paint_24 (fun μ9 h9₉ => ?_)
  rw [h9₉]; clear h9₉
  refine J.if_neN (tgt := 40) dX8_paint_27 (by decide) (by omega) (fun c27₉ => ?_) (fun c27₉ => absurd c27₉ (by first | omega | (simp only [not_true_eq_false, not_false_eq_true]; done) | (simp; done)))
  refine J.al0 dX8_paint_40 ?_
  refine gf_X8_9 rfl (o2 := 238) (by decide) rfl dX8_paint_41 ?_
  refine J.bipush dX8_paint_44 kb_40 ?_
  refine J.il1 dX8_paint_46 ?_
  refine J.iaddN dX8_paint_47 ?_
  have hbc₉ := hS2₉.vs.2.1 i (by omega)
  refine J.iald (N := 352) (x := nI (aCol (qS α) i)) (by decide) (by decide) (by decide) (by omega) (hS2₉.rCol (by omega)) dX8_paint_48 ?_
  refine J.is3 dX8_paint_49 (by decide) rfl ?_
  refine J.il3 dX8_paint_50 ?_
  refine J.il2 dX8_paint_51 ?_
  refine J.icmp_neN (tgt := 67) dX8_paint_52 (by decide) (by omega) (by omega) (fun c52₉ => ?_) (fun c52₉ => absurd c52₉ (by first | omega | (simp only [not_true_eq_false, not_false_eq_true]; done) | (simp; done)))
  refine J.al0 dX8_paint_67 ?_
  refine gf_X8_9 rfl (o2 := 238) (by decide) rfl dX8_paint_68 ?_
  refine J.bipush dX8_paint_71 kb_40 ?_
  refine J.il1 dX8_paint_73 ?_
  refine J.iaddN dX8_paint_74 ?_
  refine J.il2 dX8_paint_75 ?_
  refine J.iast (N := 352) (by decide) (by decide) (by decide) (by omega) dX8_paint_76 ?_
  refine J.al0 dX8_paint_77 ?_
  refine J.il3 dX8_paint_78 ?_
  have hkt₉ : KT ((wr μ2 238 (40 + i) (nI j))) μ2 := (KT.wrx KT.rf (by omega))
  have hT6₉ : ((wr μ2 238 (40 + i) (nI j))) 237 6 = nI 0 := (hkt₉ 237 6 (by decide) (by decide) (by decide) (by decide) (by decide)).trans hT0₉
  have hn6₉ : ((wr μ2 238 (40 + i) (nI j))) 237 5 = nI (qN α) := (hkt₉ 237 5 (by decide) (by decide) (by decide) (by decide) (by decide)).trans hn2₉
  refine cl_X8_100 rfl (by decide) (k' := 0) (n' := 0) (c_m_ends _ hT6₉ hn6₉ hMR₉.2.1.2.1) ⟨⟨by decide, by decide⟩, ⟨rfl, rfl⟩, by decide, by decide⟩ rfl dX8_paint_79 (fun μe he₉ => ?_)
  refine J.iret rfl (by decide) (by decide) dX8_paint_82 ⟨_, rfl, ?_, ?_⟩
  · rfl
  · have hS9₉ : MS (wr μ2 238 (40 + i) (nI j)) 238 0 (sCol i j (qS α)) := hS2₉.sCol hi1₉ (by omega) wr_s (fun k hk₉ => wr_n (Or.inr hk₉))
    have hpu₉ := hMR₉.push (hK₉.step hkt₉.ks) hS9₉ he₉
    exact ⟨hpu₉.1, (he₉.2.2 237 6 (by decide) (by decide)).trans hT6₉, hpu₉.2⟩

set_option maxRecDepth 100000 in
set_option maxHeartbeats 4000000 in
theorem c_m_paintX2 {g : GP} {adr : Nat → Nat} (μ : Mem) {α : A7} (hMR₉ : MR μ α) {i j : Nat} (hi1₉ : i < 32) (hj1₉ : 0 ≤ j) (hj2₉ : j ≤ 5) (hq₉ : aCol (qS α) i = j) : CT g yX8_paint mX8_paint (RM 60 0 0) (WM g adr μ) [.ref (adr 237), .int (nI i), .int (nI j)] (PM g adr ((.inl (some (.int (nI 0))))) (fun μ' => MR μ' (aRef 4 j α) ∧ μ' 237 6 = nI 3 ∧ FrM μ' μ)) := by
  refine CT.of (l0 := [some (.ref (adr 237)), some (.int (nI i)), some (.int (nI j)), none]) (by decide +kernel) rfl (Nat.le_of_ble_eq_true rfl) rfl ?_
  refine J.al0 dX8_paint_0 ?_
  refine cl_X8_90 rfl (by decide) (k' := 0) (n' := 0) (c_m_keep _) ⟨⟨by decide, by decide⟩, ⟨rfl, rfl⟩, by decide, by decide⟩ rfl dX8_paint_1 (fun μ2 ⟨hK₉, hT0₉, hs0₉, hk4₉⟩ => ?_)
  have hS2₉ : MS μ2 238 0 (qS α) := MS.off hMR₉.1 hs0₉
  have hn2₉ : μ2 237 5 = nI (qN α) := (hk4₉ 237 5 (by decide) (by decide)).trans hMR₉.2.1.1
  refine J.il1 dX8_paint_4 ?_
  refine cl_X8_115 rfl (k' := 0) (n' := 0) (c_m_isSlotT _ (by omega)) ⟨⟨by decide, by decide⟩, ⟨rfl, rfl⟩, by decide, by decide⟩ rfl dX8_paint_5 (fun μ9 h9₉ => ?_)
  rw [h9₉]; clear h9₉
  refine J.if_neN (tgt := 21) dX8_paint_8 (by decide) (by omega) (fun c8₉ => ?_) (fun c8₉ => absurd c8₉ (by first | omega | (simp only [not_true_eq_false, not_false_eq_true]; done) | (simp; done)))
  refine J.il2 dX8_paint_21 ?_
  refine J.iconst dX8_paint_22 kI_0 ?_
  refine J.iconst dX8_paint_23 kI_5 ?_
  refine cl_X8_93 rfl (k' := 0) (n' := 0) (inT _ (by omega) (by omega) (by omega)) ⟨⟨by decide, by decide⟩, ⟨rfl, rfl⟩, by decide, by decide⟩ rfl dX8_paint_24 (fun μ9 h9₉ => ?_)
  rw [h9₉]; clear h9₉
  refine J.if_neN (tgt := 40) dX8_paint_27 (by decide) (by omega) (fun c27₉ => ?_) (fun c27₉ => absurd c27₉ (by first | omega | (simp only [not_true_eq_false, not_false_eq_true]; done) | (simp; done)))
  refine J.al0 dX8_paint_40 ?_
  refine gf_X8_9 rfl (o2 := 238) (by decide) rfl dX8_paint_41 ?_
  refine J.bipush dX8_paint_44 kb_40 ?_
  refine J.il1 dX8_paint_46 ?_
  refine J.iaddN dX8_paint_47 ?_
  have hbc₉ := hS2₉.vs.2.1 i (by omega)
  refine J.iald (N := 352) (x := nI (aCol (qS α) i)) (by decide) (by decide) (by decide) (by omega) (hS2₉.rCol (by omega)) dX8_paint_48 ?_
  refine J.is3 dX8_paint_49 (by decide) rfl ?_
  refine J.il3 dX8_paint_50 ?_
  refine J.il2 dX8_paint_51 ?_
  refine J.icmp_neN (tgt := 67) dX8_paint_52 (by decide) (by omega) (by omega) (fun c52₉ => absurd c52₉ (by first | omega | (simp only [not_true_eq_false, not_false_eq_true]; done) | (simp; done))) (fun c52₉ => ?_)
  refine J.al0 dX8_paint_55 ?_
  refine J.al0 dX8_paint_56 ?_
  refine J.iconst dX8_paint_57 kI_3 ?_
  refine J.iconst dX8_paint_58 kI_4 ?_
  refine J.il2 dX8_paint_59 ?_
  refine cl_X8_110 rfl (by decide) (k' := 0) (n' := 0) (c_m_refuse _) ⟨⟨by decide, by decide⟩, ⟨rfl, rfl⟩, by decide, by decide⟩ rfl dX8_paint_60 (fun μf hf₉ => ?_)
  refine cl_X8_100 rfl (by decide) (k' := 0) (n' := 0) (c_m_endsX _ (j := 3) (by rw [hf₉]; exact (wr_n (by decide)).trans ((wr_n (by decide)).trans wr_s)) (by decide) (by decide)) ⟨⟨by decide, by decide⟩, ⟨rfl, rfl⟩, by decide, by decide⟩ rfl dX8_paint_63 (fun μe ⟨he1₉, he2₉⟩ => ?_)
  refine J.iret rfl (by decide) (by decide) dX8_paint_66 ⟨_, rfl, ?_, ?_⟩
  · rfl
  · have hbk₉ := (hMR₉.ref (a := 4) (d := j) (by decide) (by decide)).back (μ := μf) (by rw [hf₉]; exact KP.fld (KP.fld (hK₉.step (KS.rf.wrx (by omega))))) he1₉ he2₉
    exact ⟨hbk₉.1, by rw [he2₉ 237 (by decide), hf₉]; exact (wr_n (by decide)).trans ((wr_n (by decide)).trans wr_s), hbk₉.2.trans ((FrM.rf.wrx (by decide)).wrx (by decide))⟩
