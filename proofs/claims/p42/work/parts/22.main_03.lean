/-! ===== printed: the class: its helpers ===== -/
set_option maxRecDepth 100000 in
set_option maxHeartbeats 4000000 in
theorem c_doLoggedMove {g : GP} {adr : Nat → Nat} (μ : Mem) {a w b : Nat} {σ : AS} (hm₉ : mvOK a w b) (hC₉ : CS μ 1 σ) : CT g yX7_doLoggedMove mX7_doLoggedMove (RM 4 0 0) (WM g adr μ) [.ref (adr 0), .int (nI a), .int (nI w), .int (nI b)] (PM g adr (.inl none) (fun μ' => CS μ' 1 (mvS a w b σ) ∧ ∀ o, (o = 0 ∨ 20 ≤ o) → o ≠ 234 → μ' o = μ o)) := by
  refine CT.of (l0 := [some (.ref (adr 0)), some (.int (nI a)), some (.int (nI w)), some (.int (nI b))]) (by decide +kernel) rfl (Nat.le_of_ble_eq_true rfl) rfl ?_
  refine J.al0 dX7_doLoggedMove_0 ?_
  refine J.il1 dX7_doLoggedMove_1 ?_
  refine J.il2 dX7_doLoggedMove_2 ?_
  refine J.il3 dX7_doLoggedMove_3 ?_
  refine cl_X7_113 rfl (by decide) (k' := 0) (n' := 0) (c_doMove _ hm₉ hC₉) ⟨⟨by decide, by decide⟩, ⟨rfl, rfl⟩, by decide, by decide⟩ rfl dX7_doLoggedMove_4 (fun μ2 ⟨hC2₉, hO2₉⟩ => ?_)
  refine J.al0 dX7_doLoggedMove_7 ?_
  refine gf_X7_10 rfl (o2 := 1) (by decide) rfl dX7_doLoggedMove_8 ?_
  refine gf_X7_93 rfl (o2 := 6) (by decide) rfl dX7_doLoggedMove_11 ?_
  refine J.il1 dX7_doLoggedMove_14 ?_
  refine J.il2 dX7_doLoggedMove_15 ?_
  refine J.il3 dX7_doLoggedMove_16 ?_
  refine cl_X7_337 rfl (by decide) (k' := 0) (n' := 0) (c_l_add _ (by decide) hC2₉.2.2.2.1 hC2₉.ln hC2₉.2.2.2.2.1) ⟨⟨by decide, by decide⟩, ⟨rfl, rfl⟩, by decide, by decide⟩ rfl dX7_doLoggedMove_17 (fun μ3 ⟨h3₉, h4₉, hO3₉⟩ => ?_)
  refine J.vret rfl (by decide) (by decide) dX7_doLoggedMove_20 ⟨_, rfl, ?_, ?_⟩
  · rfl
  · exact ⟨hC2₉.sLogA hm₉ h3₉ h4₉ hO3₉, fun o q1₉ q2₉ => funext fun k => by rw [hO3₉ o k (by omega) (by omega), hO2₉ o (by omega) (by omega) (by omega) q2₉]⟩

set_option maxRecDepth 100000 in
set_option maxHeartbeats 4000000 in
theorem c_putMade {g : GP} {adr : Nat → Nat} (μ : Mem) {i : Nat} {F : Nat → Nat} {α : A7} (hi₉ : i < 5) (hCR₉ : CR μ α) (hF₉ : PermR μ (233 + 1) F) (hBF₉ : Bij F) : CT g yX7_putMade mX7_putMade (RM 4 0 0) (WM g adr μ) [.ref (adr 0), .int (nI i)] (PM g adr ((.inl (some (.int (nI (cnt (fun k => decide (F k ≠ k)) 32)))))) (fun μ' => CR μ' (aPush (sPut i F (qS α)) α) ∧ FrC μ' μ)) := by
  refine CT.of (l0 := [some (.ref (adr 0)), some (.int (nI i))]) (by decide +kernel) rfl (Nat.le_of_ble_eq_true rfl) rfl ?_
  refine J.al0 dX7_putMade_0 ?_
  refine gf_X7_19 rfl (o2 := 20) (by decide) rfl dX7_putMade_1 ?_
  refine J.al0 dX7_putMade_4 ?_
  refine gf_X7_10 rfl (o2 := 1) (by decide) rfl dX7_putMade_5 ?_
  refine cl_X7_72 rfl (by decide) (k' := 0) (n' := 0) (c_hold _ hCR₉.2.1 hCR₉.1) ⟨⟨by decide, by decide⟩, ⟨rfl, rfl⟩, by decide, by decide⟩ rfl dX7_putMade_8 (fun μ2 ⟨hP2₉, hO2₉⟩ => ?_)
  have hC2₉ : CS μ2 1 (qS α) := hCR₉.1.off (fun o q1₉ q2₉ => hO2₉ o (by omega))
  have hF2₉ : PermR μ2 (233 + 1) F := hF₉.eq (hO2₉ _ (by decide))
  refine J.al0 dX7_putMade_11 ?_
  refine gf_X7_10 rfl (o2 := 1) (by decide) rfl dX7_putMade_12 ?_
  refine J.il1 dX7_putMade_15 ?_
  refine J.al0 dX7_putMade_16 ?_
  refine gf_X7_47 rfl (o2 := 233) (by decide) rfl dX7_putMade_17 ?_
  refine cl_X7_172 rfl (by decide) (k' := 0) (n' := 0) (c_putOn _ (by decide) hi₉ (by decide) (by decide) hF2₉) ⟨⟨by decide, by decide⟩, ⟨rfl, rfl⟩, by decide, by decide⟩ rfl dX7_putMade_20 (fun μ3 ⟨h3₉, h4₉, hO3₉⟩ => ?_)
  have hF3₉ : PermR μ3 (233 + 1) F := hF2₉.eq (funext fun k => hO3₉ _ k (by omega) (by omega))
  refine J.al0 dX7_putMade_23 ?_
  refine gf_X7_47 rfl (o2 := 233) (by decide) rfl dX7_putMade_24 ?_
  refine cl_X7_223 rfl (by decide) (k' := 0) (n' := 0) (c_countMoved _ (by decide) hF3₉) ⟨⟨by decide, by decide⟩, ⟨rfl, rfl⟩, by decide, by decide⟩ rfl dX7_putMade_27 (fun μ9 h9₉ => ?_)
  rw [h9₉]; clear h9₉
  refine J.iret rfl (by decide) (by decide) dX7_putMade_30 ⟨_, rfl, ?_, ?_⟩
  · rfl
  · exact ⟨hCR₉.push hP2₉ hO2₉ (hC2₉.sPutA hBF₉ hi₉ h3₉ h4₉ hO3₉) (fun o ho₉ => funext fun k => hO3₉ o k (by omega) (by omega)), fun o ho₉ => by rw [show μ3 o = μ2 o from funext fun k => hO3₉ o k (by omega) (by omega), hO2₉ o (by omega)]⟩

set_option maxRecDepth 100000 in
set_option maxHeartbeats 4000000 in
theorem c_isUndone {g : GP} {adr : Nat → Nat} (μ : Mem) {i : Nat} {F : Nat → Nat} (hi₉ : i < 5) (hF₉ : PermR μ (1 + 9 + 2 * i + 1) F) (hBF₉ : Bij F) : CT g yX7_isUndoneByInverse mX7_isUndoneByInverse (RM 2 0 0) (WM g adr μ) [.ref (adr 0), .ref (adr (1 + 9 + 2 * i))] (PM g adr ((.inl (some (.int (nI 1))))) (fun μ' => ∀ o, o ≠ 234 → o ≠ 236 → μ' o = μ o)) := by
  refine CT.of (l0 := [some (.ref (adr 0)), some (.ref (adr (1 + 9 + 2 * i)))]) (by decide +kernel) rfl (Nat.le_of_ble_eq_true rfl) rfl ?_
  refine J.al0 dX7_isUndoneByInverse_0 ?_
  refine gf_X7_47 rfl (o2 := 233) (by decide) rfl dX7_isUndoneByInverse_1 ?_
  refine J.al1 dX7_isUndoneByInverse_4 ?_
  refine cl_X7_190 rfl (by decide) (k' := 0) (n' := 0) (c_toCopy _ (by decide) (kt_sh hi₉) (by omega) hF₉) ⟨⟨by decide, by decide⟩, ⟨rfl, rfl⟩, by decide, by decide⟩ rfl dX7_isUndoneByInverse_5 (fun μ2 ⟨h2₉, hO2₉⟩ => ?_)
  refine J.al0 dX7_isUndoneByInverse_8 ?_
  refine gf_X7_51 rfl (o2 := 235) (by decide) rfl dX7_isUndoneByInverse_9 ?_
  refine J.al1 dX7_isUndoneByInverse_12 ?_
  refine cl_X7_186 rfl (by decide) (k' := 0) (n' := 0) (c_toInverse _ (by decide) (kt_sh hi₉) (by omega) (hF₉.off hO2₉ (by omega)) hBF₉) ⟨⟨by decide, by decide⟩, ⟨rfl, rfl⟩, by decide, by decide⟩ rfl dX7_isUndoneByInverse_13 (fun μ3 ⟨h3₉, hO3₉⟩ => ?_)
  refine J.al0 dX7_isUndoneByInverse_16 ?_
  refine gf_X7_47 rfl (o2 := 233) (by decide) rfl dX7_isUndoneByInverse_17 ?_
  refine J.al0 dX7_isUndoneByInverse_20 ?_
  refine gf_X7_51 rfl (o2 := 235) (by decide) rfl dX7_isUndoneByInverse_21 ?_
  refine cl_X7_201 rfl (by decide) (k' := 0) (n' := 0) (c_then _ (by decide) (by decide) (by decide) (h2₉.off hO3₉ (by decide)) h3₉) ⟨⟨by decide, by decide⟩, ⟨rfl, rfl⟩, by decide, by decide⟩ rfl dX7_isUndoneByInverse_24 (fun μ4 ⟨h4₉, hO4₉⟩ => ?_)
  refine J.al0 dX7_isUndoneByInverse_27 ?_
  refine gf_X7_47 rfl (o2 := 233) (by decide) rfl dX7_isUndoneByInverse_28 ?_
  have hmn₉ := c_movesNothing (g := g) (adr := adr) _ (p := 233) (by decide) h4₉
  rw [if_pos (allU_iff.mpr (fun k hk₉ => decide_eq_true (hBF₉.inv2 hk₉)))] at hmn₉
  refine cl_X7_340 rfl (by decide) (k' := 0) (n' := 0) (hmn₉) ⟨⟨by decide, by decide⟩, ⟨rfl, rfl⟩, by decide, by decide⟩ rfl dX7_isUndoneByInverse_31 (fun μ9 h9₉ => ?_)
  rw [h9₉]; clear h9₉
  refine J.zret (ty := .boolean) rfl (by decide) (by decide) (by decide) dX7_isUndoneByInverse_34 ⟨_, rfl, ?_, ?_⟩
  · rfl
  · exact fun o q1₉ q2₉ => by rw [hO4₉ o q1₉, hO3₉ o q2₉, hO2₉ o q1₉]

set_option maxRecDepth 100000 in
set_option maxHeartbeats 4000000 in
theorem c_takeSeqW {g : GP} {adr : Nat → Nat} (μ : Mem) {α : A7} {e : Nat} (hCR₉ : CR μ α) (hr0₉ : pTxt (qI α).2 (qI α).1 (qS α) = .inl e) : CT g yX7_takeSequence mX7_takeSequence (RM 18 1 6) (WM g adr μ) [.ref (adr 0)] (PM g adr (.inr "java/lang/IllegalArgumentException") (fun μ' => CR μ' (aErr e (aNoI α)) ∧ FrC μ' μ)) := by
  refine CT.of (l0 := [some (.ref (adr 0)), none]) (by decide +kernel) rfl (Nat.le_of_ble_eq_true rfl) rfl ?_
  obtain ⟨hw1₉, hw2₉⟩ := pTxt_few (t := (qI α).2) hCR₉.1.sh hCR₉.2.2.2.2.2.1
  refine J.al0 dX7_takeSequence_0 ?_
  refine gf_X7_33 rfl (o2 := 193) (by decide) rfl dX7_takeSequence_1 ?_
  refine J.al0 dX7_takeSequence_4 ?_
  refine gf_X7_10 rfl (o2 := 1) (by decide) rfl dX7_takeSequence_5 ?_
  refine cl_X7_343 rfl (by decide) (k' := 0) (n' := 0) (c_understand _ (p0 := 0) hCR₉.2.2.2.2.1 hCR₉.2.2.2.2.2.1 hCR₉.1 hr0₉) ⟨⟨by decide, by decide⟩, ⟨rfl, rfl⟩, by decide, by decide⟩ rfl dX7_takeSequence_8 (fun μ2 ⟨hP2₉, hR2₉, hF2₉⟩ => ?_)
  have hC2₉ : CR μ2 α := hCR₉.off (fun o ho₉ => funext fun k => hF2₉ o k (by omega) (by omega) (by omega))
  have hFr2₉ : FrC μ2 μ := fun o ho₉ => funext fun k => hF2₉ o k (by omega) (by omega) (by omega)
  refine J.is1 dX7_takeSequence_11 (by decide) rfl ?_
  refine J.al0 dX7_takeSequence_12 ?_
  refine gf_X7_33 rfl (o2 := 193) (by decide) rfl dX7_takeSequence_13 ?_
  refine gf_X7_152 rfl (o2 := 194) (by decide) rfl dX7_takeSequence_16 ?_
  refine cl_X7_155 rfl (by decide) (k' := 0) (n' := 0) (c_s_clear _ (by decide)) ⟨⟨by decide, by decide⟩, ⟨rfl, rfl⟩, by decide, by decide⟩ rfl dX7_takeSequence_19 (fun μ3 h3₉ => ?_)
  subst h3₉
  have hC3₉ := hC2₉.clr
  refine J.il1 dX7_takeSequence_22 ?_
  refine J.iconst (v := -1) dX7_takeSequence_23 (by decide) ?_
  refine J.icmp_neV (tgt := 49) dX7_takeSequence_24 (by decide) ?_
  refine J.al0 dX7_takeSequence_27 ?_
  refine J.al0 dX7_takeSequence_28 ?_
  refine gf_X7_33 rfl (o2 := 193) (by decide) rfl dX7_takeSequence_29 ?_
  refine cl_X7_347 rfl (by decide) (k' := 0) (n' := 0) (c_r_place _ ((congrFun (wr_o (by decide)) 1).trans hP2₉)) ⟨⟨by decide, by decide⟩, ⟨rfl, rfl⟩, by decide, by decide⟩ rfl dX7_takeSequence_32 (fun μ9 h9₉ => ?_)
  rw [h9₉]; clear h9₉
  refine pf_X7_54 rfl (by decide) dX7_takeSequence_35 ?_
  refine J.throwSW (E := "java/lang/IllegalArgumentException") (tx := "the text is no sequence") (names := ["java/lang/RuntimeException", "java/lang/Exception"]) (by decide +kernel) (by decide +kernel) t_302 t_13 rfl (by decide +kernel) (fun p ln s m args meth c C9 => C9.at at_296) ao_296 dX7_takeSequence_38 dX7_takeSequence_41 dX7_takeSequence_42 dX7_takeSequence_45 dX7_takeSequence_48 rfl rfl (by decide) (by decide) (by decide) (by decide) ⟨_, rfl, rfl, ?_⟩
  exact ⟨hC3₉.err (e := e) (by have := hw1₉ e hr0₉; have := hCR₉.2.2.2.2.2.1; omega), fun o ho₉ => by rw [wr_o (by omega), wr_o (by omega), hFr2₉ o ho₉]⟩

set_option maxRecDepth 100000 in
set_option maxHeartbeats 4000000 in
theorem c_takeSeqX {g : GP} {adr : Nat → Nat} (μ : Mem) {α : A7} {q c : Nat} {F : Nat → Nat} (hCR₉ : CR μ α) (hr0₉ : pTxt (qI α).2 (qI α).1 (qS α) = .inr (q, c, F)) (hc₉ : 200 < c) : CT g yX7_takeSequence mX7_takeSequence (RM 18 1 6) (WM g adr μ) [.ref (adr 0)] (PM g adr (.inr "java/lang/UnsupportedOperationException") (fun μ' => CR μ' (aRef 2 200 (aNoI α)) ∧ FrC μ' μ)) := by
  refine CT.of (l0 := [some (.ref (adr 0)), none]) (by decide +kernel) rfl (Nat.le_of_ble_eq_true rfl) rfl ?_
  obtain ⟨hw1₉, hw2₉⟩ := pTxt_few (t := (qI α).2) hCR₉.1.sh hCR₉.2.2.2.2.2.1
  have hw3₉ := (hw2₉ q c F hr0₉).2
  refine J.al0 dX7_takeSequence_0 ?_
  refine gf_X7_33 rfl (o2 := 193) (by decide) rfl dX7_takeSequence_1 ?_
  refine J.al0 dX7_takeSequence_4 ?_
  refine gf_X7_10 rfl (o2 := 1) (by decide) rfl dX7_takeSequence_5 ?_
  refine cl_X7_343 rfl (by decide) (k' := 0) (n' := 0) (c_understand _ (p0 := 0) hCR₉.2.2.2.2.1 hCR₉.2.2.2.2.2.1 hCR₉.1 hr0₉) ⟨⟨by decide, by decide⟩, ⟨rfl, rfl⟩, by decide, by decide⟩ rfl dX7_takeSequence_8 (fun μ2 ⟨hP2₉, hR2₉, hF2₉⟩ => ?_)
  have hC2₉ : CR μ2 α := hCR₉.off (fun o ho₉ => funext fun k => hF2₉ o k (by omega) (by omega) (by omega))
  have hFr2₉ : FrC μ2 μ := fun o ho₉ => funext fun k => hF2₉ o k (by omega) (by omega) (by omega)
  refine J.is1 dX7_takeSequence_11 (by decide) rfl ?_
  refine J.al0 dX7_takeSequence_12 ?_
  refine gf_X7_33 rfl (o2 := 193) (by decide) rfl dX7_takeSequence_13 ?_
  refine gf_X7_152 rfl (o2 := 194) (by decide) rfl dX7_takeSequence_16 ?_
  refine cl_X7_155 rfl (by decide) (k' := 0) (n' := 0) (c_s_clear _ (by decide)) ⟨⟨by decide, by decide⟩, ⟨rfl, rfl⟩, by decide, by decide⟩ rfl dX7_takeSequence_19 (fun μ3 h3₉ => ?_)
  subst h3₉
  have hC3₉ := hC2₉.clr
  refine J.il1 dX7_takeSequence_22 ?_
  refine J.iconst (v := -1) dX7_takeSequence_23 (by decide) ?_
  refine J.icmp_neW (by omega) (tgt := 49) dX7_takeSequence_24 (by decide) ?_
  refine J.il1 dX7_takeSequence_49 ?_
  refine J.sipush dX7_takeSequence_50 kc_200 ?_
  refine J.icmp_leN (tgt := 64) dX7_takeSequence_53 (by decide) (by omega) (by omega) (fun c53₉ => absurd c53₉ (by first | omega | (simp only [not_true_eq_false, not_false_eq_true]; done) | (simp; done))) (fun c53₉ => ?_)
  refine J.al0 dX7_takeSequence_56 ?_
  refine J.iconst dX7_takeSequence_57 kI_2 ?_
  refine J.sipush dX7_takeSequence_58 kc_200 ?_
  refine cx_X7_102 rfl (by decide) (k' := 1) (n' := 6) (c_refuse _) ⟨⟨by decide, by decide⟩, ⟨rfl, rfl⟩, by decide, by decide⟩ rfl dX7_takeSequence_61 (fun μ9 h9₉ => ?_)
  exact JX.out ⟨_, rfl, rfl, (by rw [h9₉]; exact ⟨hC3₉.ref (by decide), fun o ho₉ => by rw [wr_o (by omega), wr_o (by omega), wr_o (by omega), hFr2₉ o ho₉]⟩)⟩ rfl rfl (by decide) (by decide)

set_option maxRecDepth 100000 in
set_option maxHeartbeats 4000000 in
theorem c_takeSeqOk {g : GP} {adr : Nat → Nat} (μ : Mem) {α : A7} {q c : Nat} {F : Nat → Nat} (hCR₉ : CR μ α) (hr0₉ : pTxt (qI α).2 (qI α).1 (qS α) = .inr (q, c, F)) (hc₉ : c ≤ 200) : CT g yX7_takeSequence mX7_takeSequence (RM 18 0 0) (WM g adr μ) [.ref (adr 0)] (PM g adr ((.inl (some (.int (nI c))))) (fun μ' => CR μ' (aNoI α) ∧ PermR μ' (201 + 1) F ∧ FrC μ' μ)) := by
  refine CT.of (l0 := [some (.ref (adr 0)), none]) (by decide +kernel) rfl (Nat.le_of_ble_eq_true rfl) rfl ?_
  obtain ⟨hw1₉, hw2₉⟩ := pTxt_few (t := (qI α).2) hCR₉.1.sh hCR₉.2.2.2.2.2.1
  have hw3₉ := (hw2₉ q c F hr0₉).2
  refine J.al0 dX7_takeSequence_0 ?_
  refine gf_X7_33 rfl (o2 := 193) (by decide) rfl dX7_takeSequence_1 ?_
  refine J.al0 dX7_takeSequence_4 ?_
  refine gf_X7_10 rfl (o2 := 1) (by decide) rfl dX7_takeSequence_5 ?_
  refine cl_X7_343 rfl (by decide) (k' := 0) (n' := 0) (c_understand _ (p0 := 0) hCR₉.2.2.2.2.1 hCR₉.2.2.2.2.2.1 hCR₉.1 hr0₉) ⟨⟨by decide, by decide⟩, ⟨rfl, rfl⟩, by decide, by decide⟩ rfl dX7_takeSequence_8 (fun μ2 ⟨hP2₉, hR2₉, hF2₉⟩ => ?_)
  have hC2₉ : CR μ2 α := hCR₉.off (fun o ho₉ => funext fun k => hF2₉ o k (by omega) (by omega) (by omega))
  have hFr2₉ : FrC μ2 μ := fun o ho₉ => funext fun k => hF2₉ o k (by omega) (by omega) (by omega)
  refine J.is1 dX7_takeSequence_11 (by decide) rfl ?_
  refine J.al0 dX7_takeSequence_12 ?_
  refine gf_X7_33 rfl (o2 := 193) (by decide) rfl dX7_takeSequence_13 ?_
  refine gf_X7_152 rfl (o2 := 194) (by decide) rfl dX7_takeSequence_16 ?_
  refine cl_X7_155 rfl (by decide) (k' := 0) (n' := 0) (c_s_clear _ (by decide)) ⟨⟨by decide, by decide⟩, ⟨rfl, rfl⟩, by decide, by decide⟩ rfl dX7_takeSequence_19 (fun μ3 h3₉ => ?_)
  subst h3₉
  have hC3₉ := hC2₉.clr
  refine J.il1 dX7_takeSequence_22 ?_
  refine J.iconst (v := -1) dX7_takeSequence_23 (by decide) ?_
  refine J.icmp_neW (by omega) (tgt := 49) dX7_takeSequence_24 (by decide) ?_
  refine J.il1 dX7_takeSequence_49 ?_
  refine J.sipush dX7_takeSequence_50 kc_200 ?_
  refine J.icmp_leN (tgt := 64) dX7_takeSequence_53 (by decide) (by omega) (by omega) (fun c53₉ => ?_) (fun c53₉ => absurd c53₉ (by first | omega | (simp only [not_true_eq_false, not_false_eq_true]; done) | (simp; done)))
  refine J.il1 dX7_takeSequence_64 ?_
  refine J.iret rfl (by decide) (by decide) dX7_takeSequence_65 ⟨_, rfl, ?_, ?_⟩
  · rfl
  · exact ⟨hC3₉, PermR.eq hR2₉ (wr_o (by decide)), fun o ho₉ => by rw [wr_o (by omega), hFr2₉ o ho₉]⟩
