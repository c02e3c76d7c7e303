/-! ===== printed: the class: texts and shelves ===== -/
theorem n99 {t : Nat} (h1₉ : 1 ≤ t) (h2₉ : t ≤ 99) : ¬ 0 ≤ -(nI t) := by
  have key : ∀ t, t ≤ 99 → 1 ≤ t → ¬ 0 ≤ -(nI t) := by decide +kernel
  exact key t h2₉ h1₉
set_option maxRecDepth 100000 in
set_option maxHeartbeats 4000000 in
theorem c_learnX0 {g : GP} {adr : Nat → Nat} (μ : Mem) {α : A7} (hCR₉ : CR μ α) {x : Int32} (hx₉ : ¬ (0 ≤ x ∧ x < nI 5)) : CT g yX7_learn mX7_learn (RM 20 1 6) (WM g adr μ) [.ref (adr 0), .int x] (PM g adr (.inr "java/lang/IndexOutOfBoundsException") (fun μ' => CR μ' (aNoI α) ∧ FrC μ' μ)) := by
  refine CT.of (l0 := [some (.ref (adr 0)), some (.int x), none]) (by decide +kernel) rfl (Nat.le_of_ble_eq_true rfl) rfl ?_
  refine J.il1 dX7_learn_0 ?_
  refine J.iconst dX7_learn_1 kI_5 ?_
  have hxx₉ := c_isIndexI (g := g) (adr := adr) μ (x := x) (b := 5) (by decide)
  rw [if_neg hx₉] at hxx₉
  refine cl_X7_148 rfl (k' := 0) (n' := 0) (hxx₉) ⟨⟨by decide, by decide⟩, ⟨rfl, rfl⟩, by decide, by decide⟩ rfl dX7_learn_2 (fun μ9 h9₉ => ?_)
  rw [h9₉]; clear h9₉
  refine J.if_neN (tgt := 28) dX7_learn_5 (by decide) (by omega) (fun c5₉ => absurd c5₉ (by first | omega | (simp only [not_true_eq_false, not_false_eq_true]; done) | (simp; done))) (fun c5₉ => ?_)
  refine J.al0 dX7_learn_8 ?_
  refine gf_X7_33 rfl (o2 := 193) (by decide) rfl dX7_learn_9 ?_
  refine gf_X7_152 rfl (o2 := 194) (by decide) rfl dX7_learn_12 ?_
  refine cl_X7_155 rfl (by decide) (k' := 0) (n' := 0) (c_s_clear _ (by decide)) ⟨⟨by decide, by decide⟩, ⟨rfl, rfl⟩, by decide, by decide⟩ rfl dX7_learn_15 (fun μ2 h2₉ => ?_)
  refine J.throwS (E := "java/lang/IndexOutOfBoundsException") (tx := "there is no such shelf") (names := ["java/lang/RuntimeException", "java/lang/Exception"]) (by decide +kernel) (by decide +kernel) t_229 t_12 rfl (by decide +kernel) (fun p ln s m args meth c C9 => C9.at at_162) ao_162 dX7_learn_18 dX7_learn_21 dX7_learn_22 dX7_learn_24 dX7_learn_27 rfl rfl (by decide) (by decide) (by decide) (by decide) ⟨_, rfl, rfl, ?_⟩
  exact (by rw [h2₉]; exact ⟨hCR₉.clr, fun o ho₉ => by rw [wr_o (by omega)]⟩)

set_option maxRecDepth 100000 in
set_option maxHeartbeats 4000000 in
theorem c_learnW {g : GP} {adr : Nat → Nat} (μ : Mem) {α : A7} {e : Nat} (hCR₉ : CR μ α) (hr0₉ : pTxt (qI α).2 (qI α).1 (qS α) = .inl e) {i : Nat} (hi₉ : i < 5) : CT g yX7_learn mX7_learn (RM 20 1 6) (WM g adr μ) [.ref (adr 0), .int (nI i)] (PM g adr (.inr "java/lang/IllegalArgumentException") (fun μ' => CR μ' (aErr e (aNoI α)) ∧ FrC μ' μ)) := by
  refine CT.of (l0 := [some (.ref (adr 0)), some (.int (nI i)), none]) (by decide +kernel) rfl (Nat.le_of_ble_eq_true rfl) rfl ?_
  refine J.il1 dX7_learn_0 ?_
  refine J.iconst dX7_learn_1 kI_5 ?_
  refine cl_X7_148 rfl (k' := 0) (n' := 0) (isIndexT (by omega) (by decide)) ⟨⟨by decide, by decide⟩, ⟨rfl, rfl⟩, by decide, by decide⟩ rfl dX7_learn_2 (fun μ9 h9₉ => ?_)
  rw [h9₉]; clear h9₉
  refine J.if_neN (tgt := 28) dX7_learn_5 (by decide) (by omega) (fun c5₉ => ?_) (fun c5₉ => absurd c5₉ (by first | omega | (simp only [not_true_eq_false, not_false_eq_true]; done) | (simp; done)))
  refine J.al0 dX7_learn_28 ?_
  refine cx_X7_165 rfl (by decide) (k' := 1) (n' := 6) (c_takeSeqW _ hCR₉ hr0₉) ⟨⟨by decide, by decide⟩, ⟨rfl, rfl⟩, by decide, by decide⟩ rfl dX7_learn_29 (fun μ9 h9₉ => ?_)
  exact JX.out ⟨_, rfl, rfl, h9₉⟩ rfl rfl (by decide) (by decide)

set_option maxRecDepth 100000 in
set_option maxHeartbeats 4000000 in
theorem c_learnX {g : GP} {adr : Nat → Nat} (μ : Mem) {α : A7} {q c : Nat} {F : Nat → Nat} (hCR₉ : CR μ α) (hr0₉ : pTxt (qI α).2 (qI α).1 (qS α) = .inr (q, c, F)) (hc₉ : 200 < c) {i : Nat} (hi₉ : i < 5) : CT g yX7_learn mX7_learn (RM 20 1 6) (WM g adr μ) [.ref (adr 0), .int (nI i)] (PM g adr (.inr "java/lang/UnsupportedOperationException") (fun μ' => CR μ' (aRef 2 200 (aNoI α)) ∧ FrC μ' μ)) := by
  refine CT.of (l0 := [some (.ref (adr 0)), some (.int (nI i)), none]) (by decide +kernel) rfl (Nat.le_of_ble_eq_true rfl) rfl ?_
  refine J.il1 dX7_learn_0 ?_
  refine J.iconst dX7_learn_1 kI_5 ?_
  refine cl_X7_148 rfl (k' := 0) (n' := 0) (isIndexT (by omega) (by decide)) ⟨⟨by decide, by decide⟩, ⟨rfl, rfl⟩, by decide, by decide⟩ rfl dX7_learn_2 (fun μ9 h9₉ => ?_)
  rw [h9₉]; clear h9₉
  refine J.if_neN (tgt := 28) dX7_learn_5 (by decide) (by omega) (fun c5₉ => ?_) (fun c5₉ => absurd c5₉ (by first | omega | (simp only [not_true_eq_false, not_false_eq_true]; done) | (simp; done)))
  refine J.al0 dX7_learn_28 ?_
  refine cx_X7_165 rfl (by decide) (k' := 1) (n' := 6) (c_takeSeqX _ hCR₉ hr0₉ hc₉) ⟨⟨by decide, by decide⟩, ⟨rfl, rfl⟩, by decide, by decide⟩ rfl dX7_learn_29 (fun μ9 h9₉ => ?_)
  exact JX.out ⟨_, rfl, rfl, h9₉⟩ rfl rfl (by decide) (by decide)

set_option maxRecDepth 100000 in
set_option maxHeartbeats 4000000 in
theorem c_readW {g : GP} {adr : Nat → Nat} (μ : Mem) {α : A7} {e : Nat} (hCR₉ : CR μ α) (hr0₉ : pTxt (qI α).2 (qI α).1 (qS α) = .inl e) : CT g yX7_read mX7_read (RM 20 1 6) (WM g adr μ) [.ref (adr 0)] (PM g adr (.inr "java/lang/IllegalArgumentException") (fun μ' => CR μ' (aErr e (aNoI α)) ∧ FrC μ' μ)) := by
  refine CT.of (l0 := [some (.ref (adr 0)), none]) (by decide +kernel) rfl (Nat.le_of_ble_eq_true rfl) rfl ?_
  refine J.al0 dX7_read_0 ?_
  refine cx_X7_165 rfl (by decide) (k' := 1) (n' := 6) (c_takeSeqW _ hCR₉ hr0₉) ⟨⟨by decide, by decide⟩, ⟨rfl, rfl⟩, by decide, by decide⟩ rfl dX7_read_1 (fun μ9 h9₉ => ?_)
  exact JX.out ⟨_, rfl, rfl, h9₉⟩ rfl rfl (by decide) (by decide)

set_option maxRecDepth 100000 in
set_option maxHeartbeats 4000000 in
theorem c_readX {g : GP} {adr : Nat → Nat} (μ : Mem) {α : A7} {q c : Nat} {F : Nat → Nat} (hCR₉ : CR μ α) (hr0₉ : pTxt (qI α).2 (qI α).1 (qS α) = .inr (q, c, F)) (hc₉ : 200 < c) : CT g yX7_read mX7_read (RM 20 1 6) (WM g adr μ) [.ref (adr 0)] (PM g adr (.inr "java/lang/UnsupportedOperationException") (fun μ' => CR μ' (aRef 2 200 (aNoI α)) ∧ FrC μ' μ)) := by
  refine CT.of (l0 := [some (.ref (adr 0)), none]) (by decide +kernel) rfl (Nat.le_of_ble_eq_true rfl) rfl ?_
  refine J.al0 dX7_read_0 ?_
  refine cx_X7_165 rfl (by decide) (k' := 1) (n' := 6) (c_takeSeqX _ hCR₉ hr0₉ hc₉) ⟨⟨by decide, by decide⟩, ⟨rfl, rfl⟩, by decide, by decide⟩ rfl dX7_read_1 (fun μ9 h9₉ => ?_)
  exact JX.out ⟨_, rfl, rfl, h9₉⟩ rfl rfl (by decide) (by decide)

set_option maxRecDepth 100000 in
set_option maxHeartbeats 4000000 in
theorem c_learnOk {g : GP} {adr : Nat → Nat} (μ : Mem) {α : A7} {q c : Nat} {F : Nat → Nat} (hCR₉ : CR μ α) (hr0₉ : pTxt (qI α).2 (qI α).1 (qS α) = .inr (q, c, F)) (hc₉ : c ≤ 200) {i : Nat} (hi₉ : i < 5) : CT g yX7_learn mX7_learn (RM 20 1 6) (WM g adr μ) [.ref (adr 0), .int (nI i)] (PM g adr ((.inl (some (.int (nI c))))) (fun μ' => CR μ' (aPush (sPut i F (qS α)) (aNoI α)) ∧ FrC μ' μ)) := by
  refine CT.of (l0 := [some (.ref (adr 0)), some (.int (nI i)), none]) (by decide +kernel) rfl (Nat.le_of_ble_eq_true rfl) rfl ?_
  have hBF₉ := ((pTxt_few (t := (qI α).2) hCR₉.1.sh hCR₉.2.2.2.2.2.1).2 q c F hr0₉).1
  refine J.il1 dX7_learn_0 ?_
  refine J.iconst dX7_learn_1 kI_5 ?_
  refine cl_X7_148 rfl (k' := 0) (n' := 0) (isIndexT (by omega) (by decide)) ⟨⟨by decide, by decide⟩, ⟨rfl, rfl⟩, by decide, by decide⟩ rfl dX7_learn_2 (fun μ9 h9₉ => ?_)
  rw [h9₉]; clear h9₉
  refine J.if_neN (tgt := 28) dX7_learn_5 (by decide) (by omega) (fun c5₉ => ?_) (fun c5₉ => absurd c5₉ (by first | omega | (simp only [not_true_eq_false, not_false_eq_true]; done) | (simp; done)))
  refine J.al0 dX7_learn_28 ?_
  refine cl_X7_165 rfl (by decide) (k' := 0) (n' := 0) (c_takeSeqOk _ hCR₉ hr0₉ hc₉) ⟨⟨by decide, by decide⟩, ⟨rfl, rfl⟩, by decide, by decide⟩ rfl dX7_learn_29 (fun μ2 ⟨hCn₉, hR2₉, hFr2₉⟩ => ?_)
  refine J.is2 dX7_learn_32 (by decide) rfl ?_
  refine J.al0 dX7_learn_33 ?_
  refine gf_X7_19 rfl (o2 := 20) (by decide) rfl dX7_learn_34 ?_
  refine J.al0 dX7_learn_37 ?_
  refine gf_X7_10 rfl (o2 := 1) (by decide) rfl dX7_learn_38 ?_
  refine cl_X7_72 rfl (by decide) (k' := 0) (n' := 0) (c_hold _ hCn₉.2.1 hCn₉.1) ⟨⟨by decide, by decide⟩, ⟨rfl, rfl⟩, by decide, by decide⟩ rfl dX7_learn_41 (fun μ3 ⟨hP3₉, hO3₉⟩ => ?_)
  have hC3₉ : CS μ3 1 (qS α) := hCn₉.1.off (fun o q1₉ q2₉ => hO3₉ o (by omega))
  have hR3₉ : PermR μ3 (201 + 6 * 0 + 1) F := PermR.eq hR2₉ (hO3₉ _ (by decide))
  refine J.al0 dX7_learn_44 ?_
  refine gf_X7_10 rfl (o2 := 1) (by decide) rfl dX7_learn_45 ?_
  refine J.il1 dX7_learn_48 ?_
  refine J.al0 dX7_learn_49 ?_
  refine gf_X7_33 rfl (o2 := 193) (by decide) rfl dX7_learn_50 ?_
  refine cl_X7_168 rfl (by decide) (k' := 0) (n' := 0) (c_result _) ⟨⟨by decide, by decide⟩, ⟨rfl, rfl⟩, by decide, by decide⟩ rfl dX7_learn_53 (fun μ9 h9₉ => ?_)
  rw [h9₉]; clear h9₉
  refine cl_X7_172 rfl (by decide) (k' := 0) (n' := 0) (c_putOn _ (by decide) hi₉ (by decide) (by decide) hR3₉) ⟨⟨by decide, by decide⟩, ⟨rfl, rfl⟩, by decide, by decide⟩ rfl dX7_learn_56 (fun μ4 ⟨h4₉, h5₉, hO4₉⟩ => ?_)
  refine J.il2 dX7_learn_59 ?_
  refine J.iret rfl (by decide) (by decide) dX7_learn_60 ⟨_, rfl, ?_, ?_⟩
  · rfl
  · exact ⟨CR.push (α := aNoI α) hCn₉ hP3₉ hO3₉ (hC3₉.sPutA hBF₉ hi₉ h4₉ h5₉ hO4₉) (fun o ho₉ => funext fun k => hO4₉ o k (by omega) (by omega)), fun o ho₉ => by rw [show μ4 o = μ3 o from funext fun k => hO4₉ o k (by omega) (by omega), hO3₉ o (by omega), hFr2₉ o ho₉]⟩

set_option maxRecDepth 100000 in
set_option maxHeartbeats 4000000 in
theorem c_readOk {g : GP} {adr : Nat → Nat} (μ : Mem) {α : A7} {q c : Nat} {F : Nat → Nat} (hCR₉ : CR μ α) (hr0₉ : pTxt (qI α).2 (qI α).1 (qS α) = .inr (q, c, F)) (hc₉ : c ≤ 200) : CT g yX7_read mX7_read (RM 20 1 6) (WM g adr μ) [.ref (adr 0)] (PM g adr ((.inl (some (.int (nI c))))) (fun μ' => CR μ' (aPush (sRd (sLen 0 (sDo F (qS α)))) (aNoI α)) ∧ FrC μ' μ)) := by
  refine CT.of (l0 := [some (.ref (adr 0)), none]) (by decide +kernel) rfl (Nat.le_of_ble_eq_true rfl) rfl ?_
  have hBF₉ := ((pTxt_few (t := (qI α).2) hCR₉.1.sh hCR₉.2.2.2.2.2.1).2 q c F hr0₉).1
  refine J.al0 dX7_read_0 ?_
  refine cl_X7_165 rfl (by decide) (k' := 0) (n' := 0) (c_takeSeqOk _ hCR₉ hr0₉ hc₉) ⟨⟨by decide, by decide⟩, ⟨rfl, rfl⟩, by decide, by decide⟩ rfl dX7_read_1 (fun μ2 ⟨hCn₉, hR2₉, hFr2₉⟩ => ?_)
  refine J.is1 dX7_read_4 (by decide) rfl ?_
  refine J.al0 dX7_read_5 ?_
  refine gf_X7_19 rfl (o2 := 20) (by decide) rfl dX7_read_6 ?_
  refine J.al0 dX7_read_9 ?_
  refine gf_X7_10 rfl (o2 := 1) (by decide) rfl dX7_read_10 ?_
  refine cl_X7_72 rfl (by decide) (k' := 0) (n' := 0) (c_hold _ hCn₉.2.1 hCn₉.1) ⟨⟨by decide, by decide⟩, ⟨rfl, rfl⟩, by decide, by decide⟩ rfl dX7_read_13 (fun μ3 ⟨hP3₉, hO3₉⟩ => ?_)
  have hC3₉ : CS μ3 1 (qS α) := hCn₉.1.off (fun o q1₉ q2₉ => hO3₉ o (by omega))
  have hR3₉ : PermR μ3 (201 + 6 * 0 + 1) F := PermR.eq hR2₉ (hO3₉ _ (by decide))
  refine J.al0 dX7_read_16 ?_
  refine gf_X7_10 rfl (o2 := 1) (by decide) rfl dX7_read_17 ?_
  refine gf_X7_79 rfl (o2 := 2) (by decide) rfl dX7_read_20 ?_
  refine J.al0 dX7_read_23 ?_
  refine gf_X7_33 rfl (o2 := 193) (by decide) rfl dX7_read_24 ?_
  refine cl_X7_168 rfl (by decide) (k' := 0) (n' := 0) (c_result _) ⟨⟨by decide, by decide⟩, ⟨rfl, rfl⟩, by decide, by decide⟩ rfl dX7_read_27 (fun μ9 h9₉ => ?_)
  rw [h9₉]; clear h9₉
  refine cl_X7_197 rfl (by decide) (k' := 0) (n' := 0) (c_follow _ (by decide) (by decide) hC3₉.1 hC3₉.2.1 hR3₉ hC3₉.vs.1 hBF₉ (by decide)) ⟨⟨by decide, by decide⟩, ⟨rfl, rfl⟩, by decide, by decide⟩ rfl dX7_read_30 (fun μ4 ⟨h4₉, h5₉, hO4₉⟩ => ?_)
  have hC4₉ := hC3₉.sDo hBF₉ h4₉ h5₉ hO4₉
  refine J.al0 dX7_read_33 ?_
  refine gf_X7_10 rfl (o2 := 1) (by decide) rfl dX7_read_34 ?_
  refine gf_X7_93 rfl (o2 := 6) (by decide) rfl dX7_read_37 ?_
  refine cl_X7_200 rfl (by decide) (k' := 0) (n' := 0) (c_l_clear _ (by decide)) ⟨⟨by decide, by decide⟩, ⟨rfl, rfl⟩, by decide, by decide⟩ rfl dX7_read_40 (fun μ5 h5x => ?_)
  have hC5₉ : CS μ5 1 (sLen 0 (sDo F (qS α))) := by rw [h5x]; exact hC4₉.sLenA (Nat.zero_le _)
  have hrd₉ : μ5 1 3 = nI (aRd (qS α)) := hC5₉.2.2.2.2.2.2.1
  refine J.al0 dX7_read_43 ?_
  refine gf_X7_10 rfl (o2 := 1) (by decide) rfl dX7_read_44 ?_
  refine J.dup dX7_read_47 rfl ?_
  refine gf_X7_275 rfl (x := nI (aRd (qS α))) (by decide) (hrd₉) dX7_read_48 ?_
  refine J.iconst dX7_read_51 kI_1 ?_
  refine J.iaddN dX7_read_52 ?_
  refine pf_X7_275 rfl (by decide) dX7_read_53 ?_
  refine J.il1 dX7_read_56 ?_
  refine J.iret rfl (by decide) (by decide) dX7_read_57 ⟨_, rfl, ?_, ?_⟩
  · rfl
  · exact ⟨CR.push (α := aNoI α) hCn₉ hP3₉ hO3₉ hC5₉.sRd (fun o ho₉ => by rw [wr_o (by omega), h5x, wr_o (by omega), hO4₉ o (by omega) (by omega)]), fun o ho₉ => by rw [wr_o (by omega), h5x, wr_o (by omega), hO4₉ o (by omega) (by omega), hO3₉ o (by omega), hFr2₉ o ho₉]⟩

set_option maxRecDepth 100000 in
set_option maxHeartbeats 4000000 in
theorem c_useX0 {g : GP} {adr : Nat → Nat} (μ : Mem) {α : A7} (hCR₉ : CR μ α) {i : Int32} (hx₉ : ¬ (0 ≤ i ∧ i < nI 5)) {j : Int32} : CT g yX7_use mX7_use (RM 20 1 6) (WM g adr μ) [.ref (adr 0), .int i, .int j] (PM g adr (.inr "java/lang/IndexOutOfBoundsException") (fun μ' => CR μ' α ∧ FrC μ' μ)) := by
  refine CT.of (l0 := [some (.ref (adr 0)), some (.int i), some (.int j), none]) (by decide +kernel) rfl (Nat.le_of_ble_eq_true rfl) rfl ?_
  refine J.il1 dX7_use_0 ?_
  refine cx_X7_176 rfl (k' := 1) (n' := 6) (c_needShelfX _ hx₉) ⟨⟨by decide, by decide⟩, ⟨rfl, rfl⟩, by decide, by decide⟩ rfl dX7_use_1 (fun μ9 h9₉ => ?_)
  exact JX.out ⟨_, rfl, rfl, (by rw [h9₉]; exact ⟨hCR₉, FrC.rf⟩)⟩ rfl rfl (by decide) (by decide)

set_option maxRecDepth 100000 in
set_option maxHeartbeats 4000000 in
theorem c_useX1p {g : GP} {adr : Nat → Nat} (μ : Mem) {α : A7} (hCR₉ : CR μ α) {i : Nat} {x : Int32} (hi₉ : i < 5) (h0₉ : 0 ≤ x) (hx₉ : x < nI 1 ∨ nI 99 < x) : CT g yX7_use mX7_use (RM 20 1 6) (WM g adr μ) [.ref (adr 0), .int (nI i), .int x] (PM g adr (.inr "java/lang/IllegalArgumentException") (fun μ' => CR μ' α ∧ FrC μ' μ)) := by
  refine CT.of (l0 := [some (.ref (adr 0)), some (.int (nI i)), some (.int x), none]) (by decide +kernel) rfl (Nat.le_of_ble_eq_true rfl) rfl ?_
  refine J.il1 dX7_use_0 ?_
  refine cl_X7_176 rfl (k' := 0) (n' := 0) (c_needShelfOk _ (by omega)) ⟨⟨by decide, by decide⟩, ⟨rfl, rfl⟩, by decide, by decide⟩ rfl dX7_use_1 (fun μ9 h9₉ => ?_)
  rw [h9₉]; clear h9₉
  refine J.il2 dX7_use_4 ?_
  refine J.if_ge (tgt := 13) dX7_use_5 (by decide) (fun c5₉ => ?_) (fun c5₉ => absurd h0₉ c5₉)
  refine J.il2 dX7_use_13 ?_
  refine J.is3 dX7_use_14 (by decide) rfl ?_
  refine J.il3 dX7_use_15 ?_
  refine J.iconst dX7_use_16 kI_1 ?_
  refine J.bipush dX7_use_17 kb_99 ?_
  refine cx_X7_68 rfl (k' := 1) (n' := 6) (c_needFromToX _ hx₉) ⟨⟨by decide, by decide⟩, ⟨rfl, rfl⟩, by decide, by decide⟩ rfl dX7_use_19 (fun μ9 h9₉ => ?_)
  exact JX.out ⟨_, rfl, rfl, (by rw [h9₉]; exact ⟨hCR₉, FrC.rf⟩)⟩ rfl rfl (by decide) (by decide)

set_option maxRecDepth 100000 in
set_option maxHeartbeats 4000000 in
theorem c_useX1n {g : GP} {adr : Nat → Nat} (μ : Mem) {α : A7} (hCR₉ : CR μ α) {i : Nat} {x : Int32} (hi₉ : i < 5) (h0₉ : ¬ 0 ≤ x) (hx₉ : -x < nI 1 ∨ nI 99 < -x) : CT g yX7_use mX7_use (RM 20 1 6) (WM g adr μ) [.ref (adr 0), .int (nI i), .int x] (PM g adr (.inr "java/lang/IllegalArgumentException") (fun μ' => CR μ' α ∧ FrC μ' μ)) := by
  refine CT.of (l0 := [some (.ref (adr 0)), some (.int (nI i)), some (.int x), none]) (by decide +kernel) rfl (Nat.le_of_ble_eq_true rfl) rfl ?_
  refine J.il1 dX7_use_0 ?_
  refine cl_X7_176 rfl (k' := 0) (n' := 0) (c_needShelfOk _ (by omega)) ⟨⟨by decide, by decide⟩, ⟨rfl, rfl⟩, by decide, by decide⟩ rfl dX7_use_1 (fun μ9 h9₉ => ?_)
  rw [h9₉]; clear h9₉
  refine J.il2 dX7_use_4 ?_
  refine J.if_ge (tgt := 13) dX7_use_5 (by decide) (fun c5₉ => absurd c5₉ h0₉) (fun c5₉ => ?_)
  refine J.il2 dX7_use_8 ?_
  refine J.ineg dX7_use_9 rfl ?_
  refine J.goto (tgt := 14) dX7_use_10 (by decide) ?_
  refine J.is3 dX7_use_14 (by decide) rfl ?_
  refine J.il3 dX7_use_15 ?_
  refine J.iconst dX7_use_16 kI_1 ?_
  refine J.bipush dX7_use_17 kb_99 ?_
  refine cx_X7_68 rfl (k' := 1) (n' := 6) (c_needFromToX _ hx₉) ⟨⟨by decide, by decide⟩, ⟨rfl, rfl⟩, by decide, by decide⟩ rfl dX7_use_19 (fun μ9 h9₉ => ?_)
  exact JX.out ⟨_, rfl, rfl, (by rw [h9₉]; exact ⟨hCR₉, FrC.rf⟩)⟩ rfl rfl (by decide) (by decide)

set_option maxRecDepth 100000 in
set_option maxHeartbeats 4000000 in
theorem c_useX2p {g : GP} {adr : Nat → Nat} (μ : Mem) {α : A7} (hCR₉ : CR μ α) {i t : Nat} (hi₉ : i < 5) (ht1₉ : 1 ≤ t) (ht2₉ : t ≤ 99) (hx₉ : ¬ aFl (qS α) i = true) : CT g yX7_use mX7_use (RM 20 1 6) (WM g adr μ) [.ref (adr 0), .int (nI i), .int (nI t)] (PM g adr (.inr "java/lang/UnsupportedOperationException") (fun μ' => CR μ' (aRef 3 i α) ∧ FrC μ' μ)) := by
  refine CT.of (l0 := [some (.ref (adr 0)), some (.int (nI i)), some (.int (nI t)), none]) (by decide +kernel) rfl (Nat.le_of_ble_eq_true rfl) rfl ?_
  refine J.il1 dX7_use_0 ?_
  refine cl_X7_176 rfl (k' := 0) (n' := 0) (c_needShelfOk _ (by omega)) ⟨⟨by decide, by decide⟩, ⟨rfl, rfl⟩, by decide, by decide⟩ rfl dX7_use_1 (fun μ9 h9₉ => ?_)
  rw [h9₉]; clear h9₉
  refine J.il2 dX7_use_4 ?_
  refine J.if_geN (tgt := 13) dX7_use_5 (by decide) (by omega) (fun c5₉ => ?_) (fun c5₉ => c5₉.elim)
  refine J.il2 dX7_use_13 ?_
  refine J.is3 dX7_use_14 (by decide) rfl ?_
  refine J.il3 dX7_use_15 ?_
  refine J.iconst dX7_use_16 kI_1 ?_
  refine J.bipush dX7_use_17 kb_99 ?_
  refine cl_X7_68 rfl (k' := 0) (n' := 0) (c_needFromToOk _ (by omega) (by omega) (by decide)) ⟨⟨by decide, by decide⟩, ⟨rfl, rfl⟩, by decide, by decide⟩ rfl dX7_use_19 (fun μ9 h9₉ => ?_)
  rw [h9₉]; clear h9₉
  refine J.al0 dX7_use_22 ?_
  refine J.il1 dX7_use_23 ?_
  refine cx_X7_179 rfl (by decide) (k' := 1) (n' := 6) (c_needFilledX _ (by omega) hCR₉.1 hx₉) ⟨⟨by decide, by decide⟩, ⟨rfl, rfl⟩, by decide, by decide⟩ rfl dX7_use_24 (fun μ9 h9₉ => ?_)
  exact JX.out ⟨_, rfl, rfl, (by rw [h9₉]; exact ⟨hCR₉.ref (by decide), fun o ho₉ => by rw [wr_o (by omega), wr_o (by omega)]⟩)⟩ rfl rfl (by decide) (by decide)

set_option maxRecDepth 100000 in
set_option maxHeartbeats 4000000 in
theorem c_useOkp {g : GP} {adr : Nat → Nat} (μ : Mem) {α : A7} (hCR₉ : CR μ α) {i t : Nat} (hi₉ : i < 5) (ht1₉ : 1 ≤ t) (ht2₉ : t ≤ 99) (hfi₉ : aFl (qS α) i = true) : CT g yX7_use mX7_use (RM 20 1 6) (WM g adr μ) [.ref (adr 0), .int (nI i), .int (nI t)] (PM g adr ((.inl (some (.int (nI (cnt (fun s => decide (aAt (sLen 0 (sDo (iter (aSh (qS α) i) t) (qS α))) s = s)) 32)))))) (fun μ' => CR μ' (aPush (sLen 0 (sDo (iter (aSh (qS α) i) t) (qS α))) α) ∧ FrC μ' μ)) := by
  refine CT.of (l0 := [some (.ref (adr 0)), some (.int (nI i)), some (.int (nI t)), none]) (by decide +kernel) rfl (Nat.le_of_ble_eq_true rfl) rfl ?_
  have hBS₉ : Bij (aSh (qS α) i) := hCR₉.1.sh i hi₉ hfi₉
  have hBP₉ : Bij (iter (aSh (qS α) i) t) := Bij.iter (hBS₉) t
  refine J.il1 dX7_use_0 ?_
  refine cl_X7_176 rfl (k' := 0) (n' := 0) (c_needShelfOk _ (by omega)) ⟨⟨by decide, by decide⟩, ⟨rfl, rfl⟩, by decide, by decide⟩ rfl dX7_use_1 (fun μ9 h9₉ => ?_)
  rw [h9₉]; clear h9₉
  refine J.il2 dX7_use_4 ?_
  refine J.if_geN (tgt := 13) dX7_use_5 (by decide) (by omega) (fun c5₉ => ?_) (fun c5₉ => c5₉.elim)
  refine J.il2 dX7_use_13 ?_
  refine J.is3 dX7_use_14 (by decide) rfl ?_
  refine J.il3 dX7_use_15 ?_
  refine J.iconst dX7_use_16 kI_1 ?_
  refine J.bipush dX7_use_17 kb_99 ?_
  refine cl_X7_68 rfl (k' := 0) (n' := 0) (c_needFromToOk _ (by omega) (by omega) (by decide)) ⟨⟨by decide, by decide⟩, ⟨rfl, rfl⟩, by decide, by decide⟩ rfl dX7_use_19 (fun μ9 h9₉ => ?_)
  rw [h9₉]; clear h9₉
  refine J.al0 dX7_use_22 ?_
  refine J.il1 dX7_use_23 ?_
  refine cl_X7_179 rfl (by decide) (k' := 0) (n' := 0) (c_needFilledOk _ (by omega) hCR₉.1 hfi₉) ⟨⟨by decide, by decide⟩, ⟨rfl, rfl⟩, by decide, by decide⟩ rfl dX7_use_24 (fun μ9 h9₉ => ?_)
  rw [h9₉]; clear h9₉
  refine J.al0 dX7_use_27 ?_
  refine gf_X7_19 rfl (o2 := 20) (by decide) rfl dX7_use_28 ?_
  refine J.al0 dX7_use_31 ?_
  refine gf_X7_10 rfl (o2 := 1) (by decide) rfl dX7_use_32 ?_
  refine cl_X7_72 rfl (by decide) (k' := 0) (n' := 0) (c_hold _ hCR₉.2.1 hCR₉.1) ⟨⟨by decide, by decide⟩, ⟨rfl, rfl⟩, by decide, by decide⟩ rfl dX7_use_35 (fun μ2 ⟨hP2₉, hO2₉⟩ => ?_)
  have hC2₉ : CS μ2 1 (qS α) := hCR₉.1.off (fun o q1₉ q2₉ => hO2₉ o (by omega))
  refine J.il2 dX7_use_38 ?_
  refine J.if_geN (tgt := 60) dX7_use_39 (by decide) (by omega) (fun c39₉ => ?_) (fun c39₉ => c39₉.elim)
  refine J.al0 dX7_use_60 ?_
  refine gf_X7_51 rfl (o2 := 235) (by decide) rfl dX7_use_61 ?_
  refine J.al0 dX7_use_64 ?_
  refine gf_X7_10 rfl (o2 := 1) (by decide) rfl dX7_use_65 ?_
  refine J.il1 dX7_use_68 ?_
  have hosi := c_onShelf (g := g) (adr := adr) (μ2) (t := 1) (i := i) (by decide) (by omega)
  refine cl_X7_182 rfl (by decide) (k' := 0) (n' := 0) (hosi) ⟨⟨by decide, by decide⟩, ⟨rfl, rfl⟩, by decide, by decide⟩ rfl dX7_use_69 (fun μ9 h9₉ => ?_)
  rw [h9₉]; clear h9₉
  refine cl_X7_190 rfl (by decide) (k' := 0) (n' := 0) (c_toCopy _ (by decide) (kt_sh hi₉) (by omega) (fl_P hC2₉ hi₉ hfi₉)) ⟨⟨by decide, by decide⟩, ⟨rfl, rfl⟩, by decide, by decide⟩ rfl dX7_use_72 (fun μ3 ⟨h3₉, hO3₉⟩ => ?_)
  refine J.al0 dX7_use_75 ?_
  refine gf_X7_47 rfl (o2 := 233) (by decide) rfl dX7_use_76 ?_
  refine J.al0 dX7_use_79 ?_
  refine gf_X7_51 rfl (o2 := 235) (by decide) rfl dX7_use_80 ?_
  refine J.il3 dX7_use_83 ?_
  refine cl_X7_193 rfl (by decide) (k' := 0) (n' := 0) (c_toPower _ (by decide) (by decide) (by decide) h3₉ (by omega)) ⟨⟨by decide, by decide⟩, ⟨rfl, rfl⟩, by decide, by decide⟩ rfl dX7_use_84 (fun μ4 ⟨h4₉, hO4₉⟩ => ?_)
  have hC4₉ : CS μ4 1 (qS α) := hC2₉.off (fun o q1₉ q2₉ => by rw [hO4₉ o (by omega), hO3₉ o (by omega)])
  refine J.al0 dX7_use_87 ?_
  refine gf_X7_10 rfl (o2 := 1) (by decide) rfl dX7_use_88 ?_
  refine gf_X7_79 rfl (o2 := 2) (by decide) rfl dX7_use_91 ?_
  refine J.al0 dX7_use_94 ?_
  refine gf_X7_47 rfl (o2 := 233) (by decide) rfl dX7_use_95 ?_
  refine cl_X7_197 rfl (by decide) (k' := 0) (n' := 0) (c_follow _ (by decide) (by decide) hC4₉.1 hC4₉.2.1 h4₉ hC4₉.vs.1 hBP₉ (by decide)) ⟨⟨by decide, by decide⟩, ⟨rfl, rfl⟩, by decide, by decide⟩ rfl dX7_use_98 (fun μ5 ⟨h5₉, h6₉, hO5₉⟩ => ?_)
  have hC5₉ := hC4₉.sDo hBP₉ h5₉ h6₉ hO5₉
  refine J.al0 dX7_use_101 ?_
  refine gf_X7_10 rfl (o2 := 1) (by decide) rfl dX7_use_102 ?_
  refine gf_X7_93 rfl (o2 := 6) (by decide) rfl dX7_use_105 ?_
  refine cl_X7_200 rfl (by decide) (k' := 0) (n' := 0) (c_l_clear _ (by decide)) ⟨⟨by decide, by decide⟩, ⟨rfl, rfl⟩, by decide, by decide⟩ rfl dX7_use_108 (fun μ6 h6x => ?_)
  have hC6₉ : CS μ6 1 (sLen 0 (sDo (iter (aSh (qS α) i) t) (qS α))) := by rw [h6x]; exact hC5₉.sLenA (Nat.zero_le _)
  refine J.al0 dX7_use_111 ?_
  refine gf_X7_10 rfl (o2 := 1) (by decide) rfl dX7_use_112 ?_
  refine gf_X7_79 rfl (o2 := 2) (by decide) rfl dX7_use_115 ?_
  refine cl_X7_83 rfl (by decide) (k' := 0) (n' := 0) (c_countHome _ (by decide) hC6₉.1) ⟨⟨by decide, by decide⟩, ⟨rfl, rfl⟩, by decide, by decide⟩ rfl dX7_use_118 (fun μ9 h9₉ => ?_)
  rw [h9₉]; clear h9₉
  refine J.iret rfl (by decide) (by decide) dX7_use_121 ⟨_, rfl, ?_, ?_⟩
  · rfl
  · exact ⟨hCR₉.push hP2₉ hO2₉ hC6₉ (fun o ho₉ => by rw [h6x, wr_o (by omega), hO5₉ o (by omega) (by omega), hO4₉ o (by omega), hO3₉ o (by omega)]), fun o ho₉ => by rw [h6x, wr_o (by omega), hO5₉ o (by omega) (by omega), hO4₉ o (by omega), hO3₉ o (by omega), hO2₉ o (by omega)]⟩
