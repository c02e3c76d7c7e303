/-! ===== printed: the class: moves, slots and colours ===== -/
set_option maxRecDepth 100000 in
set_option maxHeartbeats 4000000 in
theorem c_scrambleX0 {g : GP} {adr : Nat → Nat} (μ : Mem) {α : A7} (hCR₉ : CR μ α) {i : Int32} (hx₉ : i < nI 0 ∨ nI 9999 < i) {j : Int32} : CT g yX7_scramble mX7_scramble (RM 20 1 6) (WM g adr μ) [.ref (adr 0), .int i, .int j] (PM g adr (.inr "java/lang/IllegalArgumentException") (fun μ' => CR μ' α ∧ FrC μ' μ)) := by
  refine CT.of (l0 := [some (.ref (adr 0)), some (.int i), some (.int j), none, none]) (by decide +kernel) rfl (Nat.le_of_ble_eq_true rfl) rfl ?_
  refine J.il1 dX7_scramble_0 ?_
  refine J.iconst dX7_scramble_1 kI_0 ?_
  refine J.sipush dX7_scramble_2 kc_9999 ?_
  refine cx_X7_68 rfl (k' := 1) (n' := 6) (c_needFromToX _ hx₉) ⟨⟨by decide, by decide⟩, ⟨rfl, rfl⟩, by decide, by decide⟩ rfl dX7_scramble_5 (fun μ9 h9₉ => ?_)
  exact JX.out ⟨_, rfl, rfl, (by rw [h9₉]; exact ⟨hCR₉, FrC.rf⟩)⟩ rfl rfl (by decide) (by decide)

set_option maxRecDepth 100000 in
set_option maxHeartbeats 4000000 in
theorem c_scrambleX1 {g : GP} {adr : Nat → Nat} (μ : Mem) {α : A7} (hCR₉ : CR μ α) {i : Nat} (hi1₉ : 0 ≤ i) (hi2₉ : i ≤ 9999) {j : Int32} (hx₉ : j < nI 1 ∨ nI 60 < j) : CT g yX7_scramble mX7_scramble (RM 20 1 6) (WM g adr μ) [.ref (adr 0), .int (nI i), .int j] (PM g adr (.inr "java/lang/IllegalArgumentException") (fun μ' => CR μ' α ∧ FrC μ' μ)) := by
  refine CT.of (l0 := [some (.ref (adr 0)), some (.int (nI i)), some (.int j), none, none]) (by decide +kernel) rfl (Nat.le_of_ble_eq_true rfl) rfl ?_
  refine J.il1 dX7_scramble_0 ?_
  refine J.iconst dX7_scramble_1 kI_0 ?_
  refine J.sipush dX7_scramble_2 kc_9999 ?_
  refine cl_X7_68 rfl (k' := 0) (n' := 0) (c_needFromToOk _ (by omega) (by omega) (by decide)) ⟨⟨by decide, by decide⟩, ⟨rfl, rfl⟩, by decide, by decide⟩ rfl dX7_scramble_5 (fun μ9 h9₉ => ?_)
  rw [h9₉]; clear h9₉
  refine J.il2 dX7_scramble_8 ?_
  refine J.iconst dX7_scramble_9 kI_1 ?_
  refine J.bipush dX7_scramble_10 kb_60 ?_
  refine cx_X7_68 rfl (k' := 1) (n' := 6) (c_needFromToX _ hx₉) ⟨⟨by decide, by decide⟩, ⟨rfl, rfl⟩, by decide, by decide⟩ rfl dX7_scramble_12 (fun μ9 h9₉ => ?_)
  exact JX.out ⟨_, rfl, rfl, (by rw [h9₉]; exact ⟨hCR₉, FrC.rf⟩)⟩ rfl rfl (by decide) (by decide)

set_option maxRecDepth 100000 in
set_option maxHeartbeats 4000000 in
theorem c_scramble {g : GP} {adr : Nat → Nat} (μ : Mem) {α : A7} (hCR₉ : CR μ α) {i : Nat} (hi1₉ : 0 ≤ i) (hi2₉ : i ≤ 9999) {j : Nat} (hj1₉ : 1 ≤ j) (hj2₉ : j ≤ 60)  : CT g yX7_scramble mX7_scramble (RM 20 1 6) (WM g adr μ) [.ref (adr 0), .int (nI i), .int (nI j)] (PM g adr ((.inl (some (.int (nI (cnt (fun s => decide (aAt ((scP (i + 1) (qS α) j).2) s = s)) 32)))))) (fun μ' => CR μ' (aPush ((scP (i + 1) (qS α) j).2) α) ∧ FrC μ' μ)) := by
  refine CT.of (l0 := [some (.ref (adr 0)), some (.int (nI i)), some (.int (nI j)), none, none]) (by decide +kernel) rfl (Nat.le_of_ble_eq_true rfl) rfl ?_
  refine J.il1 dX7_scramble_0 ?_
  refine J.iconst dX7_scramble_1 kI_0 ?_
  refine J.sipush dX7_scramble_2 kc_9999 ?_
  refine cl_X7_68 rfl (k' := 0) (n' := 0) (c_needFromToOk _ (by omega) (by omega) (by decide)) ⟨⟨by decide, by decide⟩, ⟨rfl, rfl⟩, by decide, by decide⟩ rfl dX7_scramble_5 (fun μ9 h9₉ => ?_)
  rw [h9₉]; clear h9₉
  refine J.il2 dX7_scramble_8 ?_
  refine J.iconst dX7_scramble_9 kI_1 ?_
  refine J.bipush dX7_scramble_10 kb_60 ?_
  refine cl_X7_68 rfl (k' := 0) (n' := 0) (c_needFromToOk _ (by omega) (by omega) (by decide)) ⟨⟨by decide, by decide⟩, ⟨rfl, rfl⟩, by decide, by decide⟩ rfl dX7_scramble_12 (fun μ9 h9₉ => ?_)
  rw [h9₉]; clear h9₉
  refine J.al0 dX7_scramble_15 ?_
  refine gf_X7_19 rfl (o2 := 20) (by decide) rfl dX7_scramble_16 ?_
  refine J.al0 dX7_scramble_19 ?_
  refine gf_X7_10 rfl (o2 := 1) (by decide) rfl dX7_scramble_20 ?_
  refine cl_X7_72 rfl (by decide) (k' := 0) (n' := 0) (c_hold _ hCR₉.2.1 hCR₉.1) ⟨⟨by decide, by decide⟩, ⟨rfl, rfl⟩, by decide, by decide⟩ rfl dX7_scramble_23 (fun μ2 ⟨hP2₉, hO2₉⟩ => ?_)
  have hC2₉ : CS μ2 1 (qS α) := hCR₉.1.off (fun o q1₉ q2₉ => hO2₉ o (by omega))
  refine J.il1 dX7_scramble_26 ?_
  refine J.iconst dX7_scramble_27 kI_1 ?_
  refine J.iaddN dX7_scramble_28 ?_
  refine J.is3 dX7_scramble_29 (by decide) rfl ?_
  refine J.iconst dX7_scramble_30 kI_0 ?_
  refine J.is4 dX7_scramble_31 (by decide) rfl ?_
  have lp33_1 : ∀ (fu : Nat) (m v : Nat) (μ1 : Mem), j < m + fu → m ≤ j → v = (scP (i + 1) (qS α) m).1 → v ≤ 65537 → CS μ1 1 (scP (i + 1) (qS α) m).2 → (∀ o, (o = 0 ∨ 20 ≤ o) → o ≠ 234 → μ1 o = μ2 o) → J g mX7_scramble (RM 20 1 6) (MQx g (RM 20 1 6) (PM g adr ((.inl (some (.int (nI (cnt (fun s => decide (aAt ((scP (i + 1) (qS α) j).2) s = s)) 32)))))) (fun μ' => CR μ' (aPush ((scP (i + 1) (qS α) j).2) α) ∧ FrC μ' μ))) 0 0 (WM g adr μ1) 33 [some (.ref (adr 0)), some (.int (nI i)), some (.int (nI j)), some (.int (nI v)), some (.int (nI m))] [] := by
    intro fu
    induction fu with
    | zero => intro m v μ1 h9₉ hm₉ hv₉ hv2₉ hC1₉ hO₉; exact absurd h9₉ (by omega)
    | succ fu ih33 =>
      intro m v μ1 h9₉ hm₉ hv₉ hv2₉ hC1₉ hO₉
      refine J.il4 dX7_scramble_33 ?_
      refine J.il2 dX7_scramble_35 ?_
      refine J.icmp_geN (tgt := 103) dX7_scramble_36 (by decide) (by omega) (by omega) (fun c36₉ => ?_) (fun c36₉ => ?_)
      · refine J.al0 dX7_scramble_103 ?_
        refine gf_X7_10 rfl (o2 := 1) (by decide) rfl dX7_scramble_104 ?_
        refine gf_X7_79 rfl (o2 := 2) (by decide) rfl dX7_scramble_107 ?_
        obtain rfl : m = j := by omega
        refine cl_X7_83 rfl (by decide) (k' := 0) (n' := 0) (c_countHome _ (by decide) hC1₉.1) ⟨⟨by decide, by decide⟩, ⟨rfl, rfl⟩, by decide, by decide⟩ rfl dX7_scramble_110 (fun μ9 h9₉ => ?_)
        rw [h9₉]; clear h9₉
        refine J.iret rfl (by decide) (by decide) dX7_scramble_113 ⟨_, rfl, ?_, ?_⟩
        · rfl
        · exact ⟨hCR₉.push hP2₉ hO2₉ hC1₉ (fun o ho₉ => hO₉ o (by omega) (by omega)), fun o ho₉ => by rw [hO₉ o (by omega) (by omega), hO2₉ o (by omega)]⟩
      · refine J.bipush dX7_scramble_39 kb_75 ?_
        refine J.il3 dX7_scramble_41 ?_
        refine J.imulN dX7_scramble_42 ?_
        refine J.bipush dX7_scramble_43 kb_74 ?_
        refine J.iaddN dX7_scramble_45 ?_
        refine J.ldcI dX7_scramble_46 t_396 (show (_ : Int32) = nI 65537 by decide) ?_
        refine J.irem dX7_scramble_48 (by omega) (by omega) (by omega) ?_
        refine J.is3 dX7_scramble_49 (by decide) rfl ?_
        refine J.il3 dX7_scramble_50 ?_
        refine J.iconst dX7_scramble_51 kI_2 ?_
        refine J.irem dX7_scramble_52 (by omega) (by omega) (by omega) ?_
        refine J.if_neN (tgt := 78) dX7_scramble_53 (by decide) (by omega) (fun c53₉ => ?_) (fun c53₉ => ?_)
        · refine J.al0 dX7_scramble_78 ?_
          refine J.iconst dX7_scramble_79 kI_1 ?_
          refine J.il3 dX7_scramble_80 ?_
          refine J.iconst dX7_scramble_81 kI_2 ?_
          refine J.idiv dX7_scramble_82 (by omega) (by omega) (by omega) ?_
          refine J.bipush dX7_scramble_83 kb_8 ?_
          refine J.irem dX7_scramble_85 (by omega) (by omega) (by omega) ?_
          refine J.iconst dX7_scramble_86 kI_1 ?_
          refine J.il3 dX7_scramble_87 ?_
          refine J.bipush dX7_scramble_88 kb_16 ?_
          refine J.idiv dX7_scramble_90 (by omega) (by omega) (by omega) ?_
          refine J.iconst dX7_scramble_91 kI_3 ?_
          refine J.irem dX7_scramble_92 (by omega) (by omega) (by omega) ?_
          refine J.iaddN dX7_scramble_93 ?_
          refine cl_X7_76 rfl (by decide) (k' := 0) (n' := 0) (c_doLoggedMove _ (show mvOK 1 _ _ by unfold mvOK; omega) hC1₉) ⟨⟨by decide, by decide⟩, ⟨rfl, rfl⟩, by decide, by decide⟩ rfl dX7_scramble_94 (fun μ3 ⟨hC3₉, hO3₉⟩ => ?_)
          refine J.ii4 (z := 1) dX7_scramble_97 (by decide) (by decide) rfl ?_
          refine J.goto (tgt := 33) dX7_scramble_100 (by decide) ?_
          have hsc₉ : (scP (i + 1) (qS α) (m + 1)).2 = mvS 1 (((((75 * v) + 74) % 65537) / 2) % 8) (1 + (((((75 * v) + 74) % 65537) / 16) % 3)) (scP (i + 1) (qS α) m).2 := by
            show scM (scV (scP (i + 1) (qS α) m).1) _ = _
            rw [← hv₉]; first | exact if_pos c53₉ | exact if_neg (show ¬ scV v % 2 = 0 by unfold scV; omega)
          exact ih33 (m + 1) (((75 * v) + 74) % 65537) _ (by omega) (by omega) (by show _ = scV (scP (i + 1) (qS α) m).1; rw [← hv₉]; rfl) (by omega) (by rw [hsc₉]; exact hC3₉) (fun o h1₉ h2₉ => (hO3₉ o h1₉ h2₉).trans (hO₉ o h1₉ h2₉))
        · refine J.al0 dX7_scramble_56 ?_
          refine J.iconst dX7_scramble_57 kI_0 ?_
          refine J.il3 dX7_scramble_58 ?_
          refine J.iconst dX7_scramble_59 kI_2 ?_
          refine J.idiv dX7_scramble_60 (by omega) (by omega) (by omega) ?_
          refine J.iconst dX7_scramble_61 kI_4 ?_
          refine J.irem dX7_scramble_62 (by omega) (by omega) (by omega) ?_
          refine J.iconst dX7_scramble_63 kI_1 ?_
          refine J.il3 dX7_scramble_64 ?_
          refine J.bipush dX7_scramble_65 kb_8 ?_
          refine J.idiv dX7_scramble_67 (by omega) (by omega) (by omega) ?_
          refine J.bipush dX7_scramble_68 kb_7 ?_
          refine J.irem dX7_scramble_70 (by omega) (by omega) (by omega) ?_
          refine J.iaddN dX7_scramble_71 ?_
          refine cl_X7_76 rfl (by decide) (k' := 0) (n' := 0) (c_doLoggedMove _ (show mvOK 0 _ _ by unfold mvOK; omega) hC1₉) ⟨⟨by decide, by decide⟩, ⟨rfl, rfl⟩, by decide, by decide⟩ rfl dX7_scramble_72 (fun μ3 ⟨hC3₉, hO3₉⟩ => ?_)
          refine J.goto (tgt := 97) dX7_scramble_75 (by decide) ?_
          refine J.ii4 (z := 1) dX7_scramble_97 (by decide) (by decide) rfl ?_
          refine J.goto (tgt := 33) dX7_scramble_100 (by decide) ?_
          have hsc₉ : (scP (i + 1) (qS α) (m + 1)).2 = mvS 0 (((((75 * v) + 74) % 65537) / 2) % 4) (1 + (((((75 * v) + 74) % 65537) / 8) % 7)) (scP (i + 1) (qS α) m).2 := by
            show scM (scV (scP (i + 1) (qS α) m).1) _ = _
            rw [← hv₉]; first | exact if_pos c53₉ | exact if_neg (show ¬ scV v % 2 = 0 by unfold scV; omega)
          exact ih33 (m + 1) (((75 * v) + 74) % 65537) _ (by omega) (by omega) (by show _ = scV (scP (i + 1) (qS α) m).1; rw [← hv₉]; rfl) (by omega) (by rw [hsc₉]; exact hC3₉) (fun o h1₉ h2₉ => (hO3₉ o h1₉ h2₉).trans (hO₉ o h1₉ h2₉))
  exact lp33_1 (j + 1) 0 (i + 1) _ (by omega) (by omega) rfl (by omega) hC2₉ (fun o _ _ => rfl)

set_option maxRecDepth 100000 in
set_option maxHeartbeats 4000000 in
theorem c_logOfX0 {g : GP} {adr : Nat → Nat} (μ : Mem) {α : A7} (hCR₉ : CR μ α) {i : Int32} (hx₉ : ¬ (0 ≤ i ∧ i < nI (aLn (qS α)))) {j : Int32} : CT g yX7_logOf mX7_logOf (RM 20 1 6) (WM g adr μ) [.ref (adr 0), .int i, .int j] (PM g adr (.inr "java/lang/IndexOutOfBoundsException") (fun μ' => CR μ' α ∧ FrC μ' μ)) := by
  refine CT.of (l0 := [some (.ref (adr 0)), some (.int i), some (.int j)]) (by decide +kernel) rfl (Nat.le_of_ble_eq_true rfl) rfl ?_
  have hln₉ := hCR₉.1.ln
  refine J.il1 dX7_logOf_0 ?_
  refine J.al0 dX7_logOf_1 ?_
  refine gf_X7_10 rfl (o2 := 1) (by decide) rfl dX7_logOf_2 ?_
  refine gf_X7_93 rfl (o2 := 6) (by decide) rfl dX7_logOf_5 ?_
  refine cl_X7_97 rfl (by decide) (k' := 0) (n' := 0) (c_l_size _ (by decide) hCR₉.1.2.2.2.1) ⟨⟨by decide, by decide⟩, ⟨rfl, rfl⟩, by decide, by decide⟩ rfl dX7_logOf_8 (fun μ9 h9₉ => ?_)
  rw [h9₉]; clear h9₉
  refine cx_X7_89 rfl (k' := 1) (n' := 6) (c_needIndexX _ hx₉ (by omega)) ⟨⟨by decide, by decide⟩, ⟨rfl, rfl⟩, by decide, by decide⟩ rfl dX7_logOf_11 (fun μ9 h9₉ => ?_)
  exact JX.out ⟨_, rfl, rfl, (by rw [h9₉]; exact ⟨hCR₉, FrC.rf⟩)⟩ rfl rfl (by decide) (by decide)

set_option maxRecDepth 100000 in
set_option maxHeartbeats 4000000 in
theorem c_logOfX1 {g : GP} {adr : Nat → Nat} (μ : Mem) {α : A7} (hCR₉ : CR μ α) {i : Nat} (hi1₉ : i < aLn (qS α)) {j : Int32} (hx₉ : j < nI 0 ∨ nI 2 < j) : CT g yX7_logOf mX7_logOf (RM 20 1 6) (WM g adr μ) [.ref (adr 0), .int (nI i), .int j] (PM g adr (.inr "java/lang/IllegalArgumentException") (fun μ' => CR μ' α ∧ FrC μ' μ)) := by
  refine CT.of (l0 := [some (.ref (adr 0)), some (.int (nI i)), some (.int j)]) (by decide +kernel) rfl (Nat.le_of_ble_eq_true rfl) rfl ?_
  have hln₉ := hCR₉.1.ln
  refine J.il1 dX7_logOf_0 ?_
  refine J.al0 dX7_logOf_1 ?_
  refine gf_X7_10 rfl (o2 := 1) (by decide) rfl dX7_logOf_2 ?_
  refine gf_X7_93 rfl (o2 := 6) (by decide) rfl dX7_logOf_5 ?_
  refine cl_X7_97 rfl (by decide) (k' := 0) (n' := 0) (c_l_size _ (by decide) hCR₉.1.2.2.2.1) ⟨⟨by decide, by decide⟩, ⟨rfl, rfl⟩, by decide, by decide⟩ rfl dX7_logOf_8 (fun μ9 h9₉ => ?_)
  rw [h9₉]; clear h9₉
  refine cl_X7_89 rfl (k' := 0) (n' := 0) (c_needIndexOk _ (by omega) (by omega)) ⟨⟨by decide, by decide⟩, ⟨rfl, rfl⟩, by decide, by decide⟩ rfl dX7_logOf_11 (fun μ9 h9₉ => ?_)
  rw [h9₉]; clear h9₉
  refine J.il2 dX7_logOf_14 ?_
  refine J.iconst dX7_logOf_15 kI_0 ?_
  refine J.iconst dX7_logOf_16 kI_2 ?_
  refine cx_X7_68 rfl (k' := 1) (n' := 6) (c_needFromToX _ hx₉) ⟨⟨by decide, by decide⟩, ⟨rfl, rfl⟩, by decide, by decide⟩ rfl dX7_logOf_17 (fun μ9 h9₉ => ?_)
  exact JX.out ⟨_, rfl, rfl, (by rw [h9₉]; exact ⟨hCR₉, FrC.rf⟩)⟩ rfl rfl (by decide) (by decide)

set_option maxRecDepth 100000 in
set_option maxHeartbeats 4000000 in
theorem c_logOf {g : GP} {adr : Nat → Nat} (μ : Mem) {α : A7} (hCR₉ : CR μ α) {i : Nat} (hi1₉ : i < aLn (qS α)) {j : Nat} (hj1₉ : 0 ≤ j) (hj2₉ : j ≤ 2)  : CT g yX7_logOf mX7_logOf (RM 20 1 6) (WM g adr μ) [.ref (adr 0), .int (nI i), .int (nI j)] (PM g adr ((.inl (some (.int (nI (aLg (qS α) (i * 3 + j))))))) (fun μ' => CR μ' α ∧ FrC μ' μ)) := by
  refine CT.of (l0 := [some (.ref (adr 0)), some (.int (nI i)), some (.int (nI j))]) (by decide +kernel) rfl (Nat.le_of_ble_eq_true rfl) rfl ?_
  have hln₉ := hCR₉.1.ln
  refine J.il1 dX7_logOf_0 ?_
  refine J.al0 dX7_logOf_1 ?_
  refine gf_X7_10 rfl (o2 := 1) (by decide) rfl dX7_logOf_2 ?_
  refine gf_X7_93 rfl (o2 := 6) (by decide) rfl dX7_logOf_5 ?_
  refine cl_X7_97 rfl (by decide) (k' := 0) (n' := 0) (c_l_size _ (by decide) hCR₉.1.2.2.2.1) ⟨⟨by decide, by decide⟩, ⟨rfl, rfl⟩, by decide, by decide⟩ rfl dX7_logOf_8 (fun μ9 h9₉ => ?_)
  rw [h9₉]; clear h9₉
  refine cl_X7_89 rfl (k' := 0) (n' := 0) (c_needIndexOk _ (by omega) (by omega)) ⟨⟨by decide, by decide⟩, ⟨rfl, rfl⟩, by decide, by decide⟩ rfl dX7_logOf_11 (fun μ9 h9₉ => ?_)
  rw [h9₉]; clear h9₉
  refine J.il2 dX7_logOf_14 ?_
  refine J.iconst dX7_logOf_15 kI_0 ?_
  refine J.iconst dX7_logOf_16 kI_2 ?_
  refine cl_X7_68 rfl (k' := 0) (n' := 0) (c_needFromToOk _ (by omega) (by omega) (by decide)) ⟨⟨by decide, by decide⟩, ⟨rfl, rfl⟩, by decide, by decide⟩ rfl dX7_logOf_17 (fun μ9 h9₉ => ?_)
  rw [h9₉]; clear h9₉
  refine J.al0 dX7_logOf_20 ?_
  refine gf_X7_10 rfl (o2 := 1) (by decide) rfl dX7_logOf_21 ?_
  refine gf_X7_93 rfl (o2 := 6) (by decide) rfl dX7_logOf_24 ?_
  refine J.il1 dX7_logOf_27 ?_
  refine J.il2 dX7_logOf_28 ?_
  refine cl_X7_105 rfl (by decide) (k' := 0) (n' := 0) (c_part _ (by decide) hCR₉.1.2.2.2.1 hCR₉.1.ln (by omega) (by omega) hCR₉.1.2.2.2.2.1) ⟨⟨by decide, by decide⟩, ⟨rfl, rfl⟩, by decide, by decide⟩ rfl dX7_logOf_29 (fun μ9 h9₉ => ?_)
  rw [h9₉]; clear h9₉
  refine J.iret rfl (by decide) (by decide) dX7_logOf_32 ⟨_, rfl, ?_, ?_⟩
  · rfl
  · exact ⟨hCR₉, FrC.rf⟩

set_option maxRecDepth 100000 in
set_option maxHeartbeats 4000000 in
theorem c_atX0 {g : GP} {adr : Nat → Nat} (μ : Mem) {α : A7} (hCR₉ : CR μ α) {i : Int32} (hx₉ : ¬ (0 ≤ i ∧ i < nI 32)) : CT g yX7_at mX7_at (RM 20 1 6) (WM g adr μ) [.ref (adr 0), .int i] (PM g adr (.inr "java/lang/IndexOutOfBoundsException") (fun μ' => CR μ' α ∧ FrC μ' μ)) := by
  refine CT.of (l0 := [some (.ref (adr 0)), some (.int i)]) (by decide +kernel) rfl (Nat.le_of_ble_eq_true rfl) rfl ?_
  refine J.il1 dX7_at_0 ?_
  refine cx_X7_120 rfl (k' := 1) (n' := 6) (c_needSlotX _ hx₉) ⟨⟨by decide, by decide⟩, ⟨rfl, rfl⟩, by decide, by decide⟩ rfl dX7_at_1 (fun μ9 h9₉ => ?_)
  exact JX.out ⟨_, rfl, rfl, (by rw [h9₉]; exact ⟨hCR₉, FrC.rf⟩)⟩ rfl rfl (by decide) (by decide)

set_option maxRecDepth 100000 in
set_option maxHeartbeats 4000000 in
theorem c_at {g : GP} {adr : Nat → Nat} (μ : Mem) {α : A7} (hCR₉ : CR μ α) {i : Nat} (hi1₉ : i < 32)  : CT g yX7_at mX7_at (RM 20 1 6) (WM g adr μ) [.ref (adr 0), .int (nI i)] (PM g adr ((.inl (some (.int (nI (aAt (qS α) i)))))) (fun μ' => CR μ' α ∧ FrC μ' μ)) := by
  refine CT.of (l0 := [some (.ref (adr 0)), some (.int (nI i))]) (by decide +kernel) rfl (Nat.le_of_ble_eq_true rfl) rfl ?_
  refine J.il1 dX7_at_0 ?_
  refine cl_X7_120 rfl (k' := 0) (n' := 0) (c_needSlotOk _ (by omega)) ⟨⟨by decide, by decide⟩, ⟨rfl, rfl⟩, by decide, by decide⟩ rfl dX7_at_1 (fun μ9 h9₉ => ?_)
  rw [h9₉]; clear h9₉
  refine J.al0 dX7_at_4 ?_
  refine gf_X7_10 rfl (o2 := 1) (by decide) rfl dX7_at_5 ?_
  refine gf_X7_79 rfl (o2 := 2) (by decide) rfl dX7_at_8 ?_
  refine J.il1 dX7_at_11 ?_
  refine cl_X7_123 rfl (by decide) (k' := 0) (n' := 0) (c_stickerIn _ (by decide) hCR₉.1.1 (by omega)) ⟨⟨by decide, by decide⟩, ⟨rfl, rfl⟩, by decide, by decide⟩ rfl dX7_at_12 (fun μ9 h9₉ => ?_)
  rw [h9₉]; clear h9₉
  refine J.iret rfl (by decide) (by decide) dX7_at_15 ⟨_, rfl, ?_, ?_⟩
  · rfl
  · exact ⟨hCR₉, FrC.rf⟩

set_option maxRecDepth 100000 in
set_option maxHeartbeats 4000000 in
theorem c_whereX0 {g : GP} {adr : Nat → Nat} (μ : Mem) {α : A7} (hCR₉ : CR μ α) {i : Int32} (hx₉ : ¬ (0 ≤ i ∧ i < nI 32)) : CT g yX7_where mX7_where (RM 20 1 6) (WM g adr μ) [.ref (adr 0), .int i] (PM g adr (.inr "java/lang/IndexOutOfBoundsException") (fun μ' => CR μ' α ∧ FrC μ' μ)) := by
  refine CT.of (l0 := [some (.ref (adr 0)), some (.int i)]) (by decide +kernel) rfl (Nat.le_of_ble_eq_true rfl) rfl ?_
  refine J.il1 dX7_where_0 ?_
  refine cx_X7_120 rfl (k' := 1) (n' := 6) (c_needSlotX _ hx₉) ⟨⟨by decide, by decide⟩, ⟨rfl, rfl⟩, by decide, by decide⟩ rfl dX7_where_1 (fun μ9 h9₉ => ?_)
  exact JX.out ⟨_, rfl, rfl, (by rw [h9₉]; exact ⟨hCR₉, FrC.rf⟩)⟩ rfl rfl (by decide) (by decide)

set_option maxRecDepth 100000 in
set_option maxHeartbeats 4000000 in
theorem c_where {g : GP} {adr : Nat → Nat} (μ : Mem) {α : A7} (hCR₉ : CR μ α) {i : Nat} (hi1₉ : i < 32)  : CT g yX7_where mX7_where (RM 20 1 6) (WM g adr μ) [.ref (adr 0), .int (nI i)] (PM g adr ((.inl (some (.int (nI (pinv (aAt (qS α)) i)))))) (fun μ' => CR μ' α ∧ FrC μ' μ)) := by
  refine CT.of (l0 := [some (.ref (adr 0)), some (.int (nI i))]) (by decide +kernel) rfl (Nat.le_of_ble_eq_true rfl) rfl ?_
  refine J.il1 dX7_where_0 ?_
  refine cl_X7_120 rfl (k' := 0) (n' := 0) (c_needSlotOk _ (by omega)) ⟨⟨by decide, by decide⟩, ⟨rfl, rfl⟩, by decide, by decide⟩ rfl dX7_where_1 (fun μ9 h9₉ => ?_)
  rw [h9₉]; clear h9₉
  refine J.al0 dX7_where_4 ?_
  refine gf_X7_10 rfl (o2 := 1) (by decide) rfl dX7_where_5 ?_
  refine gf_X7_79 rfl (o2 := 2) (by decide) rfl dX7_where_8 ?_
  refine J.il1 dX7_where_11 ?_
  refine cl_X7_126 rfl (by decide) (k' := 0) (n' := 0) (c_slotOf _ (by decide) hCR₉.1.2.1 (by omega)) ⟨⟨by decide, by decide⟩, ⟨rfl, rfl⟩, by decide, by decide⟩ rfl dX7_where_12 (fun μ9 h9₉ => ?_)
  rw [h9₉]; clear h9₉
  refine J.iret rfl (by decide) (by decide) dX7_where_15 ⟨_, rfl, ?_, ?_⟩
  · rfl
  · exact ⟨hCR₉, FrC.rf⟩
