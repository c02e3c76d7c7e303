/-! ===== printed: the model: further helpers ===== -/
def ShR (μ : Mem) (i : Nat) (f : Nat → Nat) : Prop := ∀ k, k < 32 → μ 238 (192 + 32 * i + k) = nI (f k) ∧ f k < 32
theorem MS.shr {μ : Mem} {σ : AS} {i : Nat} (h : MS μ 238 0 σ) (hi₉ : i < 5) (hf₉ : aFl σ i = true) : ShR μ i (aSh σ i) := fun k hk₉ => ⟨h.rSh hi₉ hf₉ hk₉, (h.vs.2.2.2.2 i hi₉ hf₉).1 k hk₉⟩
set_option maxRecDepth 100000 in
set_option maxHeartbeats 4000000 in
theorem c_m_colourIn {g : GP} {adr : Nat → Nat} (μ : Mem) {i : Nat} {σ : AS} (hS₉ : MS μ 238 0 σ) (hi₉ : i < 32) : CT g yX8_colourIn mX8_colourIn (RM 0 0 0) (WM g adr μ) [.ref (adr 237), .int (nI i)] (PM g adr ((.inl (some (.int (nI (aCol σ (aAt σ i))))))) (fun μ' => μ' = μ)) := by
  refine CT.of (l0 := [some (.ref (adr 237)), some (.int (nI i))]) (by decide +kernel) rfl (Nat.le_of_ble_eq_true rfl) rfl ?_
  refine J.al0 dX8_colourIn_0 ?_
  refine gf_X8_9 rfl (o2 := 238) (by decide) rfl dX8_colourIn_1 ?_
  refine J.bipush dX8_colourIn_4 kb_40 ?_
  refine J.al0 dX8_colourIn_6 ?_
  refine gf_X8_9 rfl (o2 := 238) (by decide) rfl dX8_colourIn_7 ?_
  refine J.bipush dX8_colourIn_10 kb_8 ?_
  refine J.il1 dX8_colourIn_12 ?_
  refine J.iaddN dX8_colourIn_13 ?_
  have hba₉ := hS₉.vs.1.1 i (by omega)
  refine J.iald (N := 352) (x := nI (aAt σ i)) (by decide) (by decide) (by decide) (by omega) (hS₉.rAt (by omega)) dX8_colourIn_14 ?_
  refine J.iaddN dX8_colourIn_15 ?_
  have hbc₉ := hS₉.vs.2.1 (aAt σ i) (by omega)
  refine J.iald (N := 352) (x := nI (aCol σ (aAt σ i))) (by decide) (by decide) (by decide) (by omega) (hS₉.rCol (by omega)) dX8_colourIn_16 ?_
  refine J.iret rfl (by decide) (by decide) dX8_colourIn_17 ⟨_, rfl, ?_, ?_⟩
  · rfl
  · rfl

set_option maxRecDepth 100000 in
set_option maxHeartbeats 4000000 in
theorem c_m_isOne {g : GP} {adr : Nat → Nat} (μ : Mem) {r : Nat} {σ : AS} (hS₉ : MS μ 238 0 σ) (hr₉ : r < 4) : CT g yX8_isOne mX8_isOne (RM 1 0 0) (WM g adr μ) [.ref (adr 237), .int (nI r)] (PM g adr ((.inl (some (.int (if oneB (fun s => aCol σ (aAt σ s)) r = true then nI 1 else nI 0))))) (fun μ' => μ' = μ)) := by
  refine CT.of (l0 := [some (.ref (adr 237)), some (.int (nI r)), none, none]) (by decide +kernel) rfl (Nat.le_of_ble_eq_true rfl) rfl ?_
  refine J.iconst dX8_isOne_0 kI_1 ?_
  refine J.is2 dX8_isOne_1 (by decide) rfl ?_
  refine J.iconst dX8_isOne_2 kI_1 ?_
  refine J.is3 dX8_isOne_3 (by decide) rfl ?_
  have lp4_1 : ∀ (fu : Nat) (c : Nat), 7 < c + fu → c ≤ 7 → J g mX8_isOne (RM 1 0 0) (MQx g (RM 1 0 0) (PM g adr ((.inl (some (.int (if oneB (fun s => aCol σ (aAt σ s)) r = true then nI 1 else nI 0))))) (fun μ' => μ' = μ))) 0 0 (WM g adr μ) 4 [some (.ref (adr 237)), some (.int (nI r)), some (.int (if allU (fun k => decide (aCol σ (aAt σ (8 * r + (k + 1))) = aCol σ (aAt σ (8 * r)))) c = true then nI 1 else nI 0)), some (.int (nI (c + 1)))] [] := by
    intro fu
    induction fu with
    | zero => intro c h9₉ hc₉; exact absurd h9₉ (by omega)
    | succ fu ih4 =>
      intro c h9₉ hc₉
      refine J.il3 dX8_isOne_4 ?_
      refine J.bipush dX8_isOne_5 kb_8 ?_
      refine J.icmp_geN (tgt := 47) dX8_isOne_7 (by decide) (by omega) (by omega) (fun c7₉ => ?_) (fun c7₉ => ?_)
      · refine J.il2 dX8_isOne_47 ?_
        refine J.zret (ty := .boolean) rfl (by split <;> rfl) (by decide) (by decide) dX8_isOne_48 ⟨_, rfl, ?_, ?_⟩
        · obtain rfl : c = 7 := by omega
          rw [← one_eq]
        · rfl
      · refine J.il2 dX8_isOne_10 ?_
        refine J.if_eqB (tgt := 39) dX8_isOne_11 (by decide) (fun c11₉ => ?_) (fun c11₉ => ?_)
        · refine J.iconst dX8_isOne_39 kI_0 ?_
          refine J.is2 dX8_isOne_40 (by decide) rfl ?_
          refine J.ii3 (z := 1) dX8_isOne_41 (by decide) (by decide) rfl ?_
          refine J.goto (tgt := 4) dX8_isOne_44 (by decide) ?_
          have z9₉ := ih4 (c + 1) (by omega) (by omega)
          have hz₉ : ¬ allU (fun k => decide (aCol σ (aAt σ (8 * r + (k + 1))) = aCol σ (aAt σ (8 * r)))) (c + 1) = true := by rw [allU_1]; first | (rw [decide_eq_false c32₉]; simp; done) | (simp [c11₉]; done)
          rw [if_neg hz₉] at z9₉
          exact z9₉
        · refine J.al0 dX8_isOne_14 ?_
          refine J.bipush dX8_isOne_15 kb_8 ?_
          refine J.il1 dX8_isOne_17 ?_
          refine J.imulN dX8_isOne_18 ?_
          refine J.il3 dX8_isOne_19 ?_
          refine J.iaddN dX8_isOne_20 ?_
          refine cl_X8_122 rfl (by decide) (k' := 0) (n' := 0) (c_m_colourIn _ hS₉ (by omega)) ⟨⟨by decide, by decide⟩, ⟨rfl, rfl⟩, by decide, by decide⟩ rfl dX8_isOne_21 (fun μ9 h9₉ => ?_)
          rw [h9₉]; clear h9₉
          have hbc21₉ := hS₉.vs.2.1 _ (hS₉.vs.1.1 ((8 * r) + (c + 1)) (by omega))
          refine J.al0 dX8_isOne_24 ?_
          refine J.bipush dX8_isOne_25 kb_8 ?_
          refine J.il1 dX8_isOne_27 ?_
          refine J.imulN dX8_isOne_28 ?_
          refine cl_X8_122 rfl (by decide) (k' := 0) (n' := 0) (c_m_colourIn _ hS₉ (by omega)) ⟨⟨by decide, by decide⟩, ⟨rfl, rfl⟩, by decide, by decide⟩ rfl dX8_isOne_29 (fun μ9 h9₉ => ?_)
          rw [h9₉]; clear h9₉
          have hbc29₉ := hS₉.vs.2.1 _ (hS₉.vs.1.1 (8 * r) (by omega))
          refine J.icmp_neN (tgt := 39) dX8_isOne_32 (by decide) (by omega) (by omega) (fun c32₉ => ?_) (fun c32₉ => ?_)
          · refine J.iconst dX8_isOne_39 kI_0 ?_
            refine J.is2 dX8_isOne_40 (by decide) rfl ?_
            refine J.ii3 (z := 1) dX8_isOne_41 (by decide) (by decide) rfl ?_
            refine J.goto (tgt := 4) dX8_isOne_44 (by decide) ?_
            have z9₉ := ih4 (c + 1) (by omega) (by omega)
            have hz₉ : ¬ allU (fun k => decide (aCol σ (aAt σ (8 * r + (k + 1))) = aCol σ (aAt σ (8 * r)))) (c + 1) = true := by rw [allU_1]; first | (rw [decide_eq_false c32₉]; simp; done) | (simp [c11₉]; done)
            rw [if_neg hz₉] at z9₉
            exact z9₉
          · refine J.iconst dX8_isOne_35 kI_1 ?_
            refine J.goto (tgt := 40) dX8_isOne_36 (by decide) ?_
            refine J.is2 dX8_isOne_40 (by decide) rfl ?_
            refine J.ii3 (z := 1) dX8_isOne_41 (by decide) (by decide) rfl ?_
            refine J.goto (tgt := 4) dX8_isOne_44 (by decide) ?_
            have z9₉ := ih4 (c + 1) (by omega) (by omega)
            have hz₉ : allU (fun k => decide (aCol σ (aAt σ (8 * r + (k + 1))) = aCol σ (aAt σ (8 * r)))) (c + 1) = true := by rw [allU_1, c11₉, decide_eq_true c32₉]; rfl
            rw [if_pos hz₉] at z9₉
            exact z9₉
  exact lp4_1 (8) 0 (by omega) (by omega)

set_option maxRecDepth 100000 in
set_option maxHeartbeats 4000000 in
theorem c_m_doneMany {g : GP} {adr : Nat → Nat} (μ : Mem) {σ : AS} (hS₉ : MS μ 238 0 σ) : CT g yX8_doneMany mX8_doneMany (RM 2 0 0) (WM g adr μ) [.ref (adr 237)] (PM g adr ((.inl (some (.int (nI (cnt (oneB (fun s => aCol σ (aAt σ s))) 4)))))) (fun μ' => μ' = μ)) := by
  refine CT.of (l0 := [some (.ref (adr 237)), none, none]) (by decide +kernel) rfl (Nat.le_of_ble_eq_true rfl) rfl ?_
  refine J.iconst dX8_doneMany_0 kI_0 ?_
  refine J.is1 dX8_doneMany_1 (by decide) rfl ?_
  refine J.iconst dX8_doneMany_2 kI_0 ?_
  refine J.is2 dX8_doneMany_3 (by decide) rfl ?_
  have lp4_1 : ∀ (fu : Nat) (i n9 : Nat), 4 < i + fu → i ≤ 4 → n9 = cnt (oneB (fun s => aCol σ (aAt σ s))) i → J g mX8_doneMany (RM 2 0 0) (MQx g (RM 2 0 0) (PM g adr ((.inl (some (.int (nI (cnt (oneB (fun s => aCol σ (aAt σ s))) 4)))))) (fun μ' => μ' = μ))) 0 0 (WM g adr μ) 4 [some (.ref (adr 237)), some (.int (nI n9)), some (.int (nI i))] [] := by
    intro fu
    induction fu with
    | zero => intro i n9 h9₉ hi₉ hc9₉; exact absurd h9₉ (by omega)
    | succ fu ih4 =>
      intro i n9 h9₉ hi₉ hc9₉
      refine J.il2 dX8_doneMany_4 ?_
      refine J.iconst dX8_doneMany_5 kI_4 ?_
      refine J.icmp_geN (tgt := 31) dX8_doneMany_6 (by decide) (by omega) (by omega) (fun c6₉ => ?_) (fun c6₉ => ?_)
      · refine J.il1 dX8_doneMany_31 ?_
        refine J.iret rfl (by decide) (by decide) dX8_doneMany_32 ⟨_, rfl, ?_, ?_⟩
        · rw [show i = 4 by omega] at hc9₉; rw [hc9₉]
        · rfl
      · refine J.il1 dX8_doneMany_9 ?_
        refine J.al0 dX8_doneMany_10 ?_
        refine J.il2 dX8_doneMany_11 ?_
        refine cl_X8_125 rfl (by decide) (k' := 0) (n' := 0) (c_m_isOne _ hS₉ (by omega)) ⟨⟨by decide, by decide⟩, ⟨rfl, rfl⟩, by decide, by decide⟩ rfl dX8_doneMany_12 (fun μ9 h9₉ => ?_)
        rw [h9₉]; clear h9₉
        refine J.if_eqB (tgt := 22) dX8_doneMany_15 (by decide) (fun c15₉ => ?_) (fun c15₉ => ?_)
        · refine J.iconst dX8_doneMany_22 kI_0 ?_
          refine J.iaddN dX8_doneMany_23 ?_
          refine J.is1 dX8_doneMany_24 (by decide) rfl ?_
          refine J.ii2 (z := 1) dX8_doneMany_25 (by decide) (by decide) rfl ?_
          refine J.goto (tgt := 4) dX8_doneMany_28 (by decide) ?_
          exact ih4 (i + 1) (n9 + 0) (by omega) (by omega) (by rw [cnt_1, hc9₉]; first | rw [if_pos (by first | exact c15₉ | simpa using c15₉)] | rw [if_neg (by first | exact c15₉ | simpa using c15₉)])
        · refine J.iconst dX8_doneMany_18 kI_1 ?_
          refine J.goto (tgt := 23) dX8_doneMany_19 (by decide) ?_
          refine J.iaddN dX8_doneMany_23 ?_
          refine J.is1 dX8_doneMany_24 (by decide) rfl ?_
          refine J.ii2 (z := 1) dX8_doneMany_25 (by decide) (by decide) rfl ?_
          refine J.goto (tgt := 4) dX8_doneMany_28 (by decide) ?_
          exact ih4 (i + 1) (n9 + 1) (by omega) (by omega) (by rw [cnt_1, hc9₉]; first | rw [if_pos (by first | exact c15₉ | simpa using c15₉)] | rw [if_neg (by first | exact c15₉ | simpa using c15₉)])
  exact lp4_1 (5) 0 0 (by omega) (by omega) rfl

set_option maxRecDepth 100000 in
set_option maxHeartbeats 4000000 in
theorem c_m_seamMany {g : GP} {adr : Nat → Nat} (μ : Mem) {σ : AS} (hS₉ : MS μ 238 0 σ) : CT g yX8_seamMany mX8_seamMany (RM 1 0 0) (WM g adr μ) [.ref (adr 237)] (PM g adr ((.inl (some (.int (nI (sumU (seam1 (fun s => aCol σ (aAt σ s))) 32)))))) (fun μ' => μ' = μ)) := by
  refine CT.of (l0 := [some (.ref (adr 237)), none, none, none, none]) (by decide +kernel) rfl (Nat.le_of_ble_eq_true rfl) rfl ?_
  refine J.iconst dX8_seamMany_0 kI_0 ?_
  refine J.is1 dX8_seamMany_1 (by decide) rfl ?_
  refine J.iconst dX8_seamMany_2 kI_0 ?_
  refine J.is2 dX8_seamMany_3 (by decide) rfl ?_
  have lp4_1 : ∀ (fu : Nat) (i n9 : Nat), 32 < i + fu → i ≤ 32 → n9 = sumU (seam1 (fun s => aCol σ (aAt σ s))) i → J g mX8_seamMany (RM 1 0 0) (MQx g (RM 1 0 0) (PM g adr ((.inl (some (.int (nI (sumU (seam1 (fun s => aCol σ (aAt σ s))) 32)))))) (fun μ' => μ' = μ))) 0 0 (WM g adr μ) 4 [some (.ref (adr 237)), some (.int (nI n9)), some (.int (nI i)), none, none] [] := by
    intro fu
    induction fu with
    | zero => intro i n9 h9₉ hi₉ hc9₉; exact absurd h9₉ (by omega)
    | succ fu ih4 =>
      intro i n9 h9₉ hi₉ hc9₉
      have hle₉ := sumU_le (n := i) (fun k _ => seam1_le (fun s => aCol σ (aAt σ s)) k)
      refine J.il2 dX8_seamMany_4 ?_
      refine J.bipush dX8_seamMany_5 kb_32 ?_
      refine J.icmp_geN (tgt := 90) dX8_seamMany_7 (by decide) (by omega) (by omega) (fun c7₉ => ?_) (fun c7₉ => ?_)
      · refine J.il1 dX8_seamMany_90 ?_
        refine J.iret rfl (by decide) (by decide) dX8_seamMany_91 ⟨_, rfl, ?_, ?_⟩
        · rw [show i = 32 by omega] at hc9₉; rw [hc9₉]
        · rfl
      · refine J.il2 dX8_seamMany_10 ?_
        refine J.bipush dX8_seamMany_11 kb_8 ?_
        refine J.irem dX8_seamMany_13 (by omega) (by omega) (by omega) ?_
        refine J.bipush dX8_seamMany_14 kb_7 ?_
        refine J.icmp_neN (tgt := 28) dX8_seamMany_16 (by decide) (by omega) (by omega) (fun c16₉ => ?_) (fun c16₉ => ?_)
        · refine J.il2 dX8_seamMany_28 ?_
          refine J.iconst dX8_seamMany_29 kI_1 ?_
          refine J.iaddN dX8_seamMany_30 ?_
          refine J.is3 dX8_seamMany_31 (by decide) rfl ?_
          refine J.il2 dX8_seamMany_32 ?_
          refine J.bipush dX8_seamMany_33 kb_8 ?_
          refine J.iaddN dX8_seamMany_35 ?_
          refine J.bipush dX8_seamMany_36 kb_32 ?_
          refine J.irem dX8_seamMany_38 (by omega) (by omega) (by omega) ?_
          refine J.is4 dX8_seamMany_39 (by decide) rfl ?_
          refine J.il1 dX8_seamMany_41 ?_
          refine J.al0 dX8_seamMany_42 ?_
          refine J.il2 dX8_seamMany_43 ?_
          refine cl_X8_122 rfl (by decide) (k' := 0) (n' := 0) (c_m_colourIn _ hS₉ (by omega)) ⟨⟨by decide, by decide⟩, ⟨rfl, rfl⟩, by decide, by decide⟩ rfl dX8_seamMany_44 (fun μ9 h9₉ => ?_)
          rw [h9₉]; clear h9₉
          have hbc44₉ := hS₉.vs.2.1 _ (hS₉.vs.1.1 i (by omega))
          refine J.al0 dX8_seamMany_47 ?_
          refine J.il3 dX8_seamMany_48 ?_
          refine cl_X8_122 rfl (by decide) (k' := 0) (n' := 0) (c_m_colourIn _ hS₉ (by omega)) ⟨⟨by decide, by decide⟩, ⟨rfl, rfl⟩, by decide, by decide⟩ rfl dX8_seamMany_49 (fun μ9 h9₉ => ?_)
          rw [h9₉]; clear h9₉
          have hbc49₉ := hS₉.vs.2.1 _ (hS₉.vs.1.1 (i + 1) (by omega))
          refine J.icmp_neN (tgt := 59) dX8_seamMany_52 (by decide) (by omega) (by omega) (fun c52₉ => ?_) (fun c52₉ => ?_)
          · refine J.iconst dX8_seamMany_59 kI_1 ?_
            refine J.iaddN dX8_seamMany_60 ?_
            refine J.is1 dX8_seamMany_61 (by decide) rfl ?_
            refine J.il1 dX8_seamMany_62 ?_
            refine J.al0 dX8_seamMany_63 ?_
            refine J.il2 dX8_seamMany_64 ?_
            refine cl_X8_122 rfl (by decide) (k' := 0) (n' := 0) (c_m_colourIn _ hS₉ (by omega)) ⟨⟨by decide, by decide⟩, ⟨rfl, rfl⟩, by decide, by decide⟩ rfl dX8_seamMany_65 (fun μ9 h9₉ => ?_)
            rw [h9₉]; clear h9₉
            have hbc65₉ := hS₉.vs.2.1 _ (hS₉.vs.1.1 i (by omega))
            refine J.al0 dX8_seamMany_68 ?_
            refine J.il4 dX8_seamMany_69 ?_
            refine cl_X8_122 rfl (by decide) (k' := 0) (n' := 0) (c_m_colourIn _ hS₉ (by omega)) ⟨⟨by decide, by decide⟩, ⟨rfl, rfl⟩, by decide, by decide⟩ rfl dX8_seamMany_71 (fun μ9 h9₉ => ?_)
            rw [h9₉]; clear h9₉
            have hbc71₉ := hS₉.vs.2.1 _ (hS₉.vs.1.1 ((i + 8) % 32) (by omega))
            refine J.icmp_neN (tgt := 81) dX8_seamMany_74 (by decide) (by omega) (by omega) (fun c74₉ => ?_) (fun c74₉ => ?_)
            · refine J.iconst dX8_seamMany_81 kI_1 ?_
              refine J.iaddN dX8_seamMany_82 ?_
              refine J.is1 dX8_seamMany_83 (by decide) rfl ?_
              refine J.ii2 (z := 1) dX8_seamMany_84 (by decide) (by decide) rfl ?_
              refine J.goto (tgt := 4) dX8_seamMany_87 (by decide) ?_
              have hR₉ : rightOf i = i + 1 := by rw [seam_right (by omega)]; first | rw [if_pos c16₉] | rw [if_neg c16₉]
              have hsv₉ : seam1 (fun s => aCol σ (aAt σ s)) i = 2 := by first | exact seam_tt (by show aCol σ (aAt σ i) = aCol σ (aAt σ (rightOf i)); rw [hR₉]; exact c52₉) c74₉ | exact seam_tf (by show aCol σ (aAt σ i) = aCol σ (aAt σ (rightOf i)); rw [hR₉]; exact c52₉) c74₉ | exact seam_ft (by show ¬ aCol σ (aAt σ i) = aCol σ (aAt σ (rightOf i)); rw [hR₉]; exact c52₉) c74₉ | exact seam_ff (by show ¬ aCol σ (aAt σ i) = aCol σ (aAt σ (rightOf i)); rw [hR₉]; exact c52₉) c74₉
              exact J.subR (ih4 (i + 1) ((n9 + 1) + 1) (by omega) (by omega) (by rw [sumU_1, hsv₉]; omega)) ⟨rfl, ⟨rfl, ⟨rfl, trivial⟩⟩⟩
            · refine J.iconst dX8_seamMany_77 kI_0 ?_
              refine J.goto (tgt := 82) dX8_seamMany_78 (by decide) ?_
              refine J.iaddN dX8_seamMany_82 ?_
              refine J.is1 dX8_seamMany_83 (by decide) rfl ?_
              refine J.ii2 (z := 1) dX8_seamMany_84 (by decide) (by decide) rfl ?_
              refine J.goto (tgt := 4) dX8_seamMany_87 (by decide) ?_
              have hR₉ : rightOf i = i + 1 := by rw [seam_right (by omega)]; first | rw [if_pos c16₉] | rw [if_neg c16₉]
              have hsv₉ : seam1 (fun s => aCol σ (aAt σ s)) i = 1 := by first | exact seam_tt (by show aCol σ (aAt σ i) = aCol σ (aAt σ (rightOf i)); rw [hR₉]; exact c52₉) c74₉ | exact seam_tf (by show aCol σ (aAt σ i) = aCol σ (aAt σ (rightOf i)); rw [hR₉]; exact c52₉) c74₉ | exact seam_ft (by show ¬ aCol σ (aAt σ i) = aCol σ (aAt σ (rightOf i)); rw [hR₉]; exact c52₉) c74₉ | exact seam_ff (by show ¬ aCol σ (aAt σ i) = aCol σ (aAt σ (rightOf i)); rw [hR₉]; exact c52₉) c74₉
              exact J.subR (ih4 (i + 1) ((n9 + 1) + 0) (by omega) (by omega) (by rw [sumU_1, hsv₉]; omega)) ⟨rfl, ⟨rfl, ⟨rfl, trivial⟩⟩⟩
          · refine J.iconst dX8_seamMany_55 kI_0 ?_
            refine J.goto (tgt := 60) dX8_seamMany_56 (by decide) ?_
            refine J.iaddN dX8_seamMany_60 ?_
            refine J.is1 dX8_seamMany_61 (by decide) rfl ?_
            refine J.il1 dX8_seamMany_62 ?_
            refine J.al0 dX8_seamMany_63 ?_
            refine J.il2 dX8_seamMany_64 ?_
            refine cl_X8_122 rfl (by decide) (k' := 0) (n' := 0) (c_m_colourIn _ hS₉ (by omega)) ⟨⟨by decide, by decide⟩, ⟨rfl, rfl⟩, by decide, by decide⟩ rfl dX8_seamMany_65 (fun μ9 h9₉ => ?_)
            rw [h9₉]; clear h9₉
            have hbc65₉ := hS₉.vs.2.1 _ (hS₉.vs.1.1 i (by omega))
            refine J.al0 dX8_seamMany_68 ?_
            refine J.il4 dX8_seamMany_69 ?_
            refine cl_X8_122 rfl (by decide) (k' := 0) (n' := 0) (c_m_colourIn _ hS₉ (by omega)) ⟨⟨by decide, by decide⟩, ⟨rfl, rfl⟩, by decide, by decide⟩ rfl dX8_seamMany_71 (fun μ9 h9₉ => ?_)
            rw [h9₉]; clear h9₉
            have hbc71₉ := hS₉.vs.2.1 _ (hS₉.vs.1.1 ((i + 8) % 32) (by omega))
            refine J.icmp_neN (tgt := 81) dX8_seamMany_74 (by decide) (by omega) (by omega) (fun c74₉ => ?_) (fun c74₉ => ?_)
            · refine J.iconst dX8_seamMany_81 kI_1 ?_
              refine J.iaddN dX8_seamMany_82 ?_
              refine J.is1 dX8_seamMany_83 (by decide) rfl ?_
              refine J.ii2 (z := 1) dX8_seamMany_84 (by decide) (by decide) rfl ?_
              refine J.goto (tgt := 4) dX8_seamMany_87 (by decide) ?_
              have hR₉ : rightOf i = i + 1 := by rw [seam_right (by omega)]; first | rw [if_pos c16₉] | rw [if_neg c16₉]
              have hsv₉ : seam1 (fun s => aCol σ (aAt σ s)) i = 1 := by first | exact seam_tt (by show aCol σ (aAt σ i) = aCol σ (aAt σ (rightOf i)); rw [hR₉]; exact c52₉) c74₉ | exact seam_tf (by show aCol σ (aAt σ i) = aCol σ (aAt σ (rightOf i)); rw [hR₉]; exact c52₉) c74₉ | exact seam_ft (by show ¬ aCol σ (aAt σ i) = aCol σ (aAt σ (rightOf i)); rw [hR₉]; exact c52₉) c74₉ | exact seam_ff (by show ¬ aCol σ (aAt σ i) = aCol σ (aAt σ (rightOf i)); rw [hR₉]; exact c52₉) c74₉
              exact J.subR (ih4 (i + 1) ((n9 + 0) + 1) (by omega) (by omega) (by rw [sumU_1, hsv₉]; omega)) ⟨rfl, ⟨rfl, ⟨rfl, trivial⟩⟩⟩
            · refine J.iconst dX8_seamMany_77 kI_0 ?_
              refine J.goto (tgt := 82) dX8_seamMany_78 (by decide) ?_
              refine J.iaddN dX8_seamMany_82 ?_
              refine J.is1 dX8_seamMany_83 (by decide) rfl ?_
              refine J.ii2 (z := 1) dX8_seamMany_84 (by decide) (by decide) rfl ?_
              refine J.goto (tgt := 4) dX8_seamMany_87 (by decide) ?_
              have hR₉ : rightOf i = i + 1 := by rw [seam_right (by omega)]; first | rw [if_pos c16₉] | rw [if_neg c16₉]
              have hsv₉ : seam1 (fun s => aCol σ (aAt σ s)) i = 0 := by first | exact seam_tt (by show aCol σ (aAt σ i) = aCol σ (aAt σ (rightOf i)); rw [hR₉]; exact c52₉) c74₉ | exact seam_tf (by show aCol σ (aAt σ i) = aCol σ (aAt σ (rightOf i)); rw [hR₉]; exact c52₉) c74₉ | exact seam_ft (by show ¬ aCol σ (aAt σ i) = aCol σ (aAt σ (rightOf i)); rw [hR₉]; exact c52₉) c74₉ | exact seam_ff (by show ¬ aCol σ (aAt σ i) = aCol σ (aAt σ (rightOf i)); rw [hR₉]; exact c52₉) c74₉
              exact J.subR (ih4 (i + 1) ((n9 + 0) + 0) (by omega) (by omega) (by rw [sumU_1, hsv₉]; omega)) ⟨rfl, ⟨rfl, ⟨rfl, trivial⟩⟩⟩
        · refine J.il2 dX8_seamMany_19 ?_
          refine J.bipush dX8_seamMany_20 kb_8 ?_
          refine J.isub dX8_seamMany_22 rfl ?_
          refine J.iconst dX8_seamMany_23 kI_1 ?_
          refine J.iadd dX8_seamMany_24 rfl ?_
          rw [sub8 (by omega) (by omega)]
          refine J.goto (tgt := 31) dX8_seamMany_25 (by decide) ?_
          refine J.is3 dX8_seamMany_31 (by decide) rfl ?_
          refine J.il2 dX8_seamMany_32 ?_
          refine J.bipush dX8_seamMany_33 kb_8 ?_
          refine J.iaddN dX8_seamMany_35 ?_
          refine J.bipush dX8_seamMany_36 kb_32 ?_
          refine J.irem dX8_seamMany_38 (by omega) (by omega) (by omega) ?_
          refine J.is4 dX8_seamMany_39 (by decide) rfl ?_
          refine J.il1 dX8_seamMany_41 ?_
          refine J.al0 dX8_seamMany_42 ?_
          refine J.il2 dX8_seamMany_43 ?_
          refine cl_X8_122 rfl (by decide) (k' := 0) (n' := 0) (c_m_colourIn _ hS₉ (by omega)) ⟨⟨by decide, by decide⟩, ⟨rfl, rfl⟩, by decide, by decide⟩ rfl dX8_seamMany_44 (fun μ9 h9₉ => ?_)
          rw [h9₉]; clear h9₉
          have hbc44₉ := hS₉.vs.2.1 _ (hS₉.vs.1.1 i (by omega))
          refine J.al0 dX8_seamMany_47 ?_
          refine J.il3 dX8_seamMany_48 ?_
          refine cl_X8_122 rfl (by decide) (k' := 0) (n' := 0) (c_m_colourIn _ hS₉ (by omega)) ⟨⟨by decide, by decide⟩, ⟨rfl, rfl⟩, by decide, by decide⟩ rfl dX8_seamMany_49 (fun μ9 h9₉ => ?_)
          rw [h9₉]; clear h9₉
          have hbc49₉ := hS₉.vs.2.1 _ (hS₉.vs.1.1 (i - 7) (by omega))
          refine J.icmp_neN (tgt := 59) dX8_seamMany_52 (by decide) (by omega) (by omega) (fun c52₉ => ?_) (fun c52₉ => ?_)
          · refine J.iconst dX8_seamMany_59 kI_1 ?_
            refine J.iaddN dX8_seamMany_60 ?_
            refine J.is1 dX8_seamMany_61 (by decide) rfl ?_
            refine J.il1 dX8_seamMany_62 ?_
            refine J.al0 dX8_seamMany_63 ?_
            refine J.il2 dX8_seamMany_64 ?_
            refine cl_X8_122 rfl (by decide) (k' := 0) (n' := 0) (c_m_colourIn _ hS₉ (by omega)) ⟨⟨by decide, by decide⟩, ⟨rfl, rfl⟩, by decide, by decide⟩ rfl dX8_seamMany_65 (fun μ9 h9₉ => ?_)
            rw [h9₉]; clear h9₉
            have hbc65₉ := hS₉.vs.2.1 _ (hS₉.vs.1.1 i (by omega))
            refine J.al0 dX8_seamMany_68 ?_
            refine J.il4 dX8_seamMany_69 ?_
            refine cl_X8_122 rfl (by decide) (k' := 0) (n' := 0) (c_m_colourIn _ hS₉ (by omega)) ⟨⟨by decide, by decide⟩, ⟨rfl, rfl⟩, by decide, by decide⟩ rfl dX8_seamMany_71 (fun μ9 h9₉ => ?_)
            rw [h9₉]; clear h9₉
            have hbc71₉ := hS₉.vs.2.1 _ (hS₉.vs.1.1 ((i + 8) % 32) (by omega))
            refine J.icmp_neN (tgt := 81) dX8_seamMany_74 (by decide) (by omega) (by omega) (fun c74₉ => ?_) (fun c74₉ => ?_)
            · refine J.iconst dX8_seamMany_81 kI_1 ?_
              refine J.iaddN dX8_seamMany_82 ?_
              refine J.is1 dX8_seamMany_83 (by decide) rfl ?_
              refine J.ii2 (z := 1) dX8_seamMany_84 (by decide) (by decide) rfl ?_
              refine J.goto (tgt := 4) dX8_seamMany_87 (by decide) ?_
              have hR₉ : rightOf i = i - 7 := by rw [seam_right (by omega)]; first | rw [if_pos c16₉] | rw [if_neg c16₉]
              have hsv₉ : seam1 (fun s => aCol σ (aAt σ s)) i = 2 := by first | exact seam_tt (by show aCol σ (aAt σ i) = aCol σ (aAt σ (rightOf i)); rw [hR₉]; exact c52₉) c74₉ | exact seam_tf (by show aCol σ (aAt σ i) = aCol σ (aAt σ (rightOf i)); rw [hR₉]; exact c52₉) c74₉ | exact seam_ft (by show ¬ aCol σ (aAt σ i) = aCol σ (aAt σ (rightOf i)); rw [hR₉]; exact c52₉) c74₉ | exact seam_ff (by show ¬ aCol σ (aAt σ i) = aCol σ (aAt σ (rightOf i)); rw [hR₉]; exact c52₉) c74₉
              exact J.subR (ih4 (i + 1) ((n9 + 1) + 1) (by omega) (by omega) (by rw [sumU_1, hsv₉]; omega)) ⟨rfl, ⟨rfl, ⟨rfl, trivial⟩⟩⟩
            · refine J.iconst dX8_seamMany_77 kI_0 ?_
              refine J.goto (tgt := 82) dX8_seamMany_78 (by decide) ?_
              refine J.iaddN dX8_seamMany_82 ?_
              refine J.is1 dX8_seamMany_83 (by decide) rfl ?_
              refine J.ii2 (z := 1) dX8_seamMany_84 (by decide) (by decide) rfl ?_
              refine J.goto (tgt := 4) dX8_seamMany_87 (by decide) ?_
              have hR₉ : rightOf i = i - 7 := by rw [seam_right (by omega)]; first | rw [if_pos c16₉] | rw [if_neg c16₉]
              have hsv₉ : seam1 (fun s => aCol σ (aAt σ s)) i = 1 := by first | exact seam_tt (by show aCol σ (aAt σ i) = aCol σ (aAt σ (rightOf i)); rw [hR₉]; exact c52₉) c74₉ | exact seam_tf (by show aCol σ (aAt σ i) = aCol σ (aAt σ (rightOf i)); rw [hR₉]; exact c52₉) c74₉ | exact seam_ft (by show ¬ aCol σ (aAt σ i) = aCol σ (aAt σ (rightOf i)); rw [hR₉]; exact c52₉) c74₉ | exact seam_ff (by show ¬ aCol σ (aAt σ i) = aCol σ (aAt σ (rightOf i)); rw [hR₉]; exact c52₉) c74₉
              exact J.subR (ih4 (i + 1) ((n9 + 1) + 0) (by omega) (by omega) (by rw [sumU_1, hsv₉]; omega)) ⟨rfl, ⟨rfl, ⟨rfl, trivial⟩⟩⟩
          · refine J.iconst dX8_seamMany_55 kI_0 ?_
            refine J.goto (tgt := 60) dX8_seamMany_56 (by decide) ?_
            refine J.iaddN dX8_seamMany_60 ?_
            refine J.is1 dX8_seamMany_61 (by decide) rfl ?_
            refine J.il1 dX8_seamMany_62 ?_
            refine J.al0 dX8_seamMany_63 ?_
            refine J.il2 dX8_seamMany_64 ?_
            refine cl_X8_122 rfl (by decide) (k' := 0) (n' := 0) (c_m_colourIn _ hS₉ (by omega)) ⟨⟨by decide, by decide⟩, ⟨rfl, rfl⟩, by decide, by decide⟩ rfl dX8_seamMany_65 (fun μ9 h9₉ => ?_)
            rw [h9₉]; clear h9₉
            have hbc65₉ := hS₉.vs.2.1 _ (hS₉.vs.1.1 i (by omega))
            refine J.al0 dX8_seamMany_68 ?_
            refine J.il4 dX8_seamMany_69 ?_
            refine cl_X8_122 rfl (by decide) (k' := 0) (n' := 0) (c_m_colourIn _ hS₉ (by omega)) ⟨⟨by decide, by decide⟩, ⟨rfl, rfl⟩, by decide, by decide⟩ rfl dX8_seamMany_71 (fun μ9 h9₉ => ?_)
            rw [h9₉]; clear h9₉
            have hbc71₉ := hS₉.vs.2.1 _ (hS₉.vs.1.1 ((i + 8) % 32) (by omega))
            refine J.icmp_neN (tgt := 81) dX8_seamMany_74 (by decide) (by omega) (by omega) (fun c74₉ => ?_) (fun c74₉ => ?_)
            · refine J.iconst dX8_seamMany_81 kI_1 ?_
              refine J.iaddN dX8_seamMany_82 ?_
              refine J.is1 dX8_seamMany_83 (by decide) rfl ?_
              refine J.ii2 (z := 1) dX8_seamMany_84 (by decide) (by decide) rfl ?_
              refine J.goto (tgt := 4) dX8_seamMany_87 (by decide) ?_
              have hR₉ : rightOf i = i - 7 := by rw [seam_right (by omega)]; first | rw [if_pos c16₉] | rw [if_neg c16₉]
              have hsv₉ : seam1 (fun s => aCol σ (aAt σ s)) i = 1 := by first | exact seam_tt (by show aCol σ (aAt σ i) = aCol σ (aAt σ (rightOf i)); rw [hR₉]; exact c52₉) c74₉ | exact seam_tf (by show aCol σ (aAt σ i) = aCol σ (aAt σ (rightOf i)); rw [hR₉]; exact c52₉) c74₉ | exact seam_ft (by show ¬ aCol σ (aAt σ i) = aCol σ (aAt σ (rightOf i)); rw [hR₉]; exact c52₉) c74₉ | exact seam_ff (by show ¬ aCol σ (aAt σ i) = aCol σ (aAt σ (rightOf i)); rw [hR₉]; exact c52₉) c74₉
              exact J.subR (ih4 (i + 1) ((n9 + 0) + 1) (by omega) (by omega) (by rw [sumU_1, hsv₉]; omega)) ⟨rfl, ⟨rfl, ⟨rfl, trivial⟩⟩⟩
            · refine J.iconst dX8_seamMany_77 kI_0 ?_
              refine J.goto (tgt := 82) dX8_seamMany_78 (by decide) ?_
              refine J.iaddN dX8_seamMany_82 ?_
              refine J.is1 dX8_seamMany_83 (by decide) rfl ?_
              refine J.ii2 (z := 1) dX8_seamMany_84 (by decide) (by decide) rfl ?_
              refine J.goto (tgt := 4) dX8_seamMany_87 (by decide) ?_
              have hR₉ : rightOf i = i - 7 := by rw [seam_right (by omega)]; first | rw [if_pos c16₉] | rw [if_neg c16₉]
              have hsv₉ : seam1 (fun s => aCol σ (aAt σ s)) i = 0 := by first | exact seam_tt (by show aCol σ (aAt σ i) = aCol σ (aAt σ (rightOf i)); rw [hR₉]; exact c52₉) c74₉ | exact seam_tf (by show aCol σ (aAt σ i) = aCol σ (aAt σ (rightOf i)); rw [hR₉]; exact c52₉) c74₉ | exact seam_ft (by show ¬ aCol σ (aAt σ i) = aCol σ (aAt σ (rightOf i)); rw [hR₉]; exact c52₉) c74₉ | exact seam_ff (by show ¬ aCol σ (aAt σ i) = aCol σ (aAt σ (rightOf i)); rw [hR₉]; exact c52₉) c74₉
              exact J.subR (ih4 (i + 1) ((n9 + 0) + 0) (by omega) (by omega) (by rw [sumU_1, hsv₉]; omega)) ⟨rfl, ⟨rfl, ⟨rfl, trivial⟩⟩⟩
  exact lp4_1 (33) 0 0 (by omega) (by omega) rfl

set_option maxRecDepth 100000 in
set_option maxHeartbeats 4000000 in
theorem c_m_apart {g : GP} {adr : Nat → Nat} (μ : Mem) {a b : Nat} (ha₉ : a < 32) (hb₉ : b < 32) : CT g yX8_apart mX8_apart (RM 0 0 0) (WM g adr μ) [.int (nI a), .int (nI b)] (PM g adr ((.inl (some (.int (nI (apart a b)))))) (fun μ' => μ' = μ)) := by
  refine CT.of (l0 := [some (.int (nI a)), some (.int (nI b)), none]) (by decide +kernel) rfl (Nat.le_of_ble_eq_true rfl) rfl ?_
  refine J.il0 dX8_apart_0 ?_
  refine J.bipush dX8_apart_1 kb_8 ?_
  refine J.idiv dX8_apart_3 (by omega) (by omega) (by omega) ?_
  refine J.il1 dX8_apart_4 ?_
  refine J.bipush dX8_apart_5 kb_8 ?_
  refine J.idiv dX8_apart_7 (by omega) (by omega) (by omega) ?_
  refine J.icmp_eqN (tgt := 22) dX8_apart_8 (by decide) (by omega) (by omega) (fun c8₉ => ?_) (fun c8₉ => ?_)
  · refine J.iconst dX8_apart_22 kI_1 ?_
    refine J.goto (tgt := 27) dX8_apart_23 (by decide) ?_
    refine J.is2 dX8_apart_27 (by decide) rfl ?_
    refine J.il0 dX8_apart_28 ?_
    refine J.il1 dX8_apart_29 ?_
    refine J.icmp_neN (tgt := 37) dX8_apart_30 (by decide) (by omega) (by omega) (fun c30₉ => ?_) (fun c30₉ => ?_)
    · refine J.il2 dX8_apart_37 ?_
      refine J.if_eqN (tgt := 45) dX8_apart_38 (by decide) (by omega) (fun c38₉ => absurd c38₉ (by first | omega | (simp only [not_true_eq_false, not_false_eq_true]; done) | (simp; done))) (fun c38₉ => ?_)
      refine J.iconst dX8_apart_41 kI_1 ?_
      refine J.goto (tgt := 46) dX8_apart_42 (by decide) ?_
      refine J.iret rfl (by decide) (by decide) dX8_apart_46 ⟨_, rfl, ?_, ?_⟩
      · exact congrArg (fun v => Sum.inl (some (Value.int (nI v)))) (apart_eq (v := 1) ha₉ hb₉ (by omega))
      · rfl
    · refine J.iconst dX8_apart_33 kI_0 ?_
      refine J.goto (tgt := 46) dX8_apart_34 (by decide) ?_
      refine J.iret rfl (by decide) (by decide) dX8_apart_46 ⟨_, rfl, ?_, ?_⟩
      · exact congrArg (fun v => Sum.inl (some (Value.int (nI v)))) (apart_eq (v := 0) ha₉ hb₉ (by omega))
      · rfl
  · refine J.il0 dX8_apart_11 ?_
    refine J.bipush dX8_apart_12 kb_8 ?_
    refine J.irem dX8_apart_14 (by omega) (by omega) (by omega) ?_
    refine J.il1 dX8_apart_15 ?_
    refine J.bipush dX8_apart_16 kb_8 ?_
    refine J.irem dX8_apart_18 (by omega) (by omega) (by omega) ?_
    refine J.icmp_neN (tgt := 26) dX8_apart_19 (by decide) (by omega) (by omega) (fun c19₉ => ?_) (fun c19₉ => ?_)
    · refine J.iconst dX8_apart_26 kI_0 ?_
      refine J.is2 dX8_apart_27 (by decide) rfl ?_
      refine J.il0 dX8_apart_28 ?_
      refine J.il1 dX8_apart_29 ?_
      refine J.icmp_neN (tgt := 37) dX8_apart_30 (by decide) (by omega) (by omega) (fun c30₉ => ?_) (fun c30₉ => ?_)
      · refine J.il2 dX8_apart_37 ?_
        refine J.if_eqN (tgt := 45) dX8_apart_38 (by decide) (by omega) (fun c38₉ => ?_) (fun c38₉ => absurd c38₉ (by first | omega | (simp only [not_true_eq_false, not_false_eq_true]; done) | (simp; done)))
        refine J.iconst dX8_apart_45 kI_2 ?_
        refine J.iret rfl (by decide) (by decide) dX8_apart_46 ⟨_, rfl, ?_, ?_⟩
        · exact congrArg (fun v => Sum.inl (some (Value.int (nI v)))) (apart_eq (v := 2) ha₉ hb₉ (by omega))
        · rfl
      · refine J.iconst dX8_apart_33 kI_0 ?_
        refine J.goto (tgt := 46) dX8_apart_34 (by decide) ?_
        refine J.iret rfl (by decide) (by decide) dX8_apart_46 ⟨_, rfl, ?_, ?_⟩
        · exact congrArg (fun v => Sum.inl (some (Value.int (nI v)))) (apart_eq (v := 0) ha₉ hb₉ (by omega))
        · rfl
    · refine J.iconst dX8_apart_22 kI_1 ?_
      refine J.goto (tgt := 27) dX8_apart_23 (by decide) ?_
      refine J.is2 dX8_apart_27 (by decide) rfl ?_
      refine J.il0 dX8_apart_28 ?_
      refine J.il1 dX8_apart_29 ?_
      refine J.icmp_neN (tgt := 37) dX8_apart_30 (by decide) (by omega) (by omega) (fun c30₉ => ?_) (fun c30₉ => ?_)
      · refine J.il2 dX8_apart_37 ?_
        refine J.if_eqN (tgt := 45) dX8_apart_38 (by decide) (by omega) (fun c38₉ => absurd c38₉ (by first | omega | (simp only [not_true_eq_false, not_false_eq_true]; done) | (simp; done))) (fun c38₉ => ?_)
        refine J.iconst dX8_apart_41 kI_1 ?_
        refine J.goto (tgt := 46) dX8_apart_42 (by decide) ?_
        refine J.iret rfl (by decide) (by decide) dX8_apart_46 ⟨_, rfl, ?_, ?_⟩
        · exact congrArg (fun v => Sum.inl (some (Value.int (nI v)))) (apart_eq (v := 1) ha₉ hb₉ (by omega))
        · rfl
      · refine J.iconst dX8_apart_33 kI_0 ?_
        refine J.goto (tgt := 46) dX8_apart_34 (by decide) ?_
        refine J.iret rfl (by decide) (by decide) dX8_apart_46 ⟨_, rfl, ?_, ?_⟩
        · exact congrArg (fun v => Sum.inl (some (Value.int (nI v)))) (apart_eq (v := 0) ha₉ hb₉ (by omega))
        · rfl

set_option maxRecDepth 100000 in
set_option maxHeartbeats 4000000 in
theorem c_m_slotOf {g : GP} {adr : Nat → Nat} (μ : Mem) {i : Nat} {σ : AS} (hS₉ : MS μ 238 0 σ) (hi₉ : i < 32) : CT g yX8_slotOf mX8_slotOf (RM 0 0 0) (WM g adr μ) [.ref (adr 237), .int (nI i)] (PM g adr ((.inl (some (.int (nI (pinv (aAt σ) i)))))) (fun μ' => μ' = μ)) := by
  refine CT.of (l0 := [some (.ref (adr 237)), some (.int (nI i)), none]) (by decide +kernel) rfl (Nat.le_of_ble_eq_true rfl) rfl ?_
  have hp₉ := hS₉.vs.1.inv1 hi₉
  refine J.iconst dX8_slotOf_0 kI_0 ?_
  refine J.is2 dX8_slotOf_1 (by decide) rfl ?_
  have lp2_1 : ∀ (fu : Nat) (m : Nat), 32 < m + fu → m ≤ pinv (aAt σ) i → J g mX8_slotOf (RM 0 0 0) (MQx g (RM 0 0 0) (PM g adr ((.inl (some (.int (nI (pinv (aAt σ) i)))))) (fun μ' => μ' = μ))) 0 0 (WM g adr μ) 2 [some (.ref (adr 237)), some (.int (nI i)), some (.int (nI m))] [] := by
    intro fu
    induction fu with
    | zero => intro m h9₉ hm₉; exact absurd h9₉ (by omega)
    | succ fu ih2 =>
      intro m h9₉ hm₉
      refine J.al0 dX8_slotOf_2 ?_
      refine gf_X8_9 rfl (o2 := 238) (by decide) rfl dX8_slotOf_3 ?_
      refine J.bipush dX8_slotOf_6 kb_8 ?_
      refine J.il2 dX8_slotOf_8 ?_
      refine J.iaddN dX8_slotOf_9 ?_
      have hba₉ := hS₉.vs.1.1 m (by omega)
      refine J.iald (N := 352) (x := nI (aAt σ m)) (by decide) (by decide) (by decide) (by omega) (hS₉.rAt (by omega)) dX8_slotOf_10 ?_
      refine J.il1 dX8_slotOf_11 ?_
      refine J.icmp_eqN (tgt := 21) dX8_slotOf_12 (by decide) (by omega) (by omega) (fun c12₉ => ?_) (fun c12₉ => ?_)
      · refine J.il2 dX8_slotOf_21 ?_
        refine J.iret rfl (by decide) (by decide) dX8_slotOf_22 ⟨_, rfl, ?_, ?_⟩
        · rw [← c12₉, hS₉.vs.1.inv2 (by omega)]
        · rfl
      · refine J.ii2 (z := 1) dX8_slotOf_15 (by decide) (by decide) rfl ?_
        refine J.goto (tgt := 2) dX8_slotOf_18 (by decide) ?_
        have hne₉ : m ≠ pinv (aAt σ) i := fun q => c12₉ (by rw [q]; exact hp₉.2)
        exact ih2 (m + 1) (by omega) (by omega)
  exact lp2_1 (33) 0 (by omega) (by omega)
