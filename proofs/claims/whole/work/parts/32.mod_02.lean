/-! ===== printed: the model: further helpers ===== -/
set_option maxRecDepth 100000 in
set_option maxHeartbeats 4000000 in
theorem c_m_isEmptyT {g : GP} {adr : Nat → Nat} (μ : Mem) {i : Nat} {σ : AS} (hS₉ : MS μ 238 0 σ) (hi₉ : i < 5) (hf₉ : ¬ aFl σ i = true) : CT g yX8_isEmpty mX8_isEmpty (RM 0 0 0) (WM g adr μ) [.ref (adr 237), .int (nI i)] (PM g adr ((.inl (some (.int (nI 1))))) (fun μ' => μ' = μ)) := by
  refine CT.of (l0 := [some (.ref (adr 237)), some (.int (nI i))]) (by decide +kernel) rfl (Nat.le_of_ble_eq_true rfl) rfl ?_
  refine J.al0 dX8_isEmpty_0 ?_
  refine gf_X8_9 rfl (o2 := 238) (by decide) rfl dX8_isEmpty_1 ?_
  refine J.iconst dX8_isEmpty_4 kI_3 ?_
  refine J.il1 dX8_isEmpty_5 ?_
  refine J.iaddN dX8_isEmpty_6 ?_
  refine J.iald (N := 352) (x := nI 0) (by decide) (by decide) (by decide) (by omega) (by have := hS₉.rFl hi₉; rw [if_neg hf₉] at this; exact this) dX8_isEmpty_7 ?_
  refine J.if_neN (tgt := 15) dX8_isEmpty_8 (by decide) (by omega) (fun c8₉ => absurd c8₉ (by first | omega | (simp only [not_true_eq_false, not_false_eq_true]; done) | (simp; done))) (fun c8₉ => ?_)
  refine J.iconst dX8_isEmpty_11 kI_1 ?_
  refine J.goto (tgt := 16) dX8_isEmpty_12 (by decide) ?_
  refine J.zret (ty := .boolean) rfl (by decide) (by decide) (by decide) dX8_isEmpty_16 ⟨_, rfl, ?_, ?_⟩
  · rfl
  · rfl

set_option maxRecDepth 100000 in
set_option maxHeartbeats 4000000 in
theorem c_m_isEmptyF {g : GP} {adr : Nat → Nat} (μ : Mem) {i : Nat} {σ : AS} (hS₉ : MS μ 238 0 σ) (hi₉ : i < 5) (hf₉ : aFl σ i = true) : CT g yX8_isEmpty mX8_isEmpty (RM 0 0 0) (WM g adr μ) [.ref (adr 237), .int (nI i)] (PM g adr ((.inl (some (.int (nI 0))))) (fun μ' => μ' = μ)) := by
  refine CT.of (l0 := [some (.ref (adr 237)), some (.int (nI i))]) (by decide +kernel) rfl (Nat.le_of_ble_eq_true rfl) rfl ?_
  refine J.al0 dX8_isEmpty_0 ?_
  refine gf_X8_9 rfl (o2 := 238) (by decide) rfl dX8_isEmpty_1 ?_
  refine J.iconst dX8_isEmpty_4 kI_3 ?_
  refine J.il1 dX8_isEmpty_5 ?_
  refine J.iaddN dX8_isEmpty_6 ?_
  refine J.iald (N := 352) (x := nI 1) (by decide) (by decide) (by decide) (by omega) (by have := hS₉.rFl hi₉; rw [if_pos hf₉] at this; exact this) dX8_isEmpty_7 ?_
  refine J.if_neN (tgt := 15) dX8_isEmpty_8 (by decide) (by omega) (fun c8₉ => ?_) (fun c8₉ => absurd c8₉ (by first | omega | (simp only [not_true_eq_false, not_false_eq_true]; done) | (simp; done)))
  refine J.iconst dX8_isEmpty_15 kI_0 ?_
  refine J.zret (ty := .boolean) rfl (by decide) (by decide) (by decide) dX8_isEmpty_16 ⟨_, rfl, ?_, ?_⟩
  · rfl
  · rfl

set_option maxRecDepth 100000 in
set_option maxHeartbeats 4000000 in
theorem c_m_filledMany {g : GP} {adr : Nat → Nat} (μ : Mem) {σ : AS} (hS₉ : MS μ 238 0 σ) : CT g yX8_filledMany mX8_filledMany (RM 0 0 0) (WM g adr μ) [.ref (adr 237)] (PM g adr ((.inl (some (.int (nI (cnt (aFl σ) 5)))))) (fun μ' => μ' = μ)) := by
  refine CT.of (l0 := [some (.ref (adr 237)), none, none]) (by decide +kernel) rfl (Nat.le_of_ble_eq_true rfl) rfl ?_
  refine J.iconst dX8_filledMany_0 kI_0 ?_
  refine J.is1 dX8_filledMany_1 (by decide) rfl ?_
  refine J.iconst dX8_filledMany_2 kI_0 ?_
  refine J.is2 dX8_filledMany_3 (by decide) rfl ?_
  have lp4_1 : ∀ (fu : Nat) (i n9 : Nat), 5 < i + fu → i ≤ 5 → n9 = cnt (aFl σ) i → J g mX8_filledMany (RM 0 0 0) (MQx g (RM 0 0 0) (PM g adr ((.inl (some (.int (nI (cnt (aFl σ) 5)))))) (fun μ' => μ' = μ))) 0 0 (WM g adr μ) 4 [some (.ref (adr 237)), some (.int (nI n9)), some (.int (nI i))] [] := by
    intro fu
    induction fu with
    | zero => intro i n9 h9₉ hi₉ hc9₉; exact absurd h9₉ (by omega)
    | succ fu ih4 =>
      intro i n9 h9₉ hi₉ hc9₉
      refine J.il2 dX8_filledMany_4 ?_
      refine J.iconst dX8_filledMany_5 kI_5 ?_
      refine J.icmp_geN (tgt := 26) dX8_filledMany_6 (by decide) (by omega) (by omega) (fun c6₉ => ?_) (fun c6₉ => ?_)
      · refine J.il1 dX8_filledMany_26 ?_
        refine J.iret rfl (by decide) (by decide) dX8_filledMany_27 ⟨_, rfl, ?_, ?_⟩
        · rw [show i = 5 by omega] at hc9₉; rw [hc9₉]
        · rfl
      · refine J.il1 dX8_filledMany_9 ?_
        refine J.al0 dX8_filledMany_10 ?_
        refine gf_X8_9 rfl (o2 := 238) (by decide) rfl dX8_filledMany_11 ?_
        refine J.iconst dX8_filledMany_14 kI_3 ?_
        refine J.il2 dX8_filledMany_15 ?_
        refine J.iaddN dX8_filledMany_16 ?_
        refine J.iald (N := 352) (x := nI (if aFl σ i = true then 1 else 0)) (by decide) (by decide) (by decide) (by omega) (hS₉.rFl (by omega)) dX8_filledMany_17 ?_
        refine J.iaddN dX8_filledMany_18 ?_
        refine J.is1 dX8_filledMany_19 (by decide) rfl ?_
        refine J.ii2 (z := 1) dX8_filledMany_20 (by decide) (by decide) rfl ?_
        refine J.goto (tgt := 4) dX8_filledMany_23 (by decide) ?_
        exact ih4 (i + 1) (n9 + (if aFl σ i = true then 1 else 0)) (by omega) (by omega) (by rw [cnt_1, hc9₉])
  exact lp4_1 (6) 0 0 (by omega) (by omega) rfl

set_option maxRecDepth 100000 in
set_option maxHeartbeats 4000000 in
theorem c_m_goes {g : GP} {adr : Nat → Nat} (μ : Mem) {k : Nat} {j : Nat} {f : Nat → Nat} (hj₉ : j < 5) (hG₉ : ShR μ j f) (hk₉ : k < 32) : CT g yX8_goes mX8_goes (RM 0 0 0) (WM g adr μ) [.ref (adr 237), .int (nI j), .int (nI k)] (PM g adr ((.inl (some (.int (nI (f k)))))) (fun μ' => μ' = μ)) := by
  refine CT.of (l0 := [some (.ref (adr 237)), some (.int (nI j)), some (.int (nI k))]) (by decide +kernel) rfl (Nat.le_of_ble_eq_true rfl) rfl ?_
  refine J.al0 dX8_goes_0 ?_
  refine gf_X8_9 rfl (o2 := 238) (by decide) rfl dX8_goes_1 ?_
  refine J.sipush dX8_goes_4 kc_192 ?_
  refine J.bipush dX8_goes_7 kb_32 ?_
  refine J.il1 dX8_goes_9 ?_
  refine J.imulN dX8_goes_10 ?_
  refine J.iaddN dX8_goes_11 ?_
  refine J.il2 dX8_goes_12 ?_
  refine J.iaddN dX8_goes_13 ?_
  have hbg₉ := (hG₉ k (by omega)).2
  refine J.iald (N := 352) (x := nI (f k)) (by decide) (by decide) (by decide) (by omega) ((hG₉ k (by omega)).1) dX8_goes_14 ?_
  refine J.iret rfl (by decide) (by decide) dX8_goes_15 ⟨_, rfl, ?_, ?_⟩
  · rfl
  · rfl

set_option maxRecDepth 100000 in
set_option maxHeartbeats 4000000 in
theorem c_m_cycleOf {g : GP} {adr : Nat → Nat} (μ : Mem) {i : Nat} {j : Nat} {f : Nat → Nat} (hj₉ : j < 5) (hG₉ : ShR μ j f) (hBF₉ : Bij f) (hi₉ : i < 32) : CT g yX8_cycleOf mX8_cycleOf (RM 1 0 0) (WM g adr μ) [.ref (adr 237), .int (nI j), .int (nI i)] (PM g adr ((.inl (some (.int (nI (cyL f i)))))) (fun μ' => μ' = μ)) := by
  refine CT.of (l0 := [some (.ref (adr 237)), some (.int (nI j)), some (.int (nI i)), none, none]) (by decide +kernel) rfl (Nat.le_of_ble_eq_true rfl) rfl ?_
  have hlt₉ : ∀ k, k < 32 → f k < 32 := fun k hk₉ => (hG₉ k hk₉).2
  refine J.iconst dX8_cycleOf_0 kI_1 ?_
  refine J.is3 dX8_cycleOf_1 (by decide) rfl ?_
  refine J.al0 dX8_cycleOf_2 ?_
  refine J.il1 dX8_cycleOf_3 ?_
  refine J.il2 dX8_cycleOf_4 ?_
  refine cl_X8_183 rfl (by decide) (k' := 0) (n' := 0) (c_m_goes _ hj₉ hG₉ (by omega)) ⟨⟨by decide, by decide⟩, ⟨rfl, rfl⟩, by decide, by decide⟩ rfl dX8_cycleOf_5 (fun μ9 h9₉ => ?_)
  rw [h9₉]; clear h9₉
  have hbg5₉ := (hG₉ i (by omega)).2
  refine J.is4 dX8_cycleOf_8 (by decide) rfl ?_
  have lp10_1 : ∀ (fu : Nat) (m r : Nat), 33 < m + fu → 1 ≤ m → m ≤ 32 → r = iter f m i → (∀ z, 1 ≤ z → z < m → iter f z i ≠ i) → J g mX8_cycleOf (RM 1 0 0) (MQx g (RM 1 0 0) (PM g adr ((.inl (some (.int (nI (cyL f i)))))) (fun μ' => μ' = μ))) 0 0 (WM g adr μ) 10 [some (.ref (adr 237)), some (.int (nI j)), some (.int (nI i)), some (.int (nI m)), some (.int (nI r))] [] := by
    intro fu
    induction fu with
    | zero => intro m r h9₉ h1₉ hm₉ hr₉ hI₉; exact absurd h9₉ (by omega)
    | succ fu ih10 =>
      intro m r h9₉ h1₉ hm₉ hr₉ hI₉
      have hr9₉ : r < 32 := by rw [hr₉]; exact iter_lt hlt₉ m hi₉
      have hcg₉ := cyL_gt hBF₉ hi₉ (m := m - 1) (fun z q1₉ q2₉ => hI₉ z q1₉ (by omega))
      have hcl₉ := cyL_le f i
      refine J.il4 dX8_cycleOf_10 ?_
      refine J.il2 dX8_cycleOf_12 ?_
      refine J.icmp_eqN (tgt := 31) dX8_cycleOf_13 (by decide) (by omega) (by omega) (fun c13₉ => ?_) (fun c13₉ => ?_)
      · refine J.il3 dX8_cycleOf_31 ?_
        refine J.iret rfl (by decide) (by decide) dX8_cycleOf_32 ⟨_, rfl, ?_, ?_⟩
        · rw [cyL_eq h1₉ (by omega) hI₉ (Or.inl (by rw [← hr₉]; exact c13₉))]
        · rfl
      · refine J.ii3 (z := 1) dX8_cycleOf_16 (by decide) (by decide) rfl ?_
        refine J.al0 dX8_cycleOf_19 ?_
        refine J.il1 dX8_cycleOf_20 ?_
        refine J.il4 dX8_cycleOf_21 ?_
        refine cl_X8_183 rfl (by decide) (k' := 0) (n' := 0) (c_m_goes _ hj₉ hG₉ (by omega)) ⟨⟨by decide, by decide⟩, ⟨rfl, rfl⟩, by decide, by decide⟩ rfl dX8_cycleOf_23 (fun μ9 h9₉ => ?_)
        rw [h9₉]; clear h9₉
        have hbg23₉ := (hG₉ r (by omega)).2
        refine J.is4 dX8_cycleOf_26 (by decide) rfl ?_
        refine J.goto (tgt := 10) dX8_cycleOf_28 (by decide) ?_
        have hcx₉ := cyL_gt hBF₉ hi₉ (m := m) (fun z q1₉ q2₉ => if e : z = m then (by rw [e, ← hr₉]; exact c13₉) else hI₉ z q1₉ (by omega))
        exact ih10 (m + 1) (f r) (by omega) (by omega) (by omega) (by rw [hr₉]; rfl) (fun z q1₉ q2₉ => if e : z = m then (by rw [e, ← hr₉]; exact c13₉) else hI₉ z q1₉ (by omega))
  exact lp10_1 (34) 1 (f i) (by omega) (by omega) (by omega) rfl (fun z h1₉ h2₉ => absurd h2₉ (by omega))

set_option maxRecDepth 100000 in
set_option maxHeartbeats 4000000 in
theorem c_m_isLowest {g : GP} {adr : Nat → Nat} (μ : Mem) {i : Nat} {j : Nat} {f : Nat → Nat} (hj₉ : j < 5) (hG₉ : ShR μ j f) (hBF₉ : Bij f) (hi₉ : i < 32) : CT g yX8_isLowest mX8_isLowest (RM 1 0 0) (WM g adr μ) [.ref (adr 237), .int (nI j), .int (nI i)] (PM g adr ((.inl (some (.int (if lowB f i = true then nI 1 else nI 0))))) (fun μ' => μ' = μ)) := by
  refine CT.of (l0 := [some (.ref (adr 237)), some (.int (nI j)), some (.int (nI i)), none, none]) (by decide +kernel) rfl (Nat.le_of_ble_eq_true rfl) rfl ?_
  have hlt₉ : ∀ k, k < 32 → f k < 32 := fun k hk₉ => (hG₉ k hk₉).2
  refine J.iconst dX8_isLowest_0 kI_1 ?_
  refine J.is3 dX8_isLowest_1 (by decide) rfl ?_
  refine J.al0 dX8_isLowest_2 ?_
  refine J.il1 dX8_isLowest_3 ?_
  refine J.il2 dX8_isLowest_4 ?_
  refine cl_X8_183 rfl (by decide) (k' := 0) (n' := 0) (c_m_goes _ hj₉ hG₉ (by omega)) ⟨⟨by decide, by decide⟩, ⟨rfl, rfl⟩, by decide, by decide⟩ rfl dX8_isLowest_5 (fun μ9 h9₉ => ?_)
  rw [h9₉]; clear h9₉
  have hbg5₉ := (hG₉ i (by omega)).2
  refine J.is4 dX8_isLowest_8 (by decide) rfl ?_
  have lp10_1 : ∀ (fu : Nat) (m r : Nat), 33 < m + fu → m ≤ 31 → r = iter f (m + 1) i → (∀ z, 1 ≤ z → z < m + 1 → iter f z i ≠ i) → J g mX8_isLowest (RM 1 0 0) (MQx g (RM 1 0 0) (PM g adr ((.inl (some (.int (if lowB f i = true then nI 1 else nI 0))))) (fun μ' => μ' = μ))) 0 0 (WM g adr μ) 10 [some (.ref (adr 237)), some (.int (nI j)), some (.int (nI i)), some (.int (if allU (fun z => decide (i < iter f (z + 1) i)) m = true then nI 1 else nI 0)), some (.int (nI r))] [] := by
    intro fu
    induction fu with
    | zero => intro m r h9₉ hm₉ hr₉ hI₉; exact absurd h9₉ (by omega)
    | succ fu ih10 =>
      intro m r h9₉ hm₉ hr₉ hI₉
      have hr9₉ : r < 32 := by rw [hr₉]; exact iter_lt hlt₉ _ hi₉
      have hcg₉ := cyL_gt hBF₉ hi₉ (m := m) (fun z q1₉ q2₉ => hI₉ z q1₉ (by omega))
      have hcl₉ := cyL_le f i
      refine J.il4 dX8_isLowest_10 ?_
      refine J.il2 dX8_isLowest_12 ?_
      refine J.icmp_eqN (tgt := 44) dX8_isLowest_13 (by decide) (by omega) (by omega) (fun c13₉ => ?_) (fun c13₉ => ?_)
      · refine J.il3 dX8_isLowest_44 ?_
        refine J.zret (ty := .boolean) rfl (by split <;> rfl) (by decide) (by decide) dX8_isLowest_45 ⟨_, rfl, ?_, ?_⟩
        · have hcm₉ : cyL f i = m + 1 := cyL_eq (by omega) (by omega) hI₉ (Or.inl (by rw [← hr₉]; exact c13₉))
          have hlm₉ := low_m hBF₉ hi₉ hcm₉
          by_cases hlb₉ : lowB f i = true
          · rw [if_pos hlb₉, if_pos (hlm₉.mpr hlb₉)]
          · rw [if_neg hlb₉, if_neg (fun q => hlb₉ (hlm₉.mp q))]
        · rfl
      · refine J.il3 dX8_isLowest_16 ?_
        refine J.if_eqB (tgt := 30) dX8_isLowest_17 (by decide) (fun c17₉ => ?_) (fun c17₉ => ?_)
        · refine J.iconst dX8_isLowest_30 kI_0 ?_
          refine J.is3 dX8_isLowest_31 (by decide) rfl ?_
          refine J.al0 dX8_isLowest_32 ?_
          refine J.il1 dX8_isLowest_33 ?_
          refine J.il4 dX8_isLowest_34 ?_
          refine cl_X8_183 rfl (by decide) (k' := 0) (n' := 0) (c_m_goes _ hj₉ hG₉ (by omega)) ⟨⟨by decide, by decide⟩, ⟨rfl, rfl⟩, by decide, by decide⟩ rfl dX8_isLowest_36 (fun μ9 h9₉ => ?_)
          rw [h9₉]; clear h9₉
          have hbg36₉ := (hG₉ r (by omega)).2
          refine J.is4 dX8_isLowest_39 (by decide) rfl ?_
          refine J.goto (tgt := 10) dX8_isLowest_41 (by decide) ?_
          have hcx₉ := cyL_gt hBF₉ hi₉ (m := m + 1) (fun z q1₉ q2₉ => if e : z = m + 1 then (by rw [e, ← hr₉]; exact c13₉) else hI₉ z q1₉ (by omega))
          have z9₉ := ih10 (m + 1) (f r) (by omega) (by omega) (by rw [hr₉]; rfl) (fun z q1₉ q2₉ => if e : z = m + 1 then (by rw [e, ← hr₉]; exact c13₉) else hI₉ z q1₉ (by omega))
          have hz₉ : ¬ allU (fun z => decide (i < iter f (z + 1) i)) (m + 1) = true := by rw [allU_1]; first | (rw [decide_eq_false (show ¬ i < iter f (m + 1) i by rw [← hr₉]; omega)]; simp; done) | (simp [c17₉]; done)
          rw [if_neg hz₉] at z9₉
          exact z9₉
        · refine J.il4 dX8_isLowest_20 ?_
          refine J.il2 dX8_isLowest_22 ?_
          refine J.icmp_leN (tgt := 30) dX8_isLowest_23 (by decide) (by omega) (by omega) (fun c23₉ => ?_) (fun c23₉ => ?_)
          · refine J.iconst dX8_isLowest_30 kI_0 ?_
            refine J.is3 dX8_isLowest_31 (by decide) rfl ?_
            refine J.al0 dX8_isLowest_32 ?_
            refine J.il1 dX8_isLowest_33 ?_
            refine J.il4 dX8_isLowest_34 ?_
            refine cl_X8_183 rfl (by decide) (k' := 0) (n' := 0) (c_m_goes _ hj₉ hG₉ (by omega)) ⟨⟨by decide, by decide⟩, ⟨rfl, rfl⟩, by decide, by decide⟩ rfl dX8_isLowest_36 (fun μ9 h9₉ => ?_)
            rw [h9₉]; clear h9₉
            have hbg36₉ := (hG₉ r (by omega)).2
            refine J.is4 dX8_isLowest_39 (by decide) rfl ?_
            refine J.goto (tgt := 10) dX8_isLowest_41 (by decide) ?_
            have hcx₉ := cyL_gt hBF₉ hi₉ (m := m + 1) (fun z q1₉ q2₉ => if e : z = m + 1 then (by rw [e, ← hr₉]; exact c13₉) else hI₉ z q1₉ (by omega))
            have z9₉ := ih10 (m + 1) (f r) (by omega) (by omega) (by rw [hr₉]; rfl) (fun z q1₉ q2₉ => if e : z = m + 1 then (by rw [e, ← hr₉]; exact c13₉) else hI₉ z q1₉ (by omega))
            have hz₉ : ¬ allU (fun z => decide (i < iter f (z + 1) i)) (m + 1) = true := by rw [allU_1]; first | (rw [decide_eq_false (show ¬ i < iter f (m + 1) i by rw [← hr₉]; omega)]; simp; done) | (simp [c17₉]; done)
            rw [if_neg hz₉] at z9₉
            exact z9₉
          · refine J.iconst dX8_isLowest_26 kI_1 ?_
            refine J.goto (tgt := 31) dX8_isLowest_27 (by decide) ?_
            refine J.is3 dX8_isLowest_31 (by decide) rfl ?_
            refine J.al0 dX8_isLowest_32 ?_
            refine J.il1 dX8_isLowest_33 ?_
            refine J.il4 dX8_isLowest_34 ?_
            refine cl_X8_183 rfl (by decide) (k' := 0) (n' := 0) (c_m_goes _ hj₉ hG₉ (by omega)) ⟨⟨by decide, by decide⟩, ⟨rfl, rfl⟩, by decide, by decide⟩ rfl dX8_isLowest_36 (fun μ9 h9₉ => ?_)
            rw [h9₉]; clear h9₉
            have hbg36₉ := (hG₉ r (by omega)).2
            refine J.is4 dX8_isLowest_39 (by decide) rfl ?_
            refine J.goto (tgt := 10) dX8_isLowest_41 (by decide) ?_
            have hcx₉ := cyL_gt hBF₉ hi₉ (m := m + 1) (fun z q1₉ q2₉ => if e : z = m + 1 then (by rw [e, ← hr₉]; exact c13₉) else hI₉ z q1₉ (by omega))
            have z9₉ := ih10 (m + 1) (f r) (by omega) (by omega) (by rw [hr₉]; rfl) (fun z q1₉ q2₉ => if e : z = m + 1 then (by rw [e, ← hr₉]; exact c13₉) else hI₉ z q1₉ (by omega))
            have hz₉ : allU (fun z => decide (i < iter f (z + 1) i)) (m + 1) = true := by rw [allU_1, c17₉, decide_eq_true (show i < iter f (m + 1) i by rw [← hr₉]; omega)]; rfl
            rw [if_pos hz₉] at z9₉
            exact z9₉
  exact lp10_1 (34) 0 (f i) (by omega) (by omega) rfl (fun z h1₉ h2₉ => absurd h2₉ (by omega))
