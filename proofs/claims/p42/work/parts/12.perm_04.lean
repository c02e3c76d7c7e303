/-! ===== printed: the rows of permutations ===== -/
set_option maxRecDepth 100000 in
set_option maxHeartbeats 4000000 in
theorem c_countMoved {g : GP} {adr : Nat → Nat} (μ : Mem) {p : Nat} {f : Nat → Nat} (hp₉ : kt p = 1) (hf₉ : PermR μ (p + 1) f) : CT g yX3_countMoved mX3_countMoved (RM 0 0 0) (WM g adr μ) [.ref (adr p)] (PM g adr ((.inl (some (.int (nI (cnt (fun k => decide (f k ≠ k)) 32)))))) (fun μ' => μ' = μ)) := by
  refine CT.of (l0 := [some (.ref (adr p)), none, none]) (by decide +kernel) rfl (Nat.le_of_ble_eq_true rfl) rfl ?_
  have hp1₉ := kt_p hp₉
  refine J.iconst dX3_countMoved_0 kI_0 ?_
  refine J.is1 dX3_countMoved_1 (by decide) rfl ?_
  refine J.iconst dX3_countMoved_2 kI_0 ?_
  refine J.is2 dX3_countMoved_3 (by decide) rfl ?_
  have lp4_1 : ∀ (fu : Nat) (i c : Nat), 32 < i + fu → i ≤ 32 → c = cnt (fun k => decide (f k ≠ k)) i → J g mX3_countMoved (RM 0 0 0) (MQx g (RM 0 0 0) (PM g adr ((.inl (some (.int (nI (cnt (fun k => decide (f k ≠ k)) 32)))))) (fun μ' => μ' = μ))) 0 0 (WM g adr μ) 4 [some (.ref (adr p)), some (.int (nI c)), some (.int (nI i))] [] := by
    intro fu
    induction fu with
    | zero => intro i c h9₉ hi₉ hc₉; exact absurd h9₉ (by omega)
    | succ fu ih4 =>
      intro i c h9₉ hi₉ hc₉
      refine J.il2 dX3_countMoved_4 ?_
      refine J.bipush dX3_countMoved_5 kb_32 ?_
      refine J.icmp_geN (tgt := 29) dX3_countMoved_7 (by decide) (by omega) (by omega) (fun c7₉ => ?_) (fun c7₉ => ?_)
      · refine J.il1 dX3_countMoved_29 ?_
        refine J.iret rfl (by decide) (by decide) dX3_countMoved_30 ⟨_, rfl, ?_, ?_⟩
        · rw [show i = 32 by omega] at hc₉; rw [hc₉]
        · rfl
      · refine J.al0 dX3_countMoved_10 ?_
        refine gf_X3_9 rfl (o2 := p + 1) hp₉ rfl dX3_countMoved_11 ?_
        refine J.il2 dX3_countMoved_14 ?_
        have hb2₉ := (hf₉ i (by omega)).2
        refine J.iald (N := 32) (x := nI (f i)) hp1₉ (by decide) (by decide) (by omega) ((hf₉ i (by omega)).1) dX3_countMoved_15 ?_
        refine J.il2 dX3_countMoved_16 ?_
        refine J.icmp_eqN (tgt := 23) dX3_countMoved_17 (by decide) (by omega) (by omega) (fun c17₉ => ?_) (fun c17₉ => ?_)
        · refine J.ii2 (z := 1) dX3_countMoved_23 (by decide) (by decide) rfl ?_
          refine J.goto (tgt := 4) dX3_countMoved_26 (by decide) ?_
          exact ih4 (i + 1) c (by omega) (by omega) (by rw [cnt_1, hc₉]; first | rw [if_pos (by simpa using c17₉)] | (rw [if_neg (by simpa using c17₉)]; rfl))
        · refine J.ii1 (z := 1) dX3_countMoved_20 (by decide) (by decide) rfl ?_
          refine J.ii2 (z := 1) dX3_countMoved_23 (by decide) (by decide) rfl ?_
          refine J.goto (tgt := 4) dX3_countMoved_26 (by decide) ?_
          exact ih4 (i + 1) (c + 1) (by omega) (by omega) (by rw [cnt_1, hc₉]; first | rw [if_pos (by simpa using c17₉)] | (rw [if_neg (by simpa using c17₉)]; rfl))
  exact lp4_1 (33) 0 0 (by omega) (by omega) rfl

set_option maxRecDepth 100000 in
set_option maxHeartbeats 4000000 in
theorem c_cycleLength {g : GP} {adr : Nat → Nat} (μ : Mem) {p i : Nat} {f : Nat → Nat} (hp₉ : kt p = 1) (hf₉ : PermR μ (p + 1) f) (hi₉ : i < 32) : CT g yX3_cycleLength mX3_cycleLength (RM 2 0 0) (WM g adr μ) [.ref (adr p), .int (nI i)] (PM g adr ((.inl (some (.int (nI (cyL f i)))))) (fun μ' => μ' = μ)) := by
  refine CT.of (l0 := [some (.ref (adr p)), some (.int (nI i)), none, none]) (by decide +kernel) rfl (Nat.le_of_ble_eq_true rfl) rfl ?_
  have hp1₉ := kt_p hp₉
  have hlt₉ : ∀ k, k < 32 → f k < 32 := fun k hk₉ => (hf₉ k hk₉).2
  refine J.iconst dX3_cycleLength_0 kI_1 ?_
  refine J.is2 dX3_cycleLength_1 (by decide) rfl ?_
  refine J.al0 dX3_cycleLength_2 ?_
  refine J.il1 dX3_cycleLength_3 ?_
  refine cl_X3_39 rfl hp₉ (k' := 0) (n' := 0) (c_of _ hp₉ hf₉ (by omega)) ⟨⟨by decide, by decide⟩, ⟨rfl, rfl⟩, by decide, by decide⟩ rfl dX3_cycleLength_4 (fun μ9 h9₉ => ?_)
  rw [h9₉]; clear h9₉
  have hb1₉ := (hf₉ i (by omega)).2
  refine J.is3 dX3_cycleLength_7 (by decide) rfl ?_
  have lp8_2 : ∀ (fu : Nat) (m r : Nat), 32 < m + fu → 1 ≤ m → m ≤ 32 → r = iter f m i → (∀ z, 1 ≤ z → z < m → iter f z i ≠ i) → J g mX3_cycleLength (RM 2 0 0) (MQx g (RM 2 0 0) (PM g adr ((.inl (some (.int (nI (cyL f i)))))) (fun μ' => μ' = μ))) 0 0 (WM g adr μ) 8 [some (.ref (adr p)), some (.int (nI i)), some (.int (nI m)), some (.int (nI r))] [] := by
    intro fu
    induction fu with
    | zero => intro m r h9₉ h1₉ h2₉ hr₉ hI₉; exact absurd h9₉ (by omega)
    | succ fu ih8 =>
      intro m r h9₉ h1₉ h2₉ hr₉ hI₉
      have hr9₉ : r < 32 := by rw [hr₉]; exact iter_lt hlt₉ m hi₉
      refine J.il3 dX3_cycleLength_8 ?_
      refine J.il1 dX3_cycleLength_9 ?_
      refine J.icmp_eqN (tgt := 31) dX3_cycleLength_10 (by decide) (by omega) (by omega) (fun c10₉ => ?_) (fun c10₉ => ?_)
      · refine J.il2 dX3_cycleLength_31 ?_
        refine J.iret rfl (by decide) (by decide) dX3_cycleLength_32 ⟨_, rfl, ?_, ?_⟩
        · rw [cyL_eq h1₉ h2₉ hI₉ (by first | exact Or.inl (by rw [← hr₉]; exact c10₉) | exact Or.inr (by omega))]
        · rfl
      · refine J.il2 dX3_cycleLength_13 ?_
        refine J.bipush dX3_cycleLength_14 kb_32 ?_
        refine J.icmp_geN (tgt := 31) dX3_cycleLength_16 (by decide) (by omega) (by omega) (fun c16₉ => ?_) (fun c16₉ => ?_)
        · refine J.il2 dX3_cycleLength_31 ?_
          refine J.iret rfl (by decide) (by decide) dX3_cycleLength_32 ⟨_, rfl, ?_, ?_⟩
          · rw [cyL_eq h1₉ h2₉ hI₉ (by first | exact Or.inl (by rw [← hr₉]; exact c10₉) | exact Or.inr (by omega))]
          · rfl
        · refine J.al0 dX3_cycleLength_19 ?_
          refine J.il3 dX3_cycleLength_20 ?_
          refine cl_X3_39 rfl hp₉ (k' := 0) (n' := 0) (c_of _ hp₉ hf₉ (by omega)) ⟨⟨by decide, by decide⟩, ⟨rfl, rfl⟩, by decide, by decide⟩ rfl dX3_cycleLength_21 (fun μ9 h9₉ => ?_)
          rw [h9₉]; clear h9₉
          have hb3₉ := (hf₉ r (by omega)).2
          refine J.is3 dX3_cycleLength_24 (by decide) rfl ?_
          refine J.ii2 (z := 1) dX3_cycleLength_25 (by decide) (by decide) rfl ?_
          refine J.goto (tgt := 8) dX3_cycleLength_28 (by decide) ?_
          exact ih8 (m + 1) (f r) (by omega) (by omega) (by omega) (by rw [hr₉]; rfl) (fun z q1₉ q2₉ => if e : z = m then (by rw [e, ← hr₉]; exact c10₉) else hI₉ z q1₉ (by omega))
  exact lp8_2 (33) 1 (f i) (by omega) (by omega) (by omega) rfl (fun z h1₉ h2₉ => absurd h2₉ (by omega))

set_option maxRecDepth 100000 in
set_option maxHeartbeats 4000000 in
theorem c_isLowestOfCycle {g : GP} {adr : Nat → Nat} (μ : Mem) {p i : Nat} {f : Nat → Nat} (hp₉ : kt p = 1) (hf₉ : PermR μ (p + 1) f) (hi₉ : i < 32) : CT g yX3_isLowestOfCycle mX3_isLowestOfCycle (RM 2 0 0) (WM g adr μ) [.ref (adr p), .int (nI i)] (PM g adr ((.inl (some (.int (if lowB f i = true then nI 1 else nI 0))))) (fun μ' => μ' = μ)) := by
  refine CT.of (l0 := [some (.ref (adr p)), some (.int (nI i)), none, none]) (by decide +kernel) rfl (Nat.le_of_ble_eq_true rfl) rfl ?_
  have hp1₉ := kt_p hp₉
  have hlt₉ : ∀ k, k < 32 → f k < 32 := fun k hk₉ => (hf₉ k hk₉).2
  refine J.al0 dX3_isLowestOfCycle_0 ?_
  refine J.il1 dX3_isLowestOfCycle_1 ?_
  refine cl_X3_39 rfl hp₉ (k' := 0) (n' := 0) (c_of _ hp₉ hf₉ (by omega)) ⟨⟨by decide, by decide⟩, ⟨rfl, rfl⟩, by decide, by decide⟩ rfl dX3_isLowestOfCycle_2 (fun μ9 h9₉ => ?_)
  rw [h9₉]; clear h9₉
  have hb1₉ := (hf₉ i (by omega)).2
  refine J.is2 dX3_isLowestOfCycle_5 (by decide) rfl ?_
  refine J.iconst dX3_isLowestOfCycle_6 kI_0 ?_
  refine J.is3 dX3_isLowestOfCycle_7 (by decide) rfl ?_
  have lp8_2 : ∀ (fu : Nat) (m r : Nat), 32 < m + fu → m ≤ 32 → r = iter f (m + 1) i → (∀ z, z ≤ m → i ≤ iter f z i) → J g mX3_isLowestOfCycle (RM 2 0 0) (MQx g (RM 2 0 0) (PM g adr ((.inl (some (.int (if lowB f i = true then nI 1 else nI 0))))) (fun μ' => μ' = μ))) 0 0 (WM g adr μ) 8 [some (.ref (adr p)), some (.int (nI i)), some (.int (nI r)), some (.int (nI m))] [] := by
    intro fu
    induction fu with
    | zero => intro m r h9₉ h2₉ hr₉ hI₉; exact absurd h9₉ (by omega)
    | succ fu ih8 =>
      intro m r h9₉ h2₉ hr₉ hI₉
      have hr9₉ : r < 32 := by rw [hr₉]; exact iter_lt hlt₉ (m + 1) hi₉
      refine J.il3 dX3_isLowestOfCycle_8 ?_
      refine J.bipush dX3_isLowestOfCycle_9 kb_32 ?_
      refine J.icmp_geN (tgt := 38) dX3_isLowestOfCycle_11 (by decide) (by omega) (by omega) (fun c11₉ => ?_) (fun c11₉ => ?_)
      · refine J.iconst dX3_isLowestOfCycle_38 kI_1 ?_
        refine J.zret (ty := .boolean) rfl (by decide) (by decide) (by decide) dX3_isLowestOfCycle_39 ⟨_, rfl, ?_, ?_⟩
        · rw [if_pos (low_yes hI₉ (by first | exact Or.inl (by rw [← hr₉]; exact c16₉) | exact Or.inr (by omega)))]
        · rfl
      · refine J.il2 dX3_isLowestOfCycle_14 ?_
        refine J.il1 dX3_isLowestOfCycle_15 ?_
        refine J.icmp_eqN (tgt := 38) dX3_isLowestOfCycle_16 (by decide) (by omega) (by omega) (fun c16₉ => ?_) (fun c16₉ => ?_)
        · refine J.iconst dX3_isLowestOfCycle_38 kI_1 ?_
          refine J.zret (ty := .boolean) rfl (by decide) (by decide) (by decide) dX3_isLowestOfCycle_39 ⟨_, rfl, ?_, ?_⟩
          · rw [if_pos (low_yes hI₉ (by first | exact Or.inl (by rw [← hr₉]; exact c16₉) | exact Or.inr (by omega)))]
          · rfl
        · refine J.il2 dX3_isLowestOfCycle_19 ?_
          refine J.il1 dX3_isLowestOfCycle_20 ?_
          refine J.icmp_geN (tgt := 26) dX3_isLowestOfCycle_21 (by decide) (by omega) (by omega) (fun c21₉ => ?_) (fun c21₉ => ?_)
          · refine J.al0 dX3_isLowestOfCycle_26 ?_
            refine J.il2 dX3_isLowestOfCycle_27 ?_
            refine cl_X3_39 rfl hp₉ (k' := 0) (n' := 0) (c_of _ hp₉ hf₉ (by omega)) ⟨⟨by decide, by decide⟩, ⟨rfl, rfl⟩, by decide, by decide⟩ rfl dX3_isLowestOfCycle_28 (fun μ9 h9₉ => ?_)
            rw [h9₉]; clear h9₉
            have hb3₉ := (hf₉ r (by omega)).2
            refine J.is2 dX3_isLowestOfCycle_31 (by decide) rfl ?_
            refine J.ii3 (z := 1) dX3_isLowestOfCycle_32 (by decide) (by decide) rfl ?_
            refine J.goto (tgt := 8) dX3_isLowestOfCycle_35 (by decide) ?_
            exact ih8 (m + 1) (f r) (by omega) (by omega) (by rw [hr₉]; rfl) (fun z q1₉ => if e : z = m + 1 then (by rw [e, ← hr₉]; omega) else hI₉ z (by omega))
          · refine J.iconst dX3_isLowestOfCycle_24 kI_0 ?_
            refine J.zret (ty := .boolean) rfl (by decide) (by decide) (by decide) dX3_isLowestOfCycle_25 ⟨_, rfl, ?_, ?_⟩
            · rw [if_neg (by rw [low_no (m := m + 1) (by omega) (by rw [← hr₉]; omega)]; decide)]
            · rfl
  exact lp8_2 (33) 0 (f i) (by omega) (by omega) rfl (fun z h1₉ => by rw [show z = 0 by omega]; exact Nat.le_refl i)

set_option maxRecDepth 100000 in
set_option maxHeartbeats 4000000 in
theorem c_countCycles {g : GP} {adr : Nat → Nat} (μ : Mem) {p a : Nat} {f : Nat → Nat} (hp₉ : kt p = 1) (hf₉ : PermR μ (p + 1) f) (ha₉ : a < 2147483648) : CT g yX3_countCycles mX3_countCycles (RM 3 0 0) (WM g adr μ) [.ref (adr p), .int (nI a)] (PM g adr ((.inl (some (.int (nI (cnt (fun s => lowB f s && decide (a ≤ cyL f s)) 32)))))) (fun μ' => μ' = μ)) := by
  refine CT.of (l0 := [some (.ref (adr p)), some (.int (nI a)), none, none]) (by decide +kernel) rfl (Nat.le_of_ble_eq_true rfl) rfl ?_
  have hp1₉ := kt_p hp₉
  refine J.iconst dX3_countCycles_0 kI_0 ?_
  refine J.is2 dX3_countCycles_1 (by decide) rfl ?_
  refine J.iconst dX3_countCycles_2 kI_0 ?_
  refine J.is3 dX3_countCycles_3 (by decide) rfl ?_
  have lp4_1 : ∀ (fu : Nat) (i c : Nat), 32 < i + fu → i ≤ 32 → c = cnt (fun s => lowB f s && decide (a ≤ cyL f s)) i → J g mX3_countCycles (RM 3 0 0) (MQx g (RM 3 0 0) (PM g adr ((.inl (some (.int (nI (cnt (fun s => lowB f s && decide (a ≤ cyL f s)) 32)))))) (fun μ' => μ' = μ))) 0 0 (WM g adr μ) 4 [some (.ref (adr p)), some (.int (nI a)), some (.int (nI c)), some (.int (nI i))] [] := by
    intro fu
    induction fu with
    | zero => intro i c h9₉ hi₉ hc₉; exact absurd h9₉ (by omega)
    | succ fu ih4 =>
      intro i c h9₉ hi₉ hc₉
      refine J.il3 dX3_countCycles_4 ?_
      refine J.bipush dX3_countCycles_5 kb_32 ?_
      refine J.icmp_geN (tgt := 36) dX3_countCycles_7 (by decide) (by omega) (by omega) (fun c7₉ => ?_) (fun c7₉ => ?_)
      · refine J.il2 dX3_countCycles_36 ?_
        refine J.iret rfl (by decide) (by decide) dX3_countCycles_37 ⟨_, rfl, ?_, ?_⟩
        · rw [show i = 32 by omega] at hc₉; rw [hc₉]
        · rfl
      · refine J.al0 dX3_countCycles_10 ?_
        refine J.il3 dX3_countCycles_11 ?_
        refine cl_X3_43 rfl hp₉ (k' := 0) (n' := 0) (c_isLowestOfCycle _ hp₉ hf₉ (by omega)) ⟨⟨by decide, by decide⟩, ⟨rfl, rfl⟩, by decide, by decide⟩ rfl dX3_countCycles_12 (fun μ9 h9₉ => ?_)
        rw [h9₉]; clear h9₉
        refine J.if_eqB (tgt := 30) dX3_countCycles_15 (by decide) (fun c15₉ => ?_) (fun c15₉ => ?_)
        · refine J.ii3 (z := 1) dX3_countCycles_30 (by decide) (by decide) rfl ?_
          refine J.goto (tgt := 4) dX3_countCycles_33 (by decide) ?_
          exact ih4 (i + 1) c (by omega) (by omega) (by rw [cnt_1, hc₉]; first | rw [if_pos (by rw [c15₉, decide_eq_true (by omega)]; rfl)] | (rw [if_neg (by rw [decide_eq_false (by omega)]; simp)]; rfl) | (rw [if_neg (by simp [c15₉])]; rfl))
        · refine J.al0 dX3_countCycles_18 ?_
          refine J.il3 dX3_countCycles_19 ?_
          have hcy20₉ := cyL_le f i
          refine cl_X3_47 rfl hp₉ (k' := 0) (n' := 0) (c_cycleLength _ hp₉ hf₉ (by omega)) ⟨⟨by decide, by decide⟩, ⟨rfl, rfl⟩, by decide, by decide⟩ rfl dX3_countCycles_20 (fun μ9 h9₉ => ?_)
          rw [h9₉]; clear h9₉
          refine J.il1 dX3_countCycles_23 ?_
          refine J.icmp_ltN (tgt := 30) dX3_countCycles_24 (by decide) (by omega) (by omega) (fun c24₉ => ?_) (fun c24₉ => ?_)
          · refine J.ii3 (z := 1) dX3_countCycles_30 (by decide) (by decide) rfl ?_
            refine J.goto (tgt := 4) dX3_countCycles_33 (by decide) ?_
            exact ih4 (i + 1) c (by omega) (by omega) (by rw [cnt_1, hc₉]; first | rw [if_pos (by rw [c15₉, decide_eq_true (by omega)]; rfl)] | (rw [if_neg (by rw [decide_eq_false (by omega)]; simp)]; rfl) | (rw [if_neg (by simp [c15₉])]; rfl))
          · refine J.ii2 (z := 1) dX3_countCycles_27 (by decide) (by decide) rfl ?_
            refine J.ii3 (z := 1) dX3_countCycles_30 (by decide) (by decide) rfl ?_
            refine J.goto (tgt := 4) dX3_countCycles_33 (by decide) ?_
            exact ih4 (i + 1) (c + 1) (by omega) (by omega) (by rw [cnt_1, hc₉]; first | rw [if_pos (by rw [c15₉, decide_eq_true (by omega)]; rfl)] | (rw [if_neg (by rw [decide_eq_false (by omega)]; simp)]; rfl) | (rw [if_neg (by simp [c15₉])]; rfl))
  exact lp4_1 (33) 0 0 (by omega) (by omega) rfl

set_option maxRecDepth 100000 in
set_option maxHeartbeats 4000000 in
theorem c_longestCycle {g : GP} {adr : Nat → Nat} (μ : Mem) {p : Nat} {f : Nat → Nat} (hp₉ : kt p = 1) (hf₉ : PermR μ (p + 1) f) : CT g yX3_longestCycle mX3_longestCycle (RM 3 0 0) (WM g adr μ) [.ref (adr p)] (PM g adr ((.inl (some (.int (nI (mxU (cyL f) 32)))))) (fun μ' => μ' = μ)) := by
  refine CT.of (l0 := [some (.ref (adr p)), none, none]) (by decide +kernel) rfl (Nat.le_of_ble_eq_true rfl) rfl ?_
  have hp1₉ := kt_p hp₉
  refine J.iconst dX3_longestCycle_0 kI_1 ?_
  refine J.is1 dX3_longestCycle_1 (by decide) rfl ?_
  refine J.iconst dX3_longestCycle_2 kI_0 ?_
  refine J.is2 dX3_longestCycle_3 (by decide) rfl ?_
  have lp4_1 : ∀ (fu : Nat) (i c : Nat), 32 < i + fu → i ≤ 32 → c = mxU (cyL f) i → c ≤ 32 → J g mX3_longestCycle (RM 3 0 0) (MQx g (RM 3 0 0) (PM g adr ((.inl (some (.int (nI (mxU (cyL f) 32)))))) (fun μ' => μ' = μ))) 0 0 (WM g adr μ) 4 [some (.ref (adr p)), some (.int (nI c)), some (.int (nI i))] [] := by
    intro fu
    induction fu with
    | zero => intro i c h9₉ hi₉ hc₉ hc2₉; exact absurd h9₉ (by omega)
    | succ fu ih4 =>
      intro i c h9₉ hi₉ hc₉ hc2₉
      refine J.il2 dX3_longestCycle_4 ?_
      refine J.bipush dX3_longestCycle_5 kb_32 ?_
      refine J.icmp_geN (tgt := 26) dX3_longestCycle_7 (by decide) (by omega) (by omega) (fun c7₉ => ?_) (fun c7₉ => ?_)
      · refine J.il1 dX3_longestCycle_26 ?_
        refine J.iret rfl (by decide) (by decide) dX3_longestCycle_27 ⟨_, rfl, ?_, ?_⟩
        · rw [show i = 32 by omega] at hc₉; rw [hc₉]
        · rfl
      · refine J.il1 dX3_longestCycle_10 ?_
        refine J.al0 dX3_longestCycle_11 ?_
        refine J.il2 dX3_longestCycle_12 ?_
        have hcy13₉ := cyL_le f i
        refine cl_X3_47 rfl hp₉ (k' := 0) (n' := 0) (c_cycleLength _ hp₉ hf₉ (by omega)) ⟨⟨by decide, by decide⟩, ⟨rfl, rfl⟩, by decide, by decide⟩ rfl dX3_longestCycle_13 (fun μ9 h9₉ => ?_)
        rw [h9₉]; clear h9₉
        refine J.maxN t_1124 t_500 t_21 t_maxcode (by omega) (by omega) (by decide) (Nat.le_of_ble_eq_true rfl) (by decide) (by decide) dX3_longestCycle_16 ?_
        refine J.is1 dX3_longestCycle_19 (by decide) rfl ?_
        refine J.ii2 (z := 1) dX3_longestCycle_20 (by decide) (by decide) rfl ?_
        refine J.goto (tgt := 4) dX3_longestCycle_23 (by decide) ?_
        exact ih4 (i + 1) (max c (cyL f i)) (by omega) (by omega) (by rw [hc₉]; rfl) (by omega)
  exact lp4_1 (33) 0 1 (by omega) (by omega) rfl (by omega)
