/-! ===== printed: the class: moves, slots and colours ===== -/
theorem kt_sh2 : True := trivial
def scV (v : Nat) : Nat := (75 * v + 74) % 65537
def scM (v : Nat) (σ : AS) : AS := if v % 2 = 0 then mvS 0 (v / 2 % 4) (1 + v / 8 % 7) σ else mvS 1 (v / 2 % 8) (1 + v / 16 % 3) σ
def scP (v0 : Nat) (σ : AS) : Nat → Nat × AS
  | 0 => (v0, σ)
  | n + 1 => (scV (scP v0 σ n).1, scM (scV (scP v0 σ n).1) (scP v0 σ n).2)
set_option maxRecDepth 100000 in
set_option maxHeartbeats 4000000 in
theorem c_addCycle {g : GP} {adr : Nat → Nat} (μ : Mem) {q s p : Nat} {f : Nat → Nat} {T : TX} (hq₉ : kt q = 9) (hp₉ : kt p = 1) (hT₉ : TxR μ q T) (hf₉ : PermR μ (p + 1) f) (hBF₉ : Bij f) (hs₉ : s < 32) (hn₉ : p + 1 ≠ q) (hn2₉ : p + 1 ≠ q + 1) (hro₉ : T.1 + 3 * cyL f s + 1 ≤ 120) : CT g yX5_addCycle mX5_addCycle (RM 3 0 0) (WM g adr μ) [.ref (adr q), .ref (adr p), .int (nI s)] (PM g adr (.inl none) (fun μ' => TxR μ' q (tCyc f s T) ∧ ∀ o, o ≠ q → o ≠ q + 1 → μ' o = μ o)) := by
  refine CT.of (l0 := [some (.ref (adr q)), some (.ref (adr p)), some (.int (nI s)), none, none]) (by decide +kernel) rfl (Nat.le_of_ble_eq_true rfl) rfl ?_
  have hlt₉ : ∀ k, k < 32 → f k < 32 := fun k hk₉ => (hf₉ k hk₉).2
  have hc1₉ := cyL_le f s
  refine J.al0 dX5_addCycle_0 ?_
  refine J.bipush dX5_addCycle_1 kb_40 ?_
  refine cl_X5_25 rfl hq₉ (k' := 0) (n' := 0) (c_addSignT _ hq₉ hT₉ (by omega) (by decide)) ⟨⟨by decide, by decide⟩, ⟨rfl, rfl⟩, by decide, by decide⟩ rfl dX5_addCycle_3 (fun μ2 ⟨hT2₉, hO2₉⟩ => ?_)
  refine J.al0 dX5_addCycle_6 ?_
  refine J.il2 dX5_addCycle_7 ?_
  refine cl_X5_29 rfl hq₉ (k' := 0) (n' := 0) (c_addNumberT _ hq₉ hT2₉ (show (tP 40 T).1 + 2 ≤ 120 by show T.1 + 1 + 2 ≤ 120; omega) (by omega)) ⟨⟨by decide, by decide⟩, ⟨rfl, rfl⟩, by decide, by decide⟩ rfl dX5_addCycle_8 (fun μ3 ⟨hT3₉, hO3₉⟩ => ?_)
  have hf3₉ : PermR μ3 (p + 1) f := hf₉.eq ((hO3₉ _ hn₉ hn2₉).trans (hO2₉ _ hn₉ hn2₉))
  have hO4₉ : ∀ o, o ≠ q → o ≠ q + 1 → μ3 o = μ o := fun o h1₉ h2₉ => (hO3₉ o h1₉ h2₉).trans (hO2₉ o h1₉ h2₉)
  refine J.al1 dX5_addCycle_11 ?_
  refine J.il2 dX5_addCycle_12 ?_
  refine cl_X5_33 rfl hp₉ (k' := 0) (n' := 0) (c_of _ hp₉ hf3₉ (by omega)) ⟨⟨by decide, by decide⟩, ⟨rfl, rfl⟩, by decide, by decide⟩ rfl dX5_addCycle_13 (fun μ9 h9₉ => ?_)
  rw [h9₉]; clear h9₉
  refine J.is3 dX5_addCycle_16 (by decide) rfl ?_
  refine J.iconst dX5_addCycle_17 kI_1 ?_
  refine J.is4 dX5_addCycle_18 (by decide) rfl ?_
  have lp20_1 : ∀ (fu : Nat) (m r : Nat) (μ1 : Mem), 32 < m + fu → 1 ≤ m → m ≤ 32 → r = iter f m s → (∀ z, 1 ≤ z → z < m → iter f z s ≠ s) → TxR μ1 q (tC f s (m - 1) (tN s (tP 40 T))) → PermR μ1 (p + 1) f → (∀ o, o ≠ q → o ≠ q + 1 → μ1 o = μ o) → J g mX5_addCycle (RM 3 0 0) (MQx g (RM 3 0 0) (PM g adr (.inl none) (fun μ' => TxR μ' q (tCyc f s T) ∧ ∀ o, o ≠ q → o ≠ q + 1 → μ' o = μ o))) 0 0 (WM g adr μ1) 20 [some (.ref (adr q)), some (.ref (adr p)), some (.int (nI s)), some (.int (nI r)), some (.int (nI m))] [] := by
    intro fu
    induction fu with
    | zero => intro m r μ1 h9₉ h1₉ h2₉ hr₉ hI₉ hT1₉ hf1₉ hO₉; exact absurd h9₉ (by omega)
    | succ fu ih20 =>
      intro m r μ1 h9₉ h1₉ h2₉ hr₉ hI₉ hT1₉ hf1₉ hO₉
      have hr9₉ : r < 32 := by rw [hr₉]; exact iter_lt hlt₉ m hs₉
      refine J.il4 dX5_addCycle_20 ?_
      refine J.bipush dX5_addCycle_22 kb_32 ?_
      refine J.icmp_geN (tgt := 55) dX5_addCycle_24 (by decide) (by omega) (by omega) (fun c24₉ => ?_) (fun c24₉ => ?_)
      · refine J.al0 dX5_addCycle_55 ?_
        refine J.bipush dX5_addCycle_56 kb_41 ?_
        have hcm₉ : cyL f s = m := cyL_eq (by omega) (by omega) hI₉ (by first | exact Or.inl (by rw [← hr₉]; exact c29₉) | exact Or.inr (by omega))
        have hw0₉ := tC_len f s (tN s (tP 40 T)) (m - 1)
        have hw1₉ : (tN s (tP 40 T)).1 ≤ T.1 + 3 := by have := numW_le s; show T.1 + 1 + numW s ≤ T.1 + 3; omega
        refine cl_X5_25 rfl hq₉ (k' := 0) (n' := 0) (c_addSignT _ hq₉ hT1₉ (by omega) (by decide)) ⟨⟨by decide, by decide⟩, ⟨rfl, rfl⟩, by decide, by decide⟩ rfl dX5_addCycle_58 (fun μ2 ⟨hT2₉, hO2₉⟩ => ?_)
        refine J.vret rfl (by decide) (by decide) dX5_addCycle_61 ⟨_, rfl, ?_, ?_⟩
        · rfl
        · exact ⟨by show TxR _ q (tP 41 (tC f s (cyL f s - 1) (tN s (tP 40 T)))); rw [hcm₉]; exact hT2₉, fun o h1₉ h2₉ => (hO2₉ o h1₉ h2₉).trans (hO₉ o h1₉ h2₉)⟩
      · refine J.il3 dX5_addCycle_27 ?_
        refine J.il2 dX5_addCycle_28 ?_
        refine J.icmp_eqN (tgt := 55) dX5_addCycle_29 (by decide) (by omega) (by omega) (fun c29₉ => ?_) (fun c29₉ => ?_)
        · refine J.al0 dX5_addCycle_55 ?_
          refine J.bipush dX5_addCycle_56 kb_41 ?_
          have hcm₉ : cyL f s = m := cyL_eq (by omega) (by omega) hI₉ (by first | exact Or.inl (by rw [← hr₉]; exact c29₉) | exact Or.inr (by omega))
          have hw0₉ := tC_len f s (tN s (tP 40 T)) (m - 1)
          have hw1₉ : (tN s (tP 40 T)).1 ≤ T.1 + 3 := by have := numW_le s; show T.1 + 1 + numW s ≤ T.1 + 3; omega
          refine cl_X5_25 rfl hq₉ (k' := 0) (n' := 0) (c_addSignT _ hq₉ hT1₉ (by omega) (by decide)) ⟨⟨by decide, by decide⟩, ⟨rfl, rfl⟩, by decide, by decide⟩ rfl dX5_addCycle_58 (fun μ2 ⟨hT2₉, hO2₉⟩ => ?_)
          refine J.vret rfl (by decide) (by decide) dX5_addCycle_61 ⟨_, rfl, ?_, ?_⟩
          · rfl
          · exact ⟨by show TxR _ q (tP 41 (tC f s (cyL f s - 1) (tN s (tP 40 T)))); rw [hcm₉]; exact hT2₉, fun o h1₉ h2₉ => (hO2₉ o h1₉ h2₉).trans (hO₉ o h1₉ h2₉)⟩
        · have hI2₉ : ∀ z, 1 ≤ z → z ≤ m → iter f z s ≠ s := fun z q1₉ q2₉ => if e : z = m then (by rw [e, ← hr₉]; exact c29₉) else hI₉ z q1₉ (by omega)
          refine J.al0 dX5_addCycle_32 ?_
          refine J.bipush dX5_addCycle_33 kb_32 ?_
          have hg₉ := cyL_gt hBF₉ hs₉ hI2₉
          have hw0₉ := tC_len f s (tN s (tP 40 T)) (m - 1)
          have hw1₉ : (tN s (tP 40 T)).1 ≤ T.1 + 3 := by have := numW_le s; show T.1 + 1 + numW s ≤ T.1 + 3; omega
          refine cl_X5_25 rfl hq₉ (k' := 0) (n' := 0) (c_addSignT _ hq₉ hT1₉ (by omega) (by decide)) ⟨⟨by decide, by decide⟩, ⟨rfl, rfl⟩, by decide, by decide⟩ rfl dX5_addCycle_35 (fun μ2 ⟨hT2₉, hO2₉⟩ => ?_)
          refine J.al0 dX5_addCycle_38 ?_
          refine J.il3 dX5_addCycle_39 ?_
          refine cl_X5_29 rfl hq₉ (k' := 0) (n' := 0) (c_addNumberT _ hq₉ hT2₉ (show (tP 32 (tC f s (m - 1) (tN s (tP 40 T)))).1 + 2 ≤ 120 by show (tC f s (m - 1) (tN s (tP 40 T))).1 + 1 + 2 ≤ 120; omega) (by omega)) ⟨⟨by decide, by decide⟩, ⟨rfl, rfl⟩, by decide, by decide⟩ rfl dX5_addCycle_40 (fun μ3 ⟨hT3₉, hO3₉⟩ => ?_)
          have hf3₉ : PermR μ3 (p + 1) f := hf1₉.eq ((hO3₉ _ hn₉ hn2₉).trans (hO2₉ _ hn₉ hn2₉))
          have hO4₉ : ∀ o, o ≠ q → o ≠ q + 1 → μ3 o = μ o := fun o h1₉ h2₉ => ((hO3₉ o h1₉ h2₉).trans (hO2₉ o h1₉ h2₉)).trans (hO₉ o h1₉ h2₉)
          refine J.al1 dX5_addCycle_43 ?_
          refine J.il3 dX5_addCycle_44 ?_
          refine cl_X5_33 rfl hp₉ (k' := 0) (n' := 0) (c_of _ hp₉ hf3₉ (by omega)) ⟨⟨by decide, by decide⟩, ⟨rfl, rfl⟩, by decide, by decide⟩ rfl dX5_addCycle_45 (fun μ9 h9₉ => ?_)
          rw [h9₉]; clear h9₉
          refine J.is3 dX5_addCycle_48 (by decide) rfl ?_
          refine J.ii4 (z := 1) dX5_addCycle_49 (by decide) (by decide) rfl ?_
          refine J.goto (tgt := 20) dX5_addCycle_52 (by decide) ?_
          have hT4₉ : TxR μ3 q (tC f s m (tN s (tP 40 T))) := by
            obtain ⟨m7, rfl⟩ : ∃ m7, m = m7 + 1 := ⟨m - 1, by omega⟩
            rw [hr₉] at hT3₉
            exact hT3₉
          exact ih20 (m + 1) (f r) _ (by omega) (by omega) (by omega) (by rw [hr₉]; rfl) (fun z q1₉ q2₉ => hI2₉ z q1₉ (by omega)) (by rw [Nat.add_sub_cancel]; exact hT4₉) hf3₉ hO4₉
  exact lp20_1 (33) 1 (f s) _ (by omega) (by omega) (by omega) rfl (fun z q1₉ q2₉ => absurd q2₉ (by omega)) hT3₉ hf3₉ hO4₉

set_option maxRecDepth 100000 in
set_option maxHeartbeats 4000000 in
theorem c_turnX0 {g : GP} {adr : Nat → Nat} (μ : Mem) {α : A7} (hCR₉ : CR μ α) {i : Int32} (hx₉ : ¬ (0 ≤ i ∧ i < nI 4)) {j : Int32} : CT g yX7_turn mX7_turn (RM 20 1 6) (WM g adr μ) [.ref (adr 0), .int i, .int j] (PM g adr (.inr "java/lang/IndexOutOfBoundsException") (fun μ' => CR μ' α ∧ FrC μ' μ)) := by
  refine CT.of (l0 := [some (.ref (adr 0)), some (.int i), some (.int j)]) (by decide +kernel) rfl (Nat.le_of_ble_eq_true rfl) rfl ?_
  refine J.il1 dX7_turn_0 ?_
  refine cx_X7_64 rfl (k' := 1) (n' := 6) (c_needRingX _ hx₉) ⟨⟨by decide, by decide⟩, ⟨rfl, rfl⟩, by decide, by decide⟩ rfl dX7_turn_1 (fun μ9 h9₉ => ?_)
  exact JX.out ⟨_, rfl, rfl, (by rw [h9₉]; exact ⟨hCR₉, FrC.rf⟩)⟩ rfl rfl (by decide) (by decide)

set_option maxRecDepth 100000 in
set_option maxHeartbeats 4000000 in
theorem c_turnX1 {g : GP} {adr : Nat → Nat} (μ : Mem) {α : A7} (hCR₉ : CR μ α) {i : Nat} (hi1₉ : i < 4) {j : Int32} (hx₉ : j < nI 1 ∨ nI 7 < j) : CT g yX7_turn mX7_turn (RM 20 1 6) (WM g adr μ) [.ref (adr 0), .int (nI i), .int j] (PM g adr (.inr "java/lang/IllegalArgumentException") (fun μ' => CR μ' α ∧ FrC μ' μ)) := by
  refine CT.of (l0 := [some (.ref (adr 0)), some (.int (nI i)), some (.int j)]) (by decide +kernel) rfl (Nat.le_of_ble_eq_true rfl) rfl ?_
  refine J.il1 dX7_turn_0 ?_
  refine cl_X7_64 rfl (k' := 0) (n' := 0) (c_needRingOk _ (by omega)) ⟨⟨by decide, by decide⟩, ⟨rfl, rfl⟩, by decide, by decide⟩ rfl dX7_turn_1 (fun μ9 h9₉ => ?_)
  rw [h9₉]; clear h9₉
  refine J.il2 dX7_turn_4 ?_
  refine J.iconst dX7_turn_5 kI_1 ?_
  refine J.bipush dX7_turn_6 kb_7 ?_
  refine cx_X7_68 rfl (k' := 1) (n' := 6) (c_needFromToX _ hx₉) ⟨⟨by decide, by decide⟩, ⟨rfl, rfl⟩, by decide, by decide⟩ rfl dX7_turn_8 (fun μ9 h9₉ => ?_)
  exact JX.out ⟨_, rfl, rfl, (by rw [h9₉]; exact ⟨hCR₉, FrC.rf⟩)⟩ rfl rfl (by decide) (by decide)

set_option maxRecDepth 100000 in
set_option maxHeartbeats 4000000 in
theorem c_turn {g : GP} {adr : Nat → Nat} (μ : Mem) {α : A7} (hCR₉ : CR μ α) {i : Nat} (hi1₉ : i < 4) {j : Nat} (hj1₉ : 1 ≤ j) (hj2₉ : j ≤ 7)  : CT g yX7_turn mX7_turn (RM 20 1 6) (WM g adr μ) [.ref (adr 0), .int (nI i), .int (nI j)] (PM g adr ((.inl (some (.int (nI (cnt (fun s => decide (aAt (mvS 0 i j (qS α)) s = s)) 32)))))) (fun μ' => CR μ' (aPush (mvS 0 i j (qS α)) α) ∧ FrC μ' μ)) := by
  refine CT.of (l0 := [some (.ref (adr 0)), some (.int (nI i)), some (.int (nI j))]) (by decide +kernel) rfl (Nat.le_of_ble_eq_true rfl) rfl ?_
  refine J.il1 dX7_turn_0 ?_
  refine cl_X7_64 rfl (k' := 0) (n' := 0) (c_needRingOk _ (by omega)) ⟨⟨by decide, by decide⟩, ⟨rfl, rfl⟩, by decide, by decide⟩ rfl dX7_turn_1 (fun μ9 h9₉ => ?_)
  rw [h9₉]; clear h9₉
  refine J.il2 dX7_turn_4 ?_
  refine J.iconst dX7_turn_5 kI_1 ?_
  refine J.bipush dX7_turn_6 kb_7 ?_
  refine cl_X7_68 rfl (k' := 0) (n' := 0) (c_needFromToOk _ (by omega) (by omega) (by decide)) ⟨⟨by decide, by decide⟩, ⟨rfl, rfl⟩, by decide, by decide⟩ rfl dX7_turn_8 (fun μ9 h9₉ => ?_)
  rw [h9₉]; clear h9₉
  refine J.al0 dX7_turn_11 ?_
  refine gf_X7_19 rfl (o2 := 20) (by decide) rfl dX7_turn_12 ?_
  refine J.al0 dX7_turn_15 ?_
  refine gf_X7_10 rfl (o2 := 1) (by decide) rfl dX7_turn_16 ?_
  refine cl_X7_72 rfl (by decide) (k' := 0) (n' := 0) (c_hold _ hCR₉.2.1 hCR₉.1) ⟨⟨by decide, by decide⟩, ⟨rfl, rfl⟩, by decide, by decide⟩ rfl dX7_turn_19 (fun μ2 ⟨hP2₉, hO2₉⟩ => ?_)
  have hC2₉ : CS μ2 1 (qS α) := hCR₉.1.off (fun o q1₉ q2₉ => hO2₉ o (by omega))
  refine J.al0 dX7_turn_22 ?_
  refine J.iconst dX7_turn_23 kI_0 ?_
  refine J.il1 dX7_turn_24 ?_
  refine J.il2 dX7_turn_25 ?_
  refine cl_X7_76 rfl (by decide) (k' := 0) (n' := 0) (c_doLoggedMove _ (show mvOK 0 i j by unfold mvOK; omega) hC2₉) ⟨⟨by decide, by decide⟩, ⟨rfl, rfl⟩, by decide, by decide⟩ rfl dX7_turn_26 (fun μ3 ⟨hC3₉, hO3₉⟩ => ?_)
  refine J.al0 dX7_turn_29 ?_
  refine gf_X7_10 rfl (o2 := 1) (by decide) rfl dX7_turn_30 ?_
  refine gf_X7_79 rfl (o2 := 2) (by decide) rfl dX7_turn_33 ?_
  refine cl_X7_83 rfl (by decide) (k' := 0) (n' := 0) (c_countHome _ (by decide) hC3₉.1) ⟨⟨by decide, by decide⟩, ⟨rfl, rfl⟩, by decide, by decide⟩ rfl dX7_turn_36 (fun μ9 h9₉ => ?_)
  rw [h9₉]; clear h9₉
  refine J.iret rfl (by decide) (by decide) dX7_turn_39 ⟨_, rfl, ?_, ?_⟩
  · rfl
  · exact ⟨hCR₉.push hP2₉ hO2₉ hC3₉ (fun o ho₉ => hO3₉ o (by omega) (by omega)), fun o ho₉ => by rw [hO3₉ o (by omega) (by omega), hO2₉ o (by omega)]⟩

set_option maxRecDepth 100000 in
set_option maxHeartbeats 4000000 in
theorem c_shiftX0 {g : GP} {adr : Nat → Nat} (μ : Mem) {α : A7} (hCR₉ : CR μ α) {i : Int32} (hx₉ : ¬ (0 ≤ i ∧ i < nI 8)) {j : Int32} : CT g yX7_shift mX7_shift (RM 20 1 6) (WM g adr μ) [.ref (adr 0), .int i, .int j] (PM g adr (.inr "java/lang/IndexOutOfBoundsException") (fun μ' => CR μ' α ∧ FrC μ' μ)) := by
  refine CT.of (l0 := [some (.ref (adr 0)), some (.int i), some (.int j)]) (by decide +kernel) rfl (Nat.le_of_ble_eq_true rfl) rfl ?_
  refine J.il1 dX7_shift_0 ?_
  refine J.bipush dX7_shift_1 kb_8 ?_
  refine cx_X7_89 rfl (k' := 1) (n' := 6) (c_needIndexX _ hx₉ (by omega)) ⟨⟨by decide, by decide⟩, ⟨rfl, rfl⟩, by decide, by decide⟩ rfl dX7_shift_3 (fun μ9 h9₉ => ?_)
  exact JX.out ⟨_, rfl, rfl, (by rw [h9₉]; exact ⟨hCR₉, FrC.rf⟩)⟩ rfl rfl (by decide) (by decide)

set_option maxRecDepth 100000 in
set_option maxHeartbeats 4000000 in
theorem c_shiftX1 {g : GP} {adr : Nat → Nat} (μ : Mem) {α : A7} (hCR₉ : CR μ α) {i : Nat} (hi1₉ : i < 8) {j : Int32} (hx₉ : j < nI 1 ∨ nI 3 < j) : CT g yX7_shift mX7_shift (RM 20 1 6) (WM g adr μ) [.ref (adr 0), .int (nI i), .int j] (PM g adr (.inr "java/lang/IllegalArgumentException") (fun μ' => CR μ' α ∧ FrC μ' μ)) := by
  refine CT.of (l0 := [some (.ref (adr 0)), some (.int (nI i)), some (.int j)]) (by decide +kernel) rfl (Nat.le_of_ble_eq_true rfl) rfl ?_
  refine J.il1 dX7_shift_0 ?_
  refine J.bipush dX7_shift_1 kb_8 ?_
  refine cl_X7_89 rfl (k' := 0) (n' := 0) (c_needIndexOk _ (by omega) (by omega)) ⟨⟨by decide, by decide⟩, ⟨rfl, rfl⟩, by decide, by decide⟩ rfl dX7_shift_3 (fun μ9 h9₉ => ?_)
  rw [h9₉]; clear h9₉
  refine J.il2 dX7_shift_6 ?_
  refine J.iconst dX7_shift_7 kI_1 ?_
  refine J.iconst dX7_shift_8 kI_3 ?_
  refine cx_X7_68 rfl (k' := 1) (n' := 6) (c_needFromToX _ hx₉) ⟨⟨by decide, by decide⟩, ⟨rfl, rfl⟩, by decide, by decide⟩ rfl dX7_shift_9 (fun μ9 h9₉ => ?_)
  exact JX.out ⟨_, rfl, rfl, (by rw [h9₉]; exact ⟨hCR₉, FrC.rf⟩)⟩ rfl rfl (by decide) (by decide)

set_option maxRecDepth 100000 in
set_option maxHeartbeats 4000000 in
theorem c_shift {g : GP} {adr : Nat → Nat} (μ : Mem) {α : A7} (hCR₉ : CR μ α) {i : Nat} (hi1₉ : i < 8) {j : Nat} (hj1₉ : 1 ≤ j) (hj2₉ : j ≤ 3)  : CT g yX7_shift mX7_shift (RM 20 1 6) (WM g adr μ) [.ref (adr 0), .int (nI i), .int (nI j)] (PM g adr ((.inl (some (.int (nI (cnt (fun s => decide (aAt (mvS 1 i j (qS α)) s = s)) 32)))))) (fun μ' => CR μ' (aPush (mvS 1 i j (qS α)) α) ∧ FrC μ' μ)) := by
  refine CT.of (l0 := [some (.ref (adr 0)), some (.int (nI i)), some (.int (nI j))]) (by decide +kernel) rfl (Nat.le_of_ble_eq_true rfl) rfl ?_
  refine J.il1 dX7_shift_0 ?_
  refine J.bipush dX7_shift_1 kb_8 ?_
  refine cl_X7_89 rfl (k' := 0) (n' := 0) (c_needIndexOk _ (by omega) (by omega)) ⟨⟨by decide, by decide⟩, ⟨rfl, rfl⟩, by decide, by decide⟩ rfl dX7_shift_3 (fun μ9 h9₉ => ?_)
  rw [h9₉]; clear h9₉
  refine J.il2 dX7_shift_6 ?_
  refine J.iconst dX7_shift_7 kI_1 ?_
  refine J.iconst dX7_shift_8 kI_3 ?_
  refine cl_X7_68 rfl (k' := 0) (n' := 0) (c_needFromToOk _ (by omega) (by omega) (by decide)) ⟨⟨by decide, by decide⟩, ⟨rfl, rfl⟩, by decide, by decide⟩ rfl dX7_shift_9 (fun μ9 h9₉ => ?_)
  rw [h9₉]; clear h9₉
  refine J.al0 dX7_shift_12 ?_
  refine gf_X7_19 rfl (o2 := 20) (by decide) rfl dX7_shift_13 ?_
  refine J.al0 dX7_shift_16 ?_
  refine gf_X7_10 rfl (o2 := 1) (by decide) rfl dX7_shift_17 ?_
  refine cl_X7_72 rfl (by decide) (k' := 0) (n' := 0) (c_hold _ hCR₉.2.1 hCR₉.1) ⟨⟨by decide, by decide⟩, ⟨rfl, rfl⟩, by decide, by decide⟩ rfl dX7_shift_20 (fun μ2 ⟨hP2₉, hO2₉⟩ => ?_)
  have hC2₉ : CS μ2 1 (qS α) := hCR₉.1.off (fun o q1₉ q2₉ => hO2₉ o (by omega))
  refine J.al0 dX7_shift_23 ?_
  refine J.iconst dX7_shift_24 kI_1 ?_
  refine J.il1 dX7_shift_25 ?_
  refine J.il2 dX7_shift_26 ?_
  refine cl_X7_76 rfl (by decide) (k' := 0) (n' := 0) (c_doLoggedMove _ (show mvOK 1 i j by unfold mvOK; omega) hC2₉) ⟨⟨by decide, by decide⟩, ⟨rfl, rfl⟩, by decide, by decide⟩ rfl dX7_shift_27 (fun μ3 ⟨hC3₉, hO3₉⟩ => ?_)
  refine J.al0 dX7_shift_30 ?_
  refine gf_X7_10 rfl (o2 := 1) (by decide) rfl dX7_shift_31 ?_
  refine gf_X7_79 rfl (o2 := 2) (by decide) rfl dX7_shift_34 ?_
  refine cl_X7_83 rfl (by decide) (k' := 0) (n' := 0) (c_countHome _ (by decide) hC3₉.1) ⟨⟨by decide, by decide⟩, ⟨rfl, rfl⟩, by decide, by decide⟩ rfl dX7_shift_37 (fun μ9 h9₉ => ?_)
  rw [h9₉]; clear h9₉
  refine J.iret rfl (by decide) (by decide) dX7_shift_40 ⟨_, rfl, ?_, ?_⟩
  · rfl
  · exact ⟨hCR₉.push hP2₉ hO2₉ hC3₉ (fun o ho₉ => hO3₉ o (by omega) (by omega)), fun o ho₉ => by rw [hO3₉ o (by omega) (by omega), hO2₉ o (by omega)]⟩

set_option maxRecDepth 100000 in
set_option maxHeartbeats 4000000 in
theorem c_backX {g : GP} {adr : Nat → Nat} (μ : Mem) {α : A7} (hCR₉ : CR μ α) (h0₉ : aLn (qS α) = 0) : CT g yX7_back mX7_back (RM 20 1 6) (WM g adr μ) [.ref (adr 0)] (PM g adr (.inr "java/lang/UnsupportedOperationException") (fun μ' => CR μ' (aRef 1 0 α) ∧ FrC μ' μ)) := by
  refine CT.of (l0 := [some (.ref (adr 0)), none, none]) (by decide +kernel) rfl (Nat.le_of_ble_eq_true rfl) rfl ?_
  refine J.al0 dX7_back_0 ?_
  refine gf_X7_10 rfl (o2 := 1) (by decide) rfl dX7_back_1 ?_
  refine gf_X7_93 rfl (o2 := 6) (by decide) rfl dX7_back_4 ?_
  have hsz₉ := c_l_size (g := g) (adr := adr) μ (m := 6) (by decide) hCR₉.1.2.2.2.1
  rw [h0₉] at hsz₉
  refine cl_X7_97 rfl (by decide) (k' := 0) (n' := 0) (hsz₉) ⟨⟨by decide, by decide⟩, ⟨rfl, rfl⟩, by decide, by decide⟩ rfl dX7_back_7 (fun μ9 h9₉ => ?_)
  rw [h9₉]; clear h9₉
  refine J.iconst dX7_back_10 kI_1 ?_
  refine J.isub dX7_back_11 rfl ?_
  refine J.is1 dX7_back_12 (by decide) rfl ?_
  refine J.il1 dX7_back_13 ?_
  refine J.if_ge (tgt := 23) dX7_back_14 (by decide) (fun c14₉ => absurd c14₉ (by decide)) (fun c14₉ => ?_)
  refine J.al0 dX7_back_17 ?_
  refine J.iconst dX7_back_18 kI_1 ?_
  refine J.iconst dX7_back_19 kI_0 ?_
  refine cx_X7_102 rfl (by decide) (k' := 1) (n' := 6) (c_refuse _) ⟨⟨by decide, by decide⟩, ⟨rfl, rfl⟩, by decide, by decide⟩ rfl dX7_back_20 (fun μ9 h9₉ => ?_)
  exact JX.out ⟨_, rfl, rfl, (by rw [h9₉]; exact ⟨hCR₉.ref (by decide), fun o ho₉ => by rw [wr_o (by omega), wr_o (by omega)]⟩)⟩ rfl rfl (by decide) (by decide)

set_option maxRecDepth 100000 in
set_option maxHeartbeats 4000000 in
theorem c_back0 {g : GP} {adr : Nat → Nat} (μ : Mem) {α : A7} (hCR₉ : CR μ α) {x w b : Nat} (hx₉ : aLn (qS α) = x + 1) (ha₉ : aLg (qS α) (3 * x) = 0) (hw₉ : aLg (qS α) (3 * x + 1) = w) (hb₉ : aLg (qS α) (3 * x + 2) = b) (hm₉ : mvOK 0 w b) : CT g yX7_back mX7_back (RM 20 1 6) (WM g adr μ) [.ref (adr 0)] (PM g adr ((.inl (some (.int (nI x))))) (fun μ' => CR μ' (aPush (sLen x (sMv (sDo (moveF 0 w (8 - b)) (qS α)))) α) ∧ FrC μ' μ)) := by
  refine CT.of (l0 := [some (.ref (adr 0)), none, none]) (by decide +kernel) rfl (Nat.le_of_ble_eq_true rfl) rfl ?_
  have hq₉ : w < 4 ∧ 1 ≤ b ∧ b < 8 := by unfold mvOK at hm₉; omega
  have hln₉ := hCR₉.1.ln
  refine J.al0 dX7_back_0 ?_
  refine gf_X7_10 rfl (o2 := 1) (by decide) rfl dX7_back_1 ?_
  refine gf_X7_93 rfl (o2 := 6) (by decide) rfl dX7_back_4 ?_
  have hsz₉ := c_l_size (g := g) (adr := adr) μ (m := 6) (by decide) hCR₉.1.2.2.2.1
  rw [hx₉] at hsz₉
  refine cl_X7_97 rfl (by decide) (k' := 0) (n' := 0) (hsz₉) ⟨⟨by decide, by decide⟩, ⟨rfl, rfl⟩, by decide, by decide⟩ rfl dX7_back_7 (fun μ9 h9₉ => ?_)
  rw [h9₉]; clear h9₉
  refine J.iconst dX7_back_10 kI_1 ?_
  refine J.isubN dX7_back_11 (by omega) ?_
  rw [Nat.add_sub_cancel]
  refine J.is1 dX7_back_12 (by decide) rfl ?_
  refine J.il1 dX7_back_13 ?_
  refine J.if_geN (tgt := 23) dX7_back_14 (by decide) (by omega) (fun c14₉ => ?_) (fun c14₉ => c14₉.elim)
  refine J.al0 dX7_back_23 ?_
  refine gf_X7_19 rfl (o2 := 20) (by decide) rfl dX7_back_24 ?_
  refine J.al0 dX7_back_27 ?_
  refine gf_X7_10 rfl (o2 := 1) (by decide) rfl dX7_back_28 ?_
  refine cl_X7_72 rfl (by decide) (k' := 0) (n' := 0) (c_hold _ hCR₉.2.1 hCR₉.1) ⟨⟨by decide, by decide⟩, ⟨rfl, rfl⟩, by decide, by decide⟩ rfl dX7_back_31 (fun μ2 ⟨hP2₉, hO2₉⟩ => ?_)
  have hC2₉ : CS μ2 1 (qS α) := hCR₉.1.off (fun o q1₉ q2₉ => hO2₉ o (by omega))
  refine J.al0 dX7_back_34 ?_
  refine gf_X7_10 rfl (o2 := 1) (by decide) rfl dX7_back_35 ?_
  refine gf_X7_93 rfl (o2 := 6) (by decide) rfl dX7_back_38 ?_
  refine J.il1 dX7_back_41 ?_
  refine J.iconst dX7_back_42 kI_0 ?_
  have hpt0₉ := c_part (g := g) (adr := adr) μ2 (m := 6) (x := x + 1) (a := x) (c := 0) (by decide) (by rw [← hx₉]; exact hC2₉.2.2.2.1) (by have := hC2₉.ln; omega) (by omega) (by decide) (by rw [← hx₉]; exact hC2₉.2.2.2.2.1)
  rw [show x * 3 + 0 = 3 * x by omega, ha₉] at hpt0₉
  refine cl_X7_105 rfl (by decide) (k' := 0) (n' := 0) (hpt0₉) ⟨⟨by decide, by decide⟩, ⟨rfl, rfl⟩, by decide, by decide⟩ rfl dX7_back_43 (fun μ9 h9₉ => ?_)
  rw [h9₉]; clear h9₉
  refine J.is2 dX7_back_46 (by decide) rfl ?_
  refine J.al0 dX7_back_47 ?_
  refine J.il2 dX7_back_48 ?_
  refine J.al0 dX7_back_49 ?_
  refine gf_X7_10 rfl (o2 := 1) (by decide) rfl dX7_back_50 ?_
  refine gf_X7_93 rfl (o2 := 6) (by decide) rfl dX7_back_53 ?_
  refine J.il1 dX7_back_56 ?_
  refine J.iconst dX7_back_57 kI_1 ?_
  have hpt1₉ := c_part (g := g) (adr := adr) μ2 (m := 6) (x := x + 1) (a := x) (c := 1) (by decide) (by rw [← hx₉]; exact hC2₉.2.2.2.1) (by have := hC2₉.ln; omega) (by omega) (by decide) (by rw [← hx₉]; exact hC2₉.2.2.2.2.1)
  rw [show x * 3 + 1 = 3 * x + 1 by omega, hw₉] at hpt1₉
  refine cl_X7_105 rfl (by decide) (k' := 0) (n' := 0) (hpt1₉) ⟨⟨by decide, by decide⟩, ⟨rfl, rfl⟩, by decide, by decide⟩ rfl dX7_back_58 (fun μ9 h9₉ => ?_)
  rw [h9₉]; clear h9₉
  refine J.il2 dX7_back_61 ?_
  refine cl_X7_109 rfl (k' := 0) (n' := 0) (c_roundOf0 _) ⟨⟨by decide, by decide⟩, ⟨rfl, rfl⟩, by decide, by decide⟩ rfl dX7_back_62 (fun μ9 h9₉ => ?_)
  rw [h9₉]; clear h9₉
  refine J.al0 dX7_back_65 ?_
  refine gf_X7_10 rfl (o2 := 1) (by decide) rfl dX7_back_66 ?_
  refine gf_X7_93 rfl (o2 := 6) (by decide) rfl dX7_back_69 ?_
  refine J.il1 dX7_back_72 ?_
  refine J.iconst dX7_back_73 kI_2 ?_
  have hpt2₉ := c_part (g := g) (adr := adr) μ2 (m := 6) (x := x + 1) (a := x) (c := 2) (by decide) (by rw [← hx₉]; exact hC2₉.2.2.2.1) (by have := hC2₉.ln; omega) (by omega) (by decide) (by rw [← hx₉]; exact hC2₉.2.2.2.2.1)
  rw [show x * 3 + 2 = 3 * x + 2 by omega, hb₉] at hpt2₉
  refine cl_X7_105 rfl (by decide) (k' := 0) (n' := 0) (hpt2₉) ⟨⟨by decide, by decide⟩, ⟨rfl, rfl⟩, by decide, by decide⟩ rfl dX7_back_74 (fun μ9 h9₉ => ?_)
  rw [h9₉]; clear h9₉
  refine J.isubN dX7_back_77 (by omega) ?_
  refine cl_X7_113 rfl (by decide) (k' := 0) (n' := 0) (c_doMove _ (show mvOK 0 w (8 - b) by unfold mvOK; omega) hC2₉) ⟨⟨by decide, by decide⟩, ⟨rfl, rfl⟩, by decide, by decide⟩ rfl dX7_back_78 (fun μ3 ⟨hC3₉, hO3₉⟩ => ?_)
  have hln3₉ : μ3 6 1 = nI (x + 1) := by rw [← hx₉]; exact hC3₉.2.2.2.1
  refine J.al0 dX7_back_81 ?_
  refine gf_X7_10 rfl (o2 := 1) (by decide) rfl dX7_back_82 ?_
  refine gf_X7_93 rfl (o2 := 6) (by decide) rfl dX7_back_85 ?_
  have hdl₉ := c_dropLast (g := g) (adr := adr) μ3 (m := 6) (by decide) hln3₉ (by omega) (by omega)
  rw [Nat.add_sub_cancel] at hdl₉
  refine cl_X7_116 rfl (by decide) (k' := 0) (n' := 0) (hdl₉) ⟨⟨by decide, by decide⟩, ⟨rfl, rfl⟩, by decide, by decide⟩ rfl dX7_back_88 (fun μ4 h4₉ => ?_)
  subst h4₉
  refine J.al0 dX7_back_91 ?_
  refine gf_X7_10 rfl (o2 := 1) (by decide) rfl dX7_back_92 ?_
  refine gf_X7_93 rfl (o2 := 6) (by decide) rfl dX7_back_95 ?_
  refine cl_X7_97 rfl (by decide) (k' := 0) (n' := 0) (c_l_size _ (by decide) wr_s) ⟨⟨by decide, by decide⟩, ⟨rfl, rfl⟩, by decide, by decide⟩ rfl dX7_back_98 (fun μ9 h9₉ => ?_)
  rw [h9₉]; clear h9₉
  refine J.iret rfl (by decide) (by decide) dX7_back_101 ⟨_, rfl, ?_, ?_⟩
  · rfl
  · exact ⟨hCR₉.push hP2₉ hO2₉ (hC3₉.sLenA (x := x) (show x ≤ aLn (qS α) by omega)) (fun o ho₉ => by rw [wr_o (by omega), hO3₉ o (by omega) (by omega) (by omega) (by omega)]), fun o ho₉ => by rw [wr_o (by omega), hO3₉ o (by omega) (by omega) (by omega) (by omega), hO2₉ o (by omega)]⟩

set_option maxRecDepth 100000 in
set_option maxHeartbeats 4000000 in
theorem c_back1 {g : GP} {adr : Nat → Nat} (μ : Mem) {α : A7} (hCR₉ : CR μ α) {x w b : Nat} (hx₉ : aLn (qS α) = x + 1) (ha₉ : aLg (qS α) (3 * x) = 1) (hw₉ : aLg (qS α) (3 * x + 1) = w) (hb₉ : aLg (qS α) (3 * x + 2) = b) (hm₉ : mvOK 1 w b) : CT g yX7_back mX7_back (RM 20 1 6) (WM g adr μ) [.ref (adr 0)] (PM g adr ((.inl (some (.int (nI x))))) (fun μ' => CR μ' (aPush (sLen x (sMv (sDo (moveF 1 w (4 - b)) (qS α)))) α) ∧ FrC μ' μ)) := by
  refine CT.of (l0 := [some (.ref (adr 0)), none, none]) (by decide +kernel) rfl (Nat.le_of_ble_eq_true rfl) rfl ?_
  have hq₉ : w < 8 ∧ 1 ≤ b ∧ b < 4 := by unfold mvOK at hm₉; omega
  have hln₉ := hCR₉.1.ln
  refine J.al0 dX7_back_0 ?_
  refine gf_X7_10 rfl (o2 := 1) (by decide) rfl dX7_back_1 ?_
  refine gf_X7_93 rfl (o2 := 6) (by decide) rfl dX7_back_4 ?_
  have hsz₉ := c_l_size (g := g) (adr := adr) μ (m := 6) (by decide) hCR₉.1.2.2.2.1
  rw [hx₉] at hsz₉
  refine cl_X7_97 rfl (by decide) (k' := 0) (n' := 0) (hsz₉) ⟨⟨by decide, by decide⟩, ⟨rfl, rfl⟩, by decide, by decide⟩ rfl dX7_back_7 (fun μ9 h9₉ => ?_)
  rw [h9₉]; clear h9₉
  refine J.iconst dX7_back_10 kI_1 ?_
  refine J.isubN dX7_back_11 (by omega) ?_
  rw [Nat.add_sub_cancel]
  refine J.is1 dX7_back_12 (by decide) rfl ?_
  refine J.il1 dX7_back_13 ?_
  refine J.if_geN (tgt := 23) dX7_back_14 (by decide) (by omega) (fun c14₉ => ?_) (fun c14₉ => c14₉.elim)
  refine J.al0 dX7_back_23 ?_
  refine gf_X7_19 rfl (o2 := 20) (by decide) rfl dX7_back_24 ?_
  refine J.al0 dX7_back_27 ?_
  refine gf_X7_10 rfl (o2 := 1) (by decide) rfl dX7_back_28 ?_
  refine cl_X7_72 rfl (by decide) (k' := 0) (n' := 0) (c_hold _ hCR₉.2.1 hCR₉.1) ⟨⟨by decide, by decide⟩, ⟨rfl, rfl⟩, by decide, by decide⟩ rfl dX7_back_31 (fun μ2 ⟨hP2₉, hO2₉⟩ => ?_)
  have hC2₉ : CS μ2 1 (qS α) := hCR₉.1.off (fun o q1₉ q2₉ => hO2₉ o (by omega))
  refine J.al0 dX7_back_34 ?_
  refine gf_X7_10 rfl (o2 := 1) (by decide) rfl dX7_back_35 ?_
  refine gf_X7_93 rfl (o2 := 6) (by decide) rfl dX7_back_38 ?_
  refine J.il1 dX7_back_41 ?_
  refine J.iconst dX7_back_42 kI_0 ?_
  have hpt0₉ := c_part (g := g) (adr := adr) μ2 (m := 6) (x := x + 1) (a := x) (c := 0) (by decide) (by rw [← hx₉]; exact hC2₉.2.2.2.1) (by have := hC2₉.ln; omega) (by omega) (by decide) (by rw [← hx₉]; exact hC2₉.2.2.2.2.1)
  rw [show x * 3 + 0 = 3 * x by omega, ha₉] at hpt0₉
  refine cl_X7_105 rfl (by decide) (k' := 0) (n' := 0) (hpt0₉) ⟨⟨by decide, by decide⟩, ⟨rfl, rfl⟩, by decide, by decide⟩ rfl dX7_back_43 (fun μ9 h9₉ => ?_)
  rw [h9₉]; clear h9₉
  refine J.is2 dX7_back_46 (by decide) rfl ?_
  refine J.al0 dX7_back_47 ?_
  refine J.il2 dX7_back_48 ?_
  refine J.al0 dX7_back_49 ?_
  refine gf_X7_10 rfl (o2 := 1) (by decide) rfl dX7_back_50 ?_
  refine gf_X7_93 rfl (o2 := 6) (by decide) rfl dX7_back_53 ?_
  refine J.il1 dX7_back_56 ?_
  refine J.iconst dX7_back_57 kI_1 ?_
  have hpt1₉ := c_part (g := g) (adr := adr) μ2 (m := 6) (x := x + 1) (a := x) (c := 1) (by decide) (by rw [← hx₉]; exact hC2₉.2.2.2.1) (by have := hC2₉.ln; omega) (by omega) (by decide) (by rw [← hx₉]; exact hC2₉.2.2.2.2.1)
  rw [show x * 3 + 1 = 3 * x + 1 by omega, hw₉] at hpt1₉
  refine cl_X7_105 rfl (by decide) (k' := 0) (n' := 0) (hpt1₉) ⟨⟨by decide, by decide⟩, ⟨rfl, rfl⟩, by decide, by decide⟩ rfl dX7_back_58 (fun μ9 h9₉ => ?_)
  rw [h9₉]; clear h9₉
  refine J.il2 dX7_back_61 ?_
  refine cl_X7_109 rfl (k' := 0) (n' := 0) (c_roundOf1 _) ⟨⟨by decide, by decide⟩, ⟨rfl, rfl⟩, by decide, by decide⟩ rfl dX7_back_62 (fun μ9 h9₉ => ?_)
  rw [h9₉]; clear h9₉
  refine J.al0 dX7_back_65 ?_
  refine gf_X7_10 rfl (o2 := 1) (by decide) rfl dX7_back_66 ?_
  refine gf_X7_93 rfl (o2 := 6) (by decide) rfl dX7_back_69 ?_
  refine J.il1 dX7_back_72 ?_
  refine J.iconst dX7_back_73 kI_2 ?_
  have hpt2₉ := c_part (g := g) (adr := adr) μ2 (m := 6) (x := x + 1) (a := x) (c := 2) (by decide) (by rw [← hx₉]; exact hC2₉.2.2.2.1) (by have := hC2₉.ln; omega) (by omega) (by decide) (by rw [← hx₉]; exact hC2₉.2.2.2.2.1)
  rw [show x * 3 + 2 = 3 * x + 2 by omega, hb₉] at hpt2₉
  refine cl_X7_105 rfl (by decide) (k' := 0) (n' := 0) (hpt2₉) ⟨⟨by decide, by decide⟩, ⟨rfl, rfl⟩, by decide, by decide⟩ rfl dX7_back_74 (fun μ9 h9₉ => ?_)
  rw [h9₉]; clear h9₉
  refine J.isubN dX7_back_77 (by omega) ?_
  refine cl_X7_113 rfl (by decide) (k' := 0) (n' := 0) (c_doMove _ (show mvOK 1 w (4 - b) by unfold mvOK; omega) hC2₉) ⟨⟨by decide, by decide⟩, ⟨rfl, rfl⟩, by decide, by decide⟩ rfl dX7_back_78 (fun μ3 ⟨hC3₉, hO3₉⟩ => ?_)
  have hln3₉ : μ3 6 1 = nI (x + 1) := by rw [← hx₉]; exact hC3₉.2.2.2.1
  refine J.al0 dX7_back_81 ?_
  refine gf_X7_10 rfl (o2 := 1) (by decide) rfl dX7_back_82 ?_
  refine gf_X7_93 rfl (o2 := 6) (by decide) rfl dX7_back_85 ?_
  have hdl₉ := c_dropLast (g := g) (adr := adr) μ3 (m := 6) (by decide) hln3₉ (by omega) (by omega)
  rw [Nat.add_sub_cancel] at hdl₉
  refine cl_X7_116 rfl (by decide) (k' := 0) (n' := 0) (hdl₉) ⟨⟨by decide, by decide⟩, ⟨rfl, rfl⟩, by decide, by decide⟩ rfl dX7_back_88 (fun μ4 h4₉ => ?_)
  subst h4₉
  refine J.al0 dX7_back_91 ?_
  refine gf_X7_10 rfl (o2 := 1) (by decide) rfl dX7_back_92 ?_
  refine gf_X7_93 rfl (o2 := 6) (by decide) rfl dX7_back_95 ?_
  refine cl_X7_97 rfl (by decide) (k' := 0) (n' := 0) (c_l_size _ (by decide) wr_s) ⟨⟨by decide, by decide⟩, ⟨rfl, rfl⟩, by decide, by decide⟩ rfl dX7_back_98 (fun μ9 h9₉ => ?_)
  rw [h9₉]; clear h9₉
  refine J.iret rfl (by decide) (by decide) dX7_back_101 ⟨_, rfl, ?_, ?_⟩
  · rfl
  · exact ⟨hCR₉.push hP2₉ hO2₉ (hC3₉.sLenA (x := x) (show x ≤ aLn (qS α) by omega)) (fun o ho₉ => by rw [wr_o (by omega), hO3₉ o (by omega) (by omega) (by omega) (by omega)]), fun o ho₉ => by rw [wr_o (by omega), hO3₉ o (by omega) (by omega) (by omega) (by omega), hO2₉ o (by omega)]⟩
