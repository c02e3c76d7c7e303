/-! ===== printed: the state and the past ===== -/
set_option maxRecDepth 100000 in
set_option maxHeartbeats 4000000 in
theorem c_st_copyFrom {g : GP} {adr : Nat → Nat} (μ : Mem) {t u : Nat} (ht₉ : kt t = 5) (hu₉ : kt u = 5) (hn₉ : t + 19 ≤ u ∨ u + 19 ≤ t) (hz₉ : ∀ i, i < 5 → μ (u + 8) i = nI 0 ∨ μ (u + 8) i = nI 1) : CT g yX6_copyFrom mX6_copyFrom (RM 2 0 0) (WM g adr μ) [.ref (adr t), .ref (adr u)] (PM g adr (.inl none) (fun μ' => SEq μ' t μ u ∧ ∀ o, (o < t ∨ t + 19 ≤ o) → μ' o = μ o)) := by
  refine CT.of (l0 := [some (.ref (adr t)), some (.ref (adr u)), none]) (by decide +kernel) rfl (Nat.le_of_ble_eq_true rfl) rfl ?_
  have hk₉ := kt_st ht₉
  have hk2₉ := kt_st hu₉
  refine J.al0 dX6_copyFrom_0 ?_
  refine gf_X6_12 rfl (o2 := t + 1) ht₉ rfl dX6_copyFrom_1 ?_
  refine J.al1 dX6_copyFrom_4 ?_
  refine gf_X6_12 rfl (o2 := u + 1) hu₉ rfl dX6_copyFrom_5 ?_
  refine cl_X6_43 rfl hk₉.1 (k' := 0) (n' := 0) (c_b_copyFrom _ hk₉.1 hk2₉.1 (by omega)) ⟨⟨by decide, by decide⟩, ⟨rfl, rfl⟩, by decide, by decide⟩ rfl dX6_copyFrom_8 (fun μ2 ⟨hb2₉, hO1₉⟩ => ?_)
  refine J.al0 dX6_copyFrom_11 ?_
  refine gf_X6_21 rfl (o2 := t + 5) ht₉ rfl dX6_copyFrom_12 ?_
  refine J.al1 dX6_copyFrom_15 ?_
  refine gf_X6_21 rfl (o2 := u + 5) hu₉ rfl dX6_copyFrom_16 ?_
  refine cl_X6_47 rfl hk₉.2.1 (k' := 0) (n' := 0) (c_l_copyFrom _ hk₉.2.1 hk2₉.2.1 (by omega)) ⟨⟨by decide, by decide⟩, ⟨rfl, rfl⟩, by decide, by decide⟩ rfl dX6_copyFrom_19 (fun μ3 ⟨hl3₉, hm3₉, hO3₉⟩ => ?_)
  have hO2₉ := cs_two hO1₉ hO3₉
  refine J.al0 dX6_copyFrom_22 ?_
  refine J.al1 dX6_copyFrom_23 ?_
  refine gf_X6_25 rfl (x := μ u 2) hu₉ (cs_rd3 hO2₉ (by omega) (by omega)) dX6_copyFrom_24 ?_
  refine pf_X6_25 rfl ht₉ dX6_copyFrom_27 ?_
  refine J.al0 dX6_copyFrom_30 ?_
  refine J.al1 dX6_copyFrom_31 ?_
  refine gf_X6_29 rfl (x := μ u 3) hu₉ (by rw [wr_o (by omega)]; exact cs_rd3 hO2₉ (by omega) (by omega)) dX6_copyFrom_32 ?_
  refine pf_X6_29 rfl ht₉ dX6_copyFrom_35 ?_
  refine J.iconst dX6_copyFrom_38 kI_0 ?_
  refine J.is2 dX6_copyFrom_39 (by decide) rfl ?_
  have lp40_1 : ∀ (fu : Nat) (i : Nat) (μ1 : Mem), 5 < i + fu → i ≤ 5 → CpA μ1 t μ u → (∀ k, k < i → μ1 (t + 8) k = μ (u + 8) k) → (∀ j k, j < i → k < 32 → μ1 (t + 10 + 2 * j) k = μ (u + 10 + 2 * j) k) → (∀ o, (o < t ∨ t + 19 ≤ o) → μ1 o = μ o) → J g mX6_copyFrom (RM 2 0 0) (MQx g (RM 2 0 0) (PM g adr (.inl none) (fun μ' => SEq μ' t μ u ∧ ∀ o, (o < t ∨ t + 19 ≤ o) → μ' o = μ o))) 0 0 (WM g adr μ1) 40 [some (.ref (adr t)), some (.ref (adr u)), some (.int (nI i))] [] := by
    intro fu
    induction fu with
    | zero => intro i μ1 h9₉ hi₉ hA₉ hF₉ hP₉ hO₉; exact absurd h9₉ (by omega)
    | succ fu ih40 =>
      intro i μ1 h9₉ hi₉ hA₉ hF₉ hP₉ hO₉
      refine J.il2 dX6_copyFrom_40 ?_
      refine J.iconst dX6_copyFrom_41 kI_5 ?_
      refine J.icmp_geN (tgt := 78) dX6_copyFrom_42 (by decide) (by omega) (by omega) (fun c42₉ => ?_) (fun c42₉ => ?_)
      · refine J.vret rfl (by decide) (by decide) dX6_copyFrom_78 ⟨_, rfl, ?_, ?_⟩
        · rfl
        · exact ⟨cs_end (show i = 5 by omega) hA₉ hF₉ hP₉, hO₉⟩
      · refine J.al0 dX6_copyFrom_45 ?_
        refine gf_X6_34 rfl (o2 := t + 7) ht₉ rfl dX6_copyFrom_46 ?_
        refine J.il2 dX6_copyFrom_49 ?_
        refine J.aaldP (a := t + 9 + 2 * i) dX6_copyFrom_50 (by omega) (Or.inl ⟨hk₉.2.2.1, by omega⟩) ?_
        refine J.al1 dX6_copyFrom_51 ?_
        refine gf_X6_34 rfl (o2 := u + 7) hu₉ rfl dX6_copyFrom_52 ?_
        refine J.il2 dX6_copyFrom_55 ?_
        refine J.aaldP (a := u + 9 + 2 * i) dX6_copyFrom_56 (by omega) (Or.inl ⟨hk2₉.2.2.1, by omega⟩) ?_
        refine cl_X6_50 rfl (hk₉.2.2.2.2 _ (by omega)) (k' := 0) (n' := 0) (c_toCopyR _ (hk₉.2.2.2.2 i (by omega)) (hk2₉.2.2.2.2 i (by omega)) (by omega)) ⟨⟨by decide, by decide⟩, ⟨rfl, rfl⟩, by decide, by decide⟩ rfl dX6_copyFrom_57 (fun μ4 ⟨h4₉, hOc₉⟩ => ?_)
        refine J.al0 dX6_copyFrom_60 ?_
        refine gf_X6_38 rfl (o2 := t + 8) ht₉ rfl dX6_copyFrom_61 ?_
        refine J.il2 dX6_copyFrom_64 ?_
        refine J.al1 dX6_copyFrom_65 ?_
        refine gf_X6_38 rfl (o2 := u + 8) hu₉ rfl dX6_copyFrom_66 ?_
        refine J.il2 dX6_copyFrom_69 ?_
        refine J.zald (N := 5) (x := μ (u + 8) i) hk2₉.2.2.2.1 (by decide) (by omega) (by rw [hOc₉ (u + 8) (by omega), hO₉ _ (by omega)]) dX6_copyFrom_70 ?_
        refine J.zast (N := 5) hk₉.2.2.2.1 (by decide) (by omega) (cs_z (hz₉ i (by omega))) dX6_copyFrom_71 ?_
        refine J.ii2 (z := 1) dX6_copyFrom_72 (by decide) (by decide) rfl ?_
        refine J.goto (tgt := 40) dX6_copyFrom_75 (by decide) ?_
        exact ih40 (i + 1) _ (by omega) (by omega) (cs_A2 (by omega) hA₉ hOc₉) (row_step (fun k hk₉ => (congrFun (hOc₉ _ (by omega)) k).trans (hF₉ k hk₉)) rfl) (cs_P (by omega) hn₉ hP₉ h4₉ hOc₉ hO₉) (fun o ho₉ => by rw [wr_o (by omega), hOc₉ o (by omega)]; exact hO₉ o ho₉)
  exact lp40_1 (6) 0 _ (by omega) (by omega) (cs_A hn₉ hb2₉ hl3₉ hm3₉ hO1₉ hO3₉) (fun k hk₉ => absurd hk₉ (by omega)) (fun j k hj₉ _ => absurd hj₉ (by omega)) (cs_O hO2₉)

set_option maxRecDepth 100000 in
set_option maxHeartbeats 4000000 in
theorem c_isFilled {g : GP} {adr : Nat → Nat} (μ : Mem) {t i : Nat} {σ : AS} (ht₉ : kt t = 5) (hi₉ : i < 5) (hC₉ : CS μ t σ) : CT g yX6_isFilled mX6_isFilled (RM 1 0 0) (WM g adr μ) [.ref (adr t), .int (nI i)] (PM g adr ((.inl (some (.int (if aFl σ i = true then nI 1 else nI 0))))) (fun μ' => μ' = μ)) := by
  refine CT.of (l0 := [some (.ref (adr t)), some (.int (nI i))]) (by decide +kernel) rfl (Nat.le_of_ble_eq_true rfl) rfl ?_
  have hk₉ := kt_st ht₉
  refine J.il1 dX6_isFilled_0 ?_
  refine J.iconst dX6_isFilled_1 kI_5 ?_
  refine cl_X6_54 rfl (k' := 0) (n' := 0) (isIndexT (by omega) (by omega)) ⟨⟨by decide, by decide⟩, ⟨rfl, rfl⟩, by decide, by decide⟩ rfl dX6_isFilled_2 (fun μ9 h9₉ => ?_)
  rw [h9₉]; clear h9₉
  refine J.if_eqN (tgt := 21) dX6_isFilled_5 (by decide) (by omega) (fun c5₉ => absurd c5₉ (by first | omega | (simp only [not_true_eq_false, not_false_eq_true]; done) | (simp; done))) (fun c5₉ => ?_)
  refine J.al0 dX6_isFilled_8 ?_
  refine gf_X6_38 rfl (o2 := t + 8) ht₉ rfl dX6_isFilled_9 ?_
  refine J.il1 dX6_isFilled_12 ?_
  refine J.zald (N := 5) (x := if aFl σ i = true then nI 1 else nI 0) hk₉.2.2.2.1 (by decide) (by omega) (hC₉.2.2.2.2.2.2.2.1 _ (by omega)) dX6_isFilled_13 ?_
  refine J.if_eqB (tgt := 21) dX6_isFilled_14 (by decide) (fun c14₉ => ?_) (fun c14₉ => ?_)
  · refine J.iconst dX6_isFilled_21 kI_0 ?_
    refine J.zret (ty := .boolean) rfl (by decide) (by decide) (by decide) dX6_isFilled_22 ⟨_, rfl, ?_, ?_⟩
    · first | rw [if_pos c14₉] | rw [if_neg c14₉]
    · rfl
  · refine J.iconst dX6_isFilled_17 kI_1 ?_
    refine J.goto (tgt := 22) dX6_isFilled_18 (by decide) ?_
    refine J.zret (ty := .boolean) rfl (by decide) (by decide) (by decide) dX6_isFilled_22 ⟨_, rfl, ?_, ?_⟩
    · first | rw [if_pos c14₉] | rw [if_neg c14₉]
    · rfl

set_option maxRecDepth 100000 in
set_option maxHeartbeats 4000000 in
theorem c_isFilledX {g : GP} {adr : Nat → Nat} (μ : Mem) {t : Nat} {x : Int32} (ht₉ : kt t = 5) (hx₉ : ¬ (0 ≤ x ∧ x < nI 5)) : CT g yX6_isFilled mX6_isFilled (RM 1 0 0) (WM g adr μ) [.ref (adr t), .int x] (PM g adr ((.inl (some (.int (nI 0))))) (fun μ' => μ' = μ)) := by
  refine CT.of (l0 := [some (.ref (adr t)), some (.int x)]) (by decide +kernel) rfl (Nat.le_of_ble_eq_true rfl) rfl ?_
  have hk₉ := kt_st ht₉
  refine J.il1 dX6_isFilled_0 ?_
  refine J.iconst dX6_isFilled_1 kI_5 ?_
  have hxx₉ := c_isIndexI (g := g) (adr := adr) μ (x := x) (b := 5) (by decide)
  rw [if_neg hx₉] at hxx₉
  refine cl_X6_54 rfl (k' := 0) (n' := 0) (hxx₉) ⟨⟨by decide, by decide⟩, ⟨rfl, rfl⟩, by decide, by decide⟩ rfl dX6_isFilled_2 (fun μ9 h9₉ => ?_)
  rw [h9₉]; clear h9₉
  refine J.if_eqN (tgt := 21) dX6_isFilled_5 (by decide) (by omega) (fun c5₉ => ?_) (fun c5₉ => absurd c5₉ (by first | omega | (simp only [not_true_eq_false, not_false_eq_true]; done) | (simp; done)))
  refine J.iconst dX6_isFilled_21 kI_0 ?_
  refine J.zret (ty := .boolean) rfl (by decide) (by decide) (by decide) dX6_isFilled_22 ⟨_, rfl, ?_, ?_⟩
  · rfl
  · rfl

set_option maxRecDepth 100000 in
set_option maxHeartbeats 4000000 in
theorem c_onShelf {g : GP} {adr : Nat → Nat} (μ : Mem) {t i : Nat} (ht₉ : kt t = 5) (hi₉ : i < 5) : CT g yX6_onShelf mX6_onShelf (RM 1 0 0) (WM g adr μ) [.ref (adr t), .int (nI i)] (PM g adr (.inl (some (.ref (adr (t + 9 + 2 * i))))) (fun μ' => μ' = μ)) := by
  refine CT.of (l0 := [some (.ref (adr t)), some (.int (nI i))]) (by decide +kernel) rfl (Nat.le_of_ble_eq_true rfl) rfl ?_
  have hk₉ := kt_st ht₉
  refine J.al0 dX6_onShelf_0 ?_
  refine gf_X6_34 rfl (o2 := t + 7) ht₉ rfl dX6_onShelf_1 ?_
  refine J.il1 dX6_onShelf_4 ?_
  refine J.iconst dX6_onShelf_5 kI_5 ?_
  refine cl_X6_54 rfl (k' := 0) (n' := 0) (isIndexT (by omega) (by omega)) ⟨⟨by decide, by decide⟩, ⟨rfl, rfl⟩, by decide, by decide⟩ rfl dX6_onShelf_6 (fun μ9 h9₉ => ?_)
  rw [h9₉]; clear h9₉
  refine J.if_eqN (tgt := 16) dX6_onShelf_9 (by decide) (by omega) (fun c9₉ => absurd c9₉ (by first | omega | (simp only [not_true_eq_false, not_false_eq_true]; done) | (simp; done))) (fun c9₉ => ?_)
  refine J.il1 dX6_onShelf_12 ?_
  refine J.goto (tgt := 17) dX6_onShelf_13 (by decide) ?_
  refine J.aaldP (a := t + 9 + 2 * i) dX6_onShelf_17 (by omega) (Or.inl ⟨hk₉.2.2.1, by omega⟩) ?_
  refine J.aret (C := "TwistyBarrels$Permutation") rfl (by decide) (by decide) dX6_onShelf_18 ⟨_, rfl, ?_, ?_⟩
  · rfl
  · rfl

set_option maxRecDepth 100000 in
set_option maxHeartbeats 4000000 in
theorem c_putOn {g : GP} {adr : Nat → Nat} (μ : Mem) {t i p : Nat} {F : Nat → Nat} (ht₉ : kt t = 5) (hi₉ : i < 5) (hp₉ : kt p = 1) (hn₉ : p < t ∨ t + 19 ≤ p) (hF₉ : PermR μ (p + 1) F) : CT g yX6_putOn mX6_putOn (RM 1 0 0) (WM g adr μ) [.ref (adr t), .int (nI i), .ref (adr p)] (PM g adr (.inl none) (fun μ' => PermR μ' (t + 10 + 2 * i) F ∧ μ' (t + 8) i = nI 1 ∧ ∀ o k, o ≠ t + 10 + 2 * i → (o ≠ t + 8 ∨ k ≠ i) → μ' o k = μ o k)) := by
  refine CT.of (l0 := [some (.ref (adr t)), some (.int (nI i)), some (.ref (adr p))]) (by decide +kernel) rfl (Nat.le_of_ble_eq_true rfl) rfl ?_
  have hk₉ := kt_st ht₉
  refine J.il1 dX6_putOn_0 ?_
  refine J.iconst dX6_putOn_1 kI_5 ?_
  refine cl_X6_54 rfl (k' := 0) (n' := 0) (isIndexT (by omega) (by omega)) ⟨⟨by decide, by decide⟩, ⟨rfl, rfl⟩, by decide, by decide⟩ rfl dX6_putOn_2 (fun μ9 h9₉ => ?_)
  rw [h9₉]; clear h9₉
  refine J.if_eqN (tgt := 25) dX6_putOn_5 (by decide) (by omega) (fun c5₉ => absurd c5₉ (by first | omega | (simp only [not_true_eq_false, not_false_eq_true]; done) | (simp; done))) (fun c5₉ => ?_)
  refine J.al0 dX6_putOn_8 ?_
  refine gf_X6_34 rfl (o2 := t + 7) ht₉ rfl dX6_putOn_9 ?_
  refine J.il1 dX6_putOn_12 ?_
  refine J.aaldP (a := t + 9 + 2 * i) dX6_putOn_13 (by omega) (Or.inl ⟨hk₉.2.2.1, by omega⟩) ?_
  refine J.al2 dX6_putOn_14 ?_
  refine cl_X6_50 rfl (hk₉.2.2.2.2 _ (by omega)) (k' := 0) (n' := 0) (c_toCopy _ (hk₉.2.2.2.2 i (by omega)) hp₉ (by omega) hF₉) ⟨⟨by decide, by decide⟩, ⟨rfl, rfl⟩, by decide, by decide⟩ rfl dX6_putOn_15 (fun μ2 ⟨h2₉, hO2₉⟩ => ?_)
  refine J.al0 dX6_putOn_18 ?_
  refine gf_X6_38 rfl (o2 := t + 8) ht₉ rfl dX6_putOn_19 ?_
  refine J.il1 dX6_putOn_22 ?_
  refine J.iconst dX6_putOn_23 kI_1 ?_
  refine J.zast (N := 5) hk₉.2.2.2.1 (by decide) (by omega) (by decide) dX6_putOn_24 ?_
  refine J.vret rfl (by decide) (by decide) dX6_putOn_25 ⟨_, rfl, ?_, ?_⟩
  · rfl
  · refine ⟨?_, wr_s, fun o k h8₉ h9₉ => by rw [wr_n h9₉, hO2₉ o (by omega)]⟩
    rw [show t + 10 + 2 * i = t + 9 + 2 * i + 1 by omega]
    exact h2₉.eq (wr_o (by omega))
