/-! ===== printed: the state and the past ===== -/
set_option maxRecDepth 100000 in
set_option maxHeartbeats 4000000 in
theorem c_st_copyFrom {g : GP} {adr : Nat → Nat} (μ : Mem) {t u : Nat} (ht : kt t = 5) (hu : kt u = 5) (hn : t + 19 ≤ u ∨ u + 19 ≤ t) (hz : ∀ i, i < 5 → μ (u + 8) i = nI 0 ∨ μ (u + 8) i = nI 1) : CT g yX6_copyFrom mX6_copyFrom (RM 2 0 0) (WM g adr μ) [.ref (adr t), .ref (adr u)] (PM g adr (.inl none) (fun μ' => SEq μ' t μ u ∧ ∀ o, (o < t ∨ t + 19 ≤ o) → μ' o = μ o)) := by
  refine CT.of (l0 := [some (.ref (adr t)), some (.ref (adr u)), none]) (by decide +kernel) rfl (Nat.le_of_ble_eq_true rfl) rfl ?_
  have hk := kt_st ht
  have hk2 := kt_st hu
  refine J.al0 dX6_copyFrom_0 ?_
  refine gf_X6_12 rfl (o2 := t + 1) ht rfl dX6_copyFrom_1 ?_
  refine J.al1 dX6_copyFrom_4 ?_
  refine gf_X6_12 rfl (o2 := u + 1) hu rfl dX6_copyFrom_5 ?_
  refine cl_X6_43 rfl hk.1 (k' := 0) (n' := 0) (c_b_copyFrom _ hk.1 hk2.1 (by omega)) ⟨⟨by decide, by decide⟩, ⟨rfl, rfl⟩, by decide, by decide⟩ rfl dX6_copyFrom_8 (fun μ2 ⟨hb2, hO1⟩ => ?_)
  refine J.al0 dX6_copyFrom_11 ?_
  refine gf_X6_21 rfl (o2 := t + 5) ht rfl dX6_copyFrom_12 ?_
  refine J.al1 dX6_copyFrom_15 ?_
  refine gf_X6_21 rfl (o2 := u + 5) hu rfl dX6_copyFrom_16 ?_
  refine cl_X6_47 rfl hk.2.1 (k' := 0) (n' := 0) (c_l_copyFrom _ hk.2.1 hk2.2.1 (by omega)) ⟨⟨by decide, by decide⟩, ⟨rfl, rfl⟩, by decide, by decide⟩ rfl dX6_copyFrom_19 (fun μ3 ⟨hl3, hm3, hO3⟩ => ?_)
  have hO2 := cs_two hO1 hO3
  refine J.al0 dX6_copyFrom_22 ?_
  refine J.al1 dX6_copyFrom_23 ?_
  refine gf_X6_25 rfl (x := μ u 2) hu (cs_rd3 hO2 (by omega) (by omega)) dX6_copyFrom_24 ?_
  refine pf_X6_25 rfl ht dX6_copyFrom_27 ?_
  refine J.al0 dX6_copyFrom_30 ?_
  refine J.al1 dX6_copyFrom_31 ?_
  refine gf_X6_29 rfl (x := μ u 3) hu (by rw [wr_o (by omega)]; exact cs_rd3 hO2 (by omega) (by omega)) dX6_copyFrom_32 ?_
  refine pf_X6_29 rfl ht dX6_copyFrom_35 ?_
  refine J.iconst dX6_copyFrom_38 kI_0 ?_
  refine J.is2 dX6_copyFrom_39 (by decide) rfl ?_
  have lp40_1 : ∀ (n : Nat) (i : Nat) (μ1 : Mem), 5 < i + n → i ≤ 5 → CpA μ1 t μ u → (∀ k, k < i → μ1 (t + 8) k = μ (u + 8) k) → (∀ j k, j < i → k < 32 → μ1 (t + 10 + 2 * j) k = μ (u + 10 + 2 * j) k) → (∀ o, (o < t ∨ t + 19 ≤ o) → μ1 o = μ o) → J g mX6_copyFrom (RM 2 0 0) (MQx g (RM 2 0 0) (PM g adr (.inl none) (fun μ' => SEq μ' t μ u ∧ ∀ o, (o < t ∨ t + 19 ≤ o) → μ' o = μ o))) 0 0 (WM g adr μ1) 40 [some (.ref (adr t)), some (.ref (adr u)), some (.int (nI i))] [] := by
    intro n
    induction n with
    | zero => intro i μ1 h9 hi hA hF hP hO; exact absurd h9 (by omega)
    | succ n ih40 =>
      intro i μ1 h9 hi hA hF hP hO
      refine J.il2 dX6_copyFrom_40 ?_
      refine J.iconst dX6_copyFrom_41 kI_5 ?_
      refine J.icmp_geN (tgt := 78) dX6_copyFrom_42 (by decide) (by omega) (by omega) (fun c42 => ?_) (fun c42 => ?_)
      · refine J.vret rfl (by decide) (by decide) dX6_copyFrom_78 ⟨_, rfl, ?_, ?_⟩
        · rfl
        · exact ⟨cs_end (show i = 5 by omega) hA hF hP, hO⟩
      · refine J.al0 dX6_copyFrom_45 ?_
        refine gf_X6_34 rfl (o2 := t + 7) ht rfl dX6_copyFrom_46 ?_
        refine J.il2 dX6_copyFrom_49 ?_
        refine J.aaldP (a := t + 9 + 2 * i) dX6_copyFrom_50 (by omega) (Or.inl ⟨hk.2.2.1, by omega⟩) ?_
        refine J.al1 dX6_copyFrom_51 ?_
        refine gf_X6_34 rfl (o2 := u + 7) hu rfl dX6_copyFrom_52 ?_
        refine J.il2 dX6_copyFrom_55 ?_
        refine J.aaldP (a := u + 9 + 2 * i) dX6_copyFrom_56 (by omega) (Or.inl ⟨hk2.2.2.1, by omega⟩) ?_
        refine cl_X6_50 rfl (hk.2.2.2.2 _ (by omega)) (k' := 0) (n' := 0) (c_toCopyR _ (hk.2.2.2.2 i (by omega)) (hk2.2.2.2.2 i (by omega)) (by omega)) ⟨⟨by decide, by decide⟩, ⟨rfl, rfl⟩, by decide, by decide⟩ rfl dX6_copyFrom_57 (fun μ4 ⟨h4, hOc⟩ => ?_)
        refine J.al0 dX6_copyFrom_60 ?_
        refine gf_X6_38 rfl (o2 := t + 8) ht rfl dX6_copyFrom_61 ?_
        refine J.il2 dX6_copyFrom_64 ?_
        refine J.al1 dX6_copyFrom_65 ?_
        refine gf_X6_38 rfl (o2 := u + 8) hu rfl dX6_copyFrom_66 ?_
        refine J.il2 dX6_copyFrom_69 ?_
        refine J.zald (N := 5) (x := μ (u + 8) i) hk2.2.2.2.1 (by decide) (by omega) (by rw [hOc (u + 8) (by omega), hO _ (by omega)]) dX6_copyFrom_70 ?_
        refine J.zast (N := 5) hk.2.2.2.1 (by decide) (by omega) (cs_z (hz i (by omega))) dX6_copyFrom_71 ?_
        refine J.ii2 (z := 1) dX6_copyFrom_72 (by decide) (by decide) rfl ?_
        refine J.goto (tgt := 40) dX6_copyFrom_75 (by decide) ?_
        exact ih40 (i + 1) _ (by omega) (by omega) (cs_A2 (by omega) hA hOc) (row_step (fun k hk => (congrFun (hOc _ (by omega)) k).trans (hF k hk)) rfl) (cs_P (by omega) hn hP h4 hOc hO) (fun o ho => by rw [wr_o (by omega), hOc o (by omega)]; exact hO o ho)
  exact lp40_1 (6) 0 _ (by omega) (by omega) (cs_A hn hb2 hl3 hm3 hO1 hO3) (fun k hk => absurd hk (by omega)) (fun j k hj _ => absurd hj (by omega)) (cs_O hO2)

set_option maxRecDepth 100000 in
set_option maxHeartbeats 4000000 in
theorem c_isFilled {g : GP} {adr : Nat → Nat} (μ : Mem) {t i : Nat} {σ : AS} (ht : kt t = 5) (hi : i < 5) (hC : CS μ t σ) : CT g yX6_isFilled mX6_isFilled (RM 1 0 0) (WM g adr μ) [.ref (adr t), .int (nI i)] (PM g adr ((.inl (some (.int (if aFl σ i = true then nI 1 else nI 0))))) (fun μ' => μ' = μ)) := by
  refine CT.of (l0 := [some (.ref (adr t)), some (.int (nI i))]) (by decide +kernel) rfl (Nat.le_of_ble_eq_true rfl) rfl ?_
  have hk := kt_st ht
  refine J.il1 dX6_isFilled_0 ?_
  refine J.iconst dX6_isFilled_1 kI_5 ?_
  refine cl_X6_54 rfl (k' := 0) (n' := 0) (isIndexT (by omega) (by omega)) ⟨⟨by decide, by decide⟩, ⟨rfl, rfl⟩, by decide, by decide⟩ rfl dX6_isFilled_2 (fun μ9 h9 => ?_)
  subst h9
  refine J.if_eqN (tgt := 21) dX6_isFilled_5 (by decide) (by omega) (fun c5 => absurd c5 (by first | omega | (simp only [not_true_eq_false, not_false_eq_true]; done) | (simp; done))) (fun c5 => ?_)
  refine J.al0 dX6_isFilled_8 ?_
  refine gf_X6_38 rfl (o2 := t + 8) ht rfl dX6_isFilled_9 ?_
  refine J.il1 dX6_isFilled_12 ?_
  refine J.zald (N := 5) (x := if aFl σ i = true then nI 1 else nI 0) hk.2.2.2.1 (by decide) (by omega) (hC.2.2.2.2.2.2.2.1 _ (by omega)) dX6_isFilled_13 ?_
  refine J.if_eqB (tgt := 21) dX6_isFilled_14 (by decide) (fun c14 => ?_) (fun c14 => ?_)
  · refine J.iconst dX6_isFilled_21 kI_0 ?_
    refine J.zret (ty := .boolean) rfl (by decide) (by decide) (by decide) dX6_isFilled_22 ⟨_, rfl, ?_, ?_⟩
    · first | rw [if_pos c14] | rw [if_neg c14]
    · rfl
  · refine J.iconst dX6_isFilled_17 kI_1 ?_
    refine J.goto (tgt := 22) dX6_isFilled_18 (by decide) ?_
    refine J.zret (ty := .boolean) rfl (by decide) (by decide) (by decide) dX6_isFilled_22 ⟨_, rfl, ?_, ?_⟩
    · first | rw [if_pos c14] | rw [if_neg c14]
    · rfl

set_option maxRecDepth 100000 in
set_option maxHeartbeats 4000000 in
theorem c_isFilledX {g : GP} {adr : Nat → Nat} (μ : Mem) {t : Nat} {x : Int32} (ht : kt t = 5) (hx : ¬ (0 ≤ x ∧ x < nI 5)) : CT g yX6_isFilled mX6_isFilled (RM 1 0 0) (WM g adr μ) [.ref (adr t), .int x] (PM g adr ((.inl (some (.int nI 0)))) (fun μ' => μ' = μ)) := by
  refine CT.of (l0 := [some (.ref (adr t)), some (.int x)]) (by decide +kernel) rfl (Nat.le_of_ble_eq_true rfl) rfl ?_
  have hk := kt_st ht
  refine J.il1 dX6_isFilled_0 ?_
  refine J.iconst dX6_isFilled_1 kI_5 ?_
  have hxx := c_isIndexI (g := g) (adr := adr) μ (x := x) (b := 5) (by decide)
  rw [if_neg hx] at hxx
  refine cl_X6_54 rfl (k' := 0) (n' := 0) (hxx) ⟨⟨by decide, by decide⟩, ⟨rfl, rfl⟩, by decide, by decide⟩ rfl dX6_isFilled_2 (fun μ9 h9 => ?_)
  subst h9
  refine J.if_eqN (tgt := 21) dX6_isFilled_5 (by decide) (by omega) (fun c5 => ?_) (fun c5 => absurd c5 (by first | omega | (simp only [not_true_eq_false, not_false_eq_true]; done) | (simp; done)))
  refine J.iconst dX6_isFilled_21 kI_0 ?_
  refine J.zret (ty := .boolean) rfl (by decide) (by decide) (by decide) dX6_isFilled_22 ⟨_, rfl, ?_, ?_⟩
  · rfl
  · rfl

set_option maxRecDepth 100000 in
set_option maxHeartbeats 4000000 in
theorem c_onShelf {g : GP} {adr : Nat → Nat} (μ : Mem) {t i : Nat} (ht : kt t = 5) (hi : i < 5) : CT g yX6_onShelf mX6_onShelf (RM 1 0 0) (WM g adr μ) [.ref (adr t), .int (nI i)] (PM g adr (.inl (some (.ref (adr (t + 9 + 2 * i))))) (fun μ' => μ' = μ)) := by
  refine CT.of (l0 := [some (.ref (adr t)), some (.int (nI i))]) (by decide +kernel) rfl (Nat.le_of_ble_eq_true rfl) rfl ?_
  have hk := kt_st ht
  refine J.al0 dX6_onShelf_0 ?_
  refine gf_X6_34 rfl (o2 := t + 7) ht rfl dX6_onShelf_1 ?_
  refine J.il1 dX6_onShelf_4 ?_
  refine J.iconst dX6_onShelf_5 kI_5 ?_
  refine cl_X6_54 rfl (k' := 0) (n' := 0) (isIndexT (by omega) (by omega)) ⟨⟨by decide, by decide⟩, ⟨rfl, rfl⟩, by decide, by decide⟩ rfl dX6_onShelf_6 (fun μ9 h9 => ?_)
  subst h9
  refine J.if_eqN (tgt := 16) dX6_onShelf_9 (by decide) (by omega) (fun c9 => absurd c9 (by first | omega | (simp only [not_true_eq_false, not_false_eq_true]; done) | (simp; done))) (fun c9 => ?_)
  refine J.il1 dX6_onShelf_12 ?_
  refine J.goto (tgt := 17) dX6_onShelf_13 (by decide) ?_
  refine J.aaldP (a := t + 9 + 2 * i) dX6_onShelf_17 (by omega) (Or.inl ⟨hk.2.2.1, by omega⟩) ?_
  refine J.aret (C := "TwistyBarrels$Permutation") rfl (by decide) (by decide) dX6_onShelf_18 ⟨_, rfl, ?_, ?_⟩
  · rfl
  · rfl

set_option maxRecDepth 100000 in
set_option maxHeartbeats 4000000 in
theorem c_putOn {g : GP} {adr : Nat → Nat} (μ : Mem) {t i p : Nat} {F : Nat → Nat} (ht : kt t = 5) (hi : i < 5) (hp : kt p = 1) (hn : p < t ∨ t + 19 ≤ p) (hF : PermR μ (p + 1) F) : CT g yX6_putOn mX6_putOn (RM 1 0 0) (WM g adr μ) [.ref (adr t), .int (nI i), .ref (adr p)] (PM g adr (.inl none) (fun μ' => PermR μ' (t + 10 + 2 * i) F ∧ μ' (t + 8) i = nI 1 ∧ ∀ o k, o ≠ t + 10 + 2 * i → (o ≠ t + 8 ∨ k ≠ i) → μ' o k = μ o k)) := by
  refine CT.of (l0 := [some (.ref (adr t)), some (.int (nI i)), some (.ref (adr p))]) (by decide +kernel) rfl (Nat.le_of_ble_eq_true rfl) rfl ?_
  have hk := kt_st ht
  refine J.il1 dX6_putOn_0 ?_
  refine J.iconst dX6_putOn_1 kI_5 ?_
  refine cl_X6_54 rfl (k' := 0) (n' := 0) (isIndexT (by omega) (by omega)) ⟨⟨by decide, by decide⟩, ⟨rfl, rfl⟩, by decide, by decide⟩ rfl dX6_putOn_2 (fun μ9 h9 => ?_)
  subst h9
  refine J.if_eqN (tgt := 25) dX6_putOn_5 (by decide) (by omega) (fun c5 => absurd c5 (by first | omega | (simp only [not_true_eq_false, not_false_eq_true]; done) | (simp; done))) (fun c5 => ?_)
  refine J.al0 dX6_putOn_8 ?_
  refine gf_X6_34 rfl (o2 := t + 7) ht rfl dX6_putOn_9 ?_
  refine J.il1 dX6_putOn_12 ?_
  refine J.aaldP (a := t + 9 + 2 * i) dX6_putOn_13 (by omega) (Or.inl ⟨hk.2.2.1, by omega⟩) ?_
  refine J.al2 dX6_putOn_14 ?_
  refine cl_X6_50 rfl (hk.2.2.2.2 _ (by omega)) (k' := 0) (n' := 0) (c_toCopy _ (hk.2.2.2.2 i (by omega)) hp (by omega) hF) ⟨⟨by decide, by decide⟩, ⟨rfl, rfl⟩, by decide, by decide⟩ rfl dX6_putOn_15 (fun μ2 ⟨h2, hO2⟩ => ?_)
  refine J.al0 dX6_putOn_18 ?_
  refine gf_X6_38 rfl (o2 := t + 8) ht rfl dX6_putOn_19 ?_
  refine J.il1 dX6_putOn_22 ?_
  refine J.iconst dX6_putOn_23 kI_1 ?_
  refine J.zast (N := 5) hk.2.2.2.1 (by decide) (by omega) (by decide) dX6_putOn_24 ?_
  refine J.vret rfl (by decide) (by decide) dX6_putOn_25 ⟨_, rfl, ?_, ?_⟩
  · rfl
  · refine ⟨?_, wr_s, fun o k h8 h9 => by rw [wr_n h9, hO2 o (by omega)]⟩
    rw [show t + 10 + 2 * i = t + 9 + 2 * i + 1 by omega]
    exact h2.eq (wr_o (by omega))

set_option maxRecDepth 100000 in
set_option maxHeartbeats 4000000 in
theorem c_takeFrom {g : GP} {adr : Nat → Nat} (μ : Mem) {t i : Nat} (ht : kt t = 5) (hi : i < 5) : CT g yX6_takeFrom mX6_takeFrom (RM 1 0 0) (WM g adr μ) [.ref (adr t), .int (nI i)] (PM g adr (.inl none) (fun μ' => μ' = wr μ (t + 8) i (nI 0))) := by
  refine CT.of (l0 := [some (.ref (adr t)), some (.int (nI i))]) (by decide +kernel) rfl (Nat.le_of_ble_eq_true rfl) rfl ?_
  have hk := kt_st ht
  refine J.il1 dX6_takeFrom_0 ?_
  refine J.iconst dX6_takeFrom_1 kI_5 ?_
  refine cl_X6_54 rfl (k' := 0) (n' := 0) (isIndexT (by omega) (by omega)) ⟨⟨by decide, by decide⟩, ⟨rfl, rfl⟩, by decide, by decide⟩ rfl dX6_takeFrom_2 (fun μ9 h9 => ?_)
  subst h9
  refine J.if_eqN (tgt := 15) dX6_takeFrom_5 (by decide) (by omega) (fun c5 => absurd c5 (by first | omega | (simp only [not_true_eq_false, not_false_eq_true]; done) | (simp; done))) (fun c5 => ?_)
  refine J.al0 dX6_takeFrom_8 ?_
  refine gf_X6_38 rfl (o2 := t + 8) ht rfl dX6_takeFrom_9 ?_
  refine J.il1 dX6_takeFrom_12 ?_
  refine J.iconst dX6_takeFrom_13 kI_0 ?_
  refine J.zast (N := 5) hk.2.2.2.1 (by decide) (by omega) (by decide) dX6_takeFrom_14 ?_
  refine J.vret rfl (by decide) (by decide) dX6_takeFrom_15 ⟨_, rfl, ?_, ?_⟩
  · rfl
  · rfl

set_option maxRecDepth 100000 in
set_option maxHeartbeats 4000000 in
theorem c_countFilled {g : GP} {adr : Nat → Nat} (μ : Mem) {t : Nat} {σ : AS} (ht : kt t = 5) (hC : CS μ t σ) : CT g yX6_countFilled mX6_countFilled (RM 0 0 0) (WM g adr μ) [.ref (adr t)] (PM g adr ((.inl (some (.int nI (cnt (aFl σ) 5))))) (fun μ' => μ' = μ)) := by
  refine CT.of (l0 := [some (.ref (adr t)), none, none]) (by decide +kernel) rfl (Nat.le_of_ble_eq_true rfl) rfl ?_
  have hk := kt_st ht
  refine J.iconst dX6_countFilled_0 kI_0 ?_
  refine J.is1 dX6_countFilled_1 (by decide) rfl ?_
  refine J.iconst dX6_countFilled_2 kI_0 ?_
  refine J.is2 dX6_countFilled_3 (by decide) rfl ?_
  have lp4_1 : ∀ (n : Nat) (i n9 : Nat), 5 < i + n → i ≤ 5 → n9 = cnt (aFl σ) i → J g mX6_countFilled (RM 0 0 0) (MQx g (RM 0 0 0) (PM g adr ((.inl (some (.int nI (cnt (aFl σ) 5))))) (fun μ' => μ' = μ))) 0 0 (WM g adr μ) 4 [some (.ref (adr t)), some (.int (nI n9)), some (.int (nI i))] [] := by
    intro n
    induction n with
    | zero => intro i n9 h9 hi hc9; exact absurd h9 (by omega)
    | succ n ih4 =>
      intro i n9 h9 hi hc9
      refine J.il2 dX6_countFilled_4 ?_
      refine J.iconst dX6_countFilled_5 kI_5 ?_
      refine J.icmp_geN (tgt := 27) dX6_countFilled_6 (by decide) (by omega) (by omega) (fun c6 => ?_) (fun c6 => ?_)
      · refine J.il1 dX6_countFilled_27 ?_
        refine J.iret rfl (by decide) (by decide) dX6_countFilled_28 ⟨_, rfl, ?_, ?_⟩
        · rw [show i = 5 by omega] at hc9; rw [hc9]
        · rfl
      · refine J.al0 dX6_countFilled_9 ?_
        refine gf_X6_38 rfl (o2 := t + 8) ht rfl dX6_countFilled_10 ?_
        refine J.il2 dX6_countFilled_13 ?_
        refine J.zald (N := 5) (x := if aFl σ i = true then nI 1 else nI 0) hk.2.2.2.1 (by decide) (by omega) (hC.2.2.2.2.2.2.2.1 _ (by omega)) dX6_countFilled_14 ?_
        refine J.if_eqB (tgt := 21) dX6_countFilled_15 (by decide) (fun c15 => ?_) (fun c15 => ?_)
        · refine J.ii2 (z := 1) dX6_countFilled_21 (by decide) (by decide) rfl ?_
          refine J.goto (tgt := 4) dX6_countFilled_24 (by decide) ?_
          exact ih4 (i + 1) n9 (by omega) (by omega) (by rw [cnt_1, hc9]; first | rw [if_pos (by exact c15)] | (rw [if_neg (by exact c15)]; rfl))
        · refine J.ii1 (z := 1) dX6_countFilled_18 (by decide) (by decide) rfl ?_
          refine J.ii2 (z := 1) dX6_countFilled_21 (by decide) (by decide) rfl ?_
          refine J.goto (tgt := 4) dX6_countFilled_24 (by decide) ?_
          exact ih4 (i + 1) (n9 + 1) (by omega) (by omega) (by rw [cnt_1, hc9]; first | rw [if_pos (by exact c15)] | (rw [if_neg (by exact c15)]; rfl))
  exact lp4_1 (6) 0 0 (by omega) (by omega) rfl

set_option maxRecDepth 100000 in
set_option maxHeartbeats 4000000 in
theorem c_p_size {g : GP} {adr : Nat → Nat} (μ : Mem) {n : Nat} {past : Nat → AS} (hP : PR μ n past) : CT g yX2_size mX2_size (RM 0 0 0) (WM g adr μ) [.ref (adr 20)] (PM g adr ((.inl (some (.int nI n)))) (fun μ' => μ' = μ)) := by
  refine CT.of (l0 := [some (.ref (adr 20))]) (by decide +kernel) rfl (Nat.le_of_ble_eq_true rfl) rfl ?_
  refine J.al0 dX2_size_0 ?_
  refine gf_X2_17 rfl (x := nI n) (by decide) (hP.1) dX2_size_1 ?_
  refine J.iret rfl (by decide) (by decide) dX2_size_4 ⟨_, rfl, ?_, ?_⟩
  · rfl
  · rfl

set_option maxRecDepth 100000 in
set_option maxHeartbeats 4000000 in
theorem c_p_clear {g : GP} {adr : Nat → Nat} (μ : Mem)  : CT g yX2_clear mX2_clear (RM 0 0 0) (WM g adr μ) [.ref (adr 20)] (PM g adr (.inl none) (fun μ' => μ' = wr μ 20 1 (nI 0))) := by
  refine CT.of (l0 := [some (.ref (adr 20))]) (by decide +kernel) rfl (Nat.le_of_ble_eq_true rfl) rfl ?_
  refine J.al0 dX2_clear_0 ?_
  refine J.iconst dX2_clear_1 kI_0 ?_
  refine pf_X2_17 rfl (by decide) dX2_clear_2 ?_
  refine J.vret rfl (by decide) (by decide) dX2_clear_5 ⟨_, rfl, ?_, ?_⟩
  · rfl
  · rfl

set_option maxRecDepth 100000 in
set_option maxHeartbeats 4000000 in
theorem c_hold {g : GP} {adr : Nat → Nat} (μ : Mem) {n : Nat} {past : Nat → AS} {σ : AS} (hP : PR μ n past) (hC : CS μ 1 σ) : CT g yX2_hold mX2_hold (RM 3 0 0) (WM g adr μ) [.ref (adr 20), .ref (adr 1)] (PM g adr (.inl none) (fun μ' => PR μ' (pushN n) (pushF n past σ) ∧ ∀ o, (o < 20 ∨ 174 ≤ o) → μ' o = μ o)) := by
  refine CT.of (l0 := [some (.ref (adr 20)), some (.ref (adr 1)), none, none]) (by decide +kernel) rfl (Nat.le_of_ble_eq_true rfl) rfl ?_
  have hP0 := hP
  obtain ⟨h1, h2, r, h3, h4, h5⟩ := hP
  refine J.al0 dX2_hold_0 ?_
  refine gf_X2_17 rfl (x := nI n) (by decide) h1 dX2_hold_1 ?_
  refine J.bipush dX2_hold_4 kb_8 ?_
  refine J.icmp_ltN (tgt := 58) dX2_hold_6 (by decide) (by omega) (by omega) (fun c6 => ?_) (fun c6 => ?_)
  · refine J.al0 dX2_hold_58 ?_
    refine gf_X2_11 rfl (o2 := 21) (by decide) rfl dX2_hold_59 ?_
    refine J.al0 dX2_hold_62 ?_
    refine gf_X2_17 rfl (x := nI n) (by decide) h1 dX2_hold_63 ?_
    refine J.aaldS (q := r n) dX2_hold_66 (by omega) (by decide) (h3 n (by omega)).1 (h3 n (by omega)).2 ?_
    refine J.al1 dX2_hold_67 ?_
    refine cl_X2_22 rfl (kt_S (h3 _ (by omega)).2) (k' := 0) (n' := 0) (c_st_copyFrom _ (kt_S (h3 n (by omega)).2) (by decide) (by omega) hC.z) ⟨⟨by decide, by decide⟩, ⟨rfl, rfl⟩, by decide, by decide⟩ rfl dX2_hold_68 (fun μ2 ⟨hE2, hO2⟩ => ?_)
    refine J.al0 dX2_hold_71 ?_
    refine J.dup dX2_hold_72 rfl ?_
    refine gf_X2_17 rfl (x := nI n) (by decide) (by rw [hO2 20 (by have := (h3 n (by omega)).2; omega)]; exact h1) dX2_hold_73 ?_
    refine J.iconst dX2_hold_76 kI_1 ?_
    refine J.iaddN dX2_hold_77 ?_
    refine pf_X2_17 rfl (by decide) dX2_hold_78 ?_
    refine J.vret rfl (by decide) (by decide) dX2_hold_81 ⟨_, rfl, ?_, ?_⟩
    · rfl
    · exact hold_part hP0 h1 h3 h4 h5 (by omega) hC hE2 hO2
  · refine J.al0 dX2_hold_9 ?_
    refine gf_X2_11 rfl (o2 := 21) (by decide) rfl dX2_hold_10 ?_
    refine J.iconst dX2_hold_13 kI_0 ?_
    refine J.aaldS (q := r 0) dX2_hold_14 (by omega) (by decide) (h3 0 (by omega)).1 (h3 0 (by omega)).2 ?_
    refine J.as2 dX2_hold_15 (by decide) rfl ?_
    refine J.iconst dX2_hold_16 kI_1 ?_
    refine J.is3 dX2_hold_17 (by decide) rfl ?_
    have lp18_1 : ∀ (n : Nat) (i : Nat) (μ1 : Mem), 8 < i + n → i ≤ 8 → 1 ≤ i → (∀ j, j + 1 < i → μ1 21 j = nI (r (j + 1))) → (∀ j, i - 1 ≤ j → j < 8 → μ1 21 j = nI (r j)) → Off μ1 μ 21 → J g mX2_hold (RM 3 0 0) (MQx g (RM 3 0 0) (PM g adr (.inl none) (fun μ' => PR μ' (pushN n) (pushF n past σ) ∧ ∀ o, (o < 20 ∨ 174 ≤ o) → μ' o = μ o))) 0 0 (WM g adr μ1) 18 [some (.ref (adr 20)), some (.ref (adr 1)), some (.ref (adr (22 + 19 * (r 0)))), some (.int (nI i))] [] := by
      intro n
      induction n with
      | zero => intro i μ1 h9 hi hi1 hI hU hO; exact absurd h9 (by omega)
      | succ n ih18 =>
        intro i μ1 h9 hi hi1 hI hU hO
        refine J.il3 dX2_hold_18 ?_
        refine J.bipush dX2_hold_19 kb_8 ?_
        refine J.icmp_geN (tgt := 44) dX2_hold_21 (by decide) (by omega) (by omega) (fun c21 => ?_) (fun c21 => ?_)
        · refine J.al0 dX2_hold_44 ?_
          refine gf_X2_11 rfl (o2 := 21) (by decide) rfl dX2_hold_45 ?_
          refine J.bipush dX2_hold_48 kb_7 ?_
          refine J.al2 dX2_hold_50 ?_
          refine J.aastS (q := (r 0)) dX2_hold_51 (by omega) (by decide) (by first | exact (h3 _ (by omega)).2) ?_
          refine J.al0 dX2_hold_52 ?_
          refine J.bipush dX2_hold_53 kb_7 ?_
          refine pf_X2_17 rfl (by decide) dX2_hold_55 ?_
          refine J.al0 dX2_hold_58 ?_
          refine gf_X2_11 rfl (o2 := 21) (by decide) rfl dX2_hold_59 ?_
          refine J.al0 dX2_hold_62 ?_
          refine gf_X2_17 rfl (x := nI 7) (by decide) wr_s dX2_hold_63 ?_
          refine J.aaldS (q := r 0) dX2_hold_66 (by omega) (by decide) (by rw [wr_o (by decide)]; exact wr_s) (h3 0 (by omega)).2 ?_
          refine J.al1 dX2_hold_67 ?_
          refine cl_X2_22 rfl (kt_S (h3 _ (by omega)).2) (k' := 0) (n' := 0) (c_st_copyFrom _ (kt_S (h3 0 (by omega)).2) (by decide) (by omega) (hold_z hO hC)) ⟨⟨by decide, by decide⟩, ⟨rfl, rfl⟩, by decide, by decide⟩ rfl dX2_hold_68 (fun μ2 ⟨hE2, hO2⟩ => ?_)
          refine J.al0 dX2_hold_71 ?_
          refine J.dup dX2_hold_72 rfl ?_
          refine gf_X2_17 rfl (x := nI 7) (by decide) (by rw [hO2 20 (by have := (h3 0 (by omega)).2; omega)]; exact wr_s) dX2_hold_73 ?_
          refine J.iconst dX2_hold_76 kI_1 ?_
          refine J.iaddN dX2_hold_77 ?_
          refine pf_X2_17 rfl (by decide) dX2_hold_78 ?_
          refine J.vret rfl (by decide) (by decide) dX2_hold_81 ⟨_, rfl, ?_, ?_⟩
          · rfl
          · exact hold_full h1 (show n = 8 by omega) h3 h4 h5 (show i = 8 by omega) hI hO hC hE2 hO2
        · refine J.al0 dX2_hold_24 ?_
          refine gf_X2_11 rfl (o2 := 21) (by decide) rfl dX2_hold_25 ?_
          refine J.il3 dX2_hold_28 ?_
          refine J.iconst dX2_hold_29 kI_1 ?_
          refine J.isubN dX2_hold_30 (by omega) ?_
          refine J.al0 dX2_hold_31 ?_
          refine gf_X2_11 rfl (o2 := 21) (by decide) rfl dX2_hold_32 ?_
          refine J.il3 dX2_hold_35 ?_
          refine J.aaldS (q := r i) dX2_hold_36 (by omega) (by decide) (hU i (by omega) (by omega)) (h3 i (by omega)).2 ?_
          refine J.aastS (q := (r i)) dX2_hold_37 (by omega) (by decide) (by first | exact (h3 _ (by omega)).2) ?_
          refine J.ii3 (z := 1) dX2_hold_38 (by decide) (by decide) rfl ?_
          refine J.goto (tgt := 18) dX2_hold_41 (by decide) ?_
          exact ih18 (i + 1) _ (by omega) (by omega) (by omega) (hold_s hi1 hI) (hold_k hi1 hU) (Off.wr hO)
    exact lp18_1 (9) 1 _ (by omega) (by omega) (by omega) (fun j hj => absurd hj (by omega)) (fun j _ hj => (h3 j hj).1) Off.rf

set_option maxRecDepth 100000 in
set_option maxHeartbeats 4000000 in
theorem c_giveBack {g : GP} {adr : Nat → Nat} (μ : Mem) {n : Nat} {past : Nat → AS} (hP : PR μ n past) (hn : 0 < n) : CT g yX2_giveBack mX2_giveBack (RM 3 0 0) (WM g adr μ) [.ref (adr 20), .ref (adr 1)] (PM g adr (.inl none) (fun μ' => CS μ' 1 (past (n - 1)) ∧ PR μ' (n - 1) past ∧ ∀ o, (o < 1 ∨ (20 ≤ o ∧ o ≠ 20)) → μ' o = μ o)) := by
  refine CT.of (l0 := [some (.ref (adr 20)), some (.ref (adr 1))]) (by decide +kernel) rfl (Nat.le_of_ble_eq_true rfl) rfl ?_
  have hP0 := hP
  obtain ⟨h1, h2, r, h3, h4, h5⟩ := hP
  have hr9 := (h3 (n - 1) (by omega)).2
  refine J.al0 dX2_giveBack_0 ?_
  refine gf_X2_17 rfl (x := nI n) (by decide) h1 dX2_giveBack_1 ?_
  refine J.if_leN (tgt := 30) dX2_giveBack_4 (by decide) (by omega) (fun c4 => absurd c4 (by first | omega | (simp only [not_true_eq_false, not_false_eq_true]; done) | (simp; done))) (fun c4 => ?_)
  refine J.al0 dX2_giveBack_7 ?_
  refine J.dup dX2_giveBack_8 rfl ?_
  refine gf_X2_17 rfl (x := nI n) (by decide) h1 dX2_giveBack_9 ?_
  refine J.iconst dX2_giveBack_12 kI_1 ?_
  refine J.isubN dX2_giveBack_13 (by omega) ?_
  refine pf_X2_17 rfl (by decide) dX2_giveBack_14 ?_
  refine J.al1 dX2_giveBack_17 ?_
  refine J.al0 dX2_giveBack_18 ?_
  refine gf_X2_11 rfl (o2 := 21) (by decide) rfl dX2_giveBack_19 ?_
  refine J.al0 dX2_giveBack_22 ?_
  refine gf_X2_17 rfl (x := nI (n - 1)) (by decide) wr_s dX2_giveBack_23 ?_
  refine J.aaldS (q := r (n - 1)) dX2_giveBack_26 (by omega) (by decide) (by rw [wr_o (by decide)]; exact (h3 _ (by omega)).1) hr9 ?_
  refine cl_X2_22 rfl (by decide) (k' := 0) (n' := 0) (c_st_copyFrom _ (by decide) (kt_S hr9) (by omega) ((h5 (n - 1) (by omega)).off (μ' := wr μ 20 1 (nI (n - 1))) (fun o q1 q2 => wr_o (by omega))).z) ⟨⟨by decide, by decide⟩, ⟨rfl, rfl⟩, by decide, by decide⟩ rfl dX2_giveBack_27 (fun μ2 ⟨hE2, hO2⟩ => ?_)
  refine J.vret rfl (by decide) (by decide) dX2_giveBack_30 ⟨_, rfl, ?_, ?_⟩
  · rfl
  · exact gb_end h1 h2 h3 h4 h5 hn hE2 hO2
