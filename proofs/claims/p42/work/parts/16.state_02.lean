/-! ===== printed: the state and the past ===== -/
set_option maxRecDepth 100000 in
set_option maxHeartbeats 4000000 in
theorem c_takeFrom {g : GP} {adr : Nat → Nat} (μ : Mem) {t i : Nat} (ht₉ : kt t = 5) (hi₉ : i < 5) : CT g yX6_takeFrom mX6_takeFrom (RM 1 0 0) (WM g adr μ) [.ref (adr t), .int (nI i)] (PM g adr (.inl none) (fun μ' => μ' = wr μ (t + 8) i (nI 0))) := by
  refine CT.of (l0 := [some (.ref (adr t)), some (.int (nI i))]) (by decide +kernel) rfl (Nat.le_of_ble_eq_true rfl) rfl ?_
  have hk₉ := kt_st ht₉
  refine J.il1 dX6_takeFrom_0 ?_
  refine J.iconst dX6_takeFrom_1 kI_5 ?_
  refine cl_X6_54 rfl (k' := 0) (n' := 0) (isIndexT (by omega) (by omega)) ⟨⟨by decide, by decide⟩, ⟨rfl, rfl⟩, by decide, by decide⟩ rfl dX6_takeFrom_2 (fun μ9 h9₉ => ?_)
  rw [h9₉]; clear h9₉
  refine J.if_eqN (tgt := 15) dX6_takeFrom_5 (by decide) (by omega) (fun c5₉ => absurd c5₉ (by first | omega | (simp only [not_true_eq_false, not_false_eq_true]; done) | (simp; done))) (fun c5₉ => ?_)
  refine J.al0 dX6_takeFrom_8 ?_
  refine gf_X6_38 rfl (o2 := t + 8) ht₉ rfl dX6_takeFrom_9 ?_
  refine J.il1 dX6_takeFrom_12 ?_
  refine J.iconst dX6_takeFrom_13 kI_0 ?_
  refine J.zast (N := 5) hk₉.2.2.2.1 (by decide) (by omega) (by decide) dX6_takeFrom_14 ?_
  refine J.vret rfl (by decide) (by decide) dX6_takeFrom_15 ⟨_, rfl, ?_, ?_⟩
  · rfl
  · rfl

set_option maxRecDepth 100000 in
set_option maxHeartbeats 4000000 in
theorem c_countFilled {g : GP} {adr : Nat → Nat} (μ : Mem) {t : Nat} {σ : AS} (ht₉ : kt t = 5) (hC₉ : CS μ t σ) : CT g yX6_countFilled mX6_countFilled (RM 0 0 0) (WM g adr μ) [.ref (adr t)] (PM g adr ((.inl (some (.int (nI (cnt (aFl σ) 5)))))) (fun μ' => μ' = μ)) := by
  refine CT.of (l0 := [some (.ref (adr t)), none, none]) (by decide +kernel) rfl (Nat.le_of_ble_eq_true rfl) rfl ?_
  have hk₉ := kt_st ht₉
  refine J.iconst dX6_countFilled_0 kI_0 ?_
  refine J.is1 dX6_countFilled_1 (by decide) rfl ?_
  refine J.iconst dX6_countFilled_2 kI_0 ?_
  refine J.is2 dX6_countFilled_3 (by decide) rfl ?_
  have lp4_1 : ∀ (fu : Nat) (i n9 : Nat), 5 < i + fu → i ≤ 5 → n9 = cnt (aFl σ) i → J g mX6_countFilled (RM 0 0 0) (MQx g (RM 0 0 0) (PM g adr ((.inl (some (.int (nI (cnt (aFl σ) 5)))))) (fun μ' => μ' = μ))) 0 0 (WM g adr μ) 4 [some (.ref (adr t)), some (.int (nI n9)), some (.int (nI i))] [] := by
    intro fu
    induction fu with
    | zero => intro i n9 h9₉ hi₉ hc9₉; exact absurd h9₉ (by omega)
    | succ fu ih4 =>
      intro i n9 h9₉ hi₉ hc9₉
      refine J.il2 dX6_countFilled_4 ?_
      refine J.iconst dX6_countFilled_5 kI_5 ?_
      refine J.icmp_geN (tgt := 27) dX6_countFilled_6 (by decide) (by omega) (by omega) (fun c6₉ => ?_) (fun c6₉ => ?_)
      · refine J.il1 dX6_countFilled_27 ?_
        refine J.iret rfl (by decide) (by decide) dX6_countFilled_28 ⟨_, rfl, ?_, ?_⟩
        · rw [show i = 5 by omega] at hc9₉; rw [hc9₉]
        · rfl
      · refine J.al0 dX6_countFilled_9 ?_
        refine gf_X6_38 rfl (o2 := t + 8) ht₉ rfl dX6_countFilled_10 ?_
        refine J.il2 dX6_countFilled_13 ?_
        refine J.zald (N := 5) (x := if aFl σ i = true then nI 1 else nI 0) hk₉.2.2.2.1 (by decide) (by omega) (hC₉.2.2.2.2.2.2.2.1 _ (by omega)) dX6_countFilled_14 ?_
        refine J.if_eqB (tgt := 21) dX6_countFilled_15 (by decide) (fun c15₉ => ?_) (fun c15₉ => ?_)
        · refine J.ii2 (z := 1) dX6_countFilled_21 (by decide) (by decide) rfl ?_
          refine J.goto (tgt := 4) dX6_countFilled_24 (by decide) ?_
          exact ih4 (i + 1) n9 (by omega) (by omega) (by rw [cnt_1, hc9₉]; first | rw [if_pos (by exact c15₉)] | (rw [if_neg (by exact c15₉)]; rfl))
        · refine J.ii1 (z := 1) dX6_countFilled_18 (by decide) (by decide) rfl ?_
          refine J.ii2 (z := 1) dX6_countFilled_21 (by decide) (by decide) rfl ?_
          refine J.goto (tgt := 4) dX6_countFilled_24 (by decide) ?_
          exact ih4 (i + 1) (n9 + 1) (by omega) (by omega) (by rw [cnt_1, hc9₉]; first | rw [if_pos (by exact c15₉)] | (rw [if_neg (by exact c15₉)]; rfl))
  exact lp4_1 (6) 0 0 (by omega) (by omega) rfl

set_option maxRecDepth 100000 in
set_option maxHeartbeats 4000000 in
theorem c_p_size {g : GP} {adr : Nat → Nat} (μ : Mem) {n : Nat} {past : Nat → AS} (hP₉ : PR μ n past) : CT g yX2_size mX2_size (RM 0 0 0) (WM g adr μ) [.ref (adr 20)] (PM g adr ((.inl (some (.int (nI n))))) (fun μ' => μ' = μ)) := by
  refine CT.of (l0 := [some (.ref (adr 20))]) (by decide +kernel) rfl (Nat.le_of_ble_eq_true rfl) rfl ?_
  refine J.al0 dX2_size_0 ?_
  refine gf_X2_17 rfl (x := nI n) (by decide) (hP₉.1) dX2_size_1 ?_
  refine J.iret rfl (by decide) (by decide) dX2_size_4 ⟨_, rfl, ?_, ?_⟩
  · rfl
  · rfl


set_option maxRecDepth 100000 in
set_option maxHeartbeats 4000000 in
theorem c_hold {g : GP} {adr : Nat → Nat} (μ : Mem) {n : Nat} {past : Nat → AS} {σ : AS} (hP₉ : PR μ n past) (hC₉ : CS μ 1 σ) : CT g yX2_hold mX2_hold (RM 3 0 0) (WM g adr μ) [.ref (adr 20), .ref (adr 1)] (PM g adr (.inl none) (fun μ' => PR μ' (pushN n) (pushF n past σ) ∧ ∀ o, (o < 20 ∨ 174 ≤ o) → μ' o = μ o)) := by
  refine CT.of (l0 := [some (.ref (adr 20)), some (.ref (adr 1)), none, none]) (by decide +kernel) rfl (Nat.le_of_ble_eq_true rfl) rfl ?_
  have hP0₉ := hP₉
  obtain ⟨h1₉, h2₉, r, h3₉, h4₉, h5₉⟩ := hP₉
  refine J.al0 dX2_hold_0 ?_
  refine gf_X2_17 rfl (x := nI n) (by decide) h1₉ dX2_hold_1 ?_
  refine J.bipush dX2_hold_4 kb_8 ?_
  refine J.icmp_ltN (tgt := 58) dX2_hold_6 (by decide) (by omega) (by omega) (fun c6₉ => ?_) (fun c6₉ => ?_)
  · refine J.al0 dX2_hold_58 ?_
    refine gf_X2_17 rfl (x := nI n) (by decide) h1₉ dX2_hold_59 ?_
    refine J.bipush dX2_hold_62 kb_8 ?_
    refine cl_X2_22 rfl (k' := 0) (n' := 0) (isIndexT (by omega) (by omega)) ⟨⟨by decide, by decide⟩, ⟨rfl, rfl⟩, by decide, by decide⟩ rfl dX2_hold_64 (fun μ9 h9₉ => ?_)
    rw [h9₉]; clear h9₉
    refine J.if_eqN (tgt := 93) dX2_hold_67 (by decide) (by omega) (fun c67₉ => absurd c67₉ (by first | omega | (simp only [not_true_eq_false, not_false_eq_true]; done) | (simp; done))) (fun c67₉ => ?_)
    refine J.al0 dX2_hold_70 ?_
    refine gf_X2_11 rfl (o2 := 21) (by decide) rfl dX2_hold_71 ?_
    refine J.al0 dX2_hold_74 ?_
    refine gf_X2_17 rfl (x := nI n) (by decide) h1₉ dX2_hold_75 ?_
    refine J.aaldS (q := r n) dX2_hold_78 (by omega) (by decide) (h3₉ n (by omega)).1 (h3₉ n (by omega)).2 ?_
    refine J.al1 dX2_hold_79 ?_
    refine cl_X2_26 rfl (kt_S (h3₉ _ (by omega)).2) (k' := 0) (n' := 0) (c_st_copyFrom _ (kt_S (h3₉ n (by omega)).2) (by decide) (by omega) hC₉.z) ⟨⟨by decide, by decide⟩, ⟨rfl, rfl⟩, by decide, by decide⟩ rfl dX2_hold_80 (fun μ2 ⟨hE2₉, hO2₉⟩ => ?_)
    refine J.al0 dX2_hold_83 ?_
    refine J.dup dX2_hold_84 rfl ?_
    refine gf_X2_17 rfl (x := nI n) (by decide) (by rw [hO2₉ 20 (by have := (h3₉ n (by omega)).2; omega)]; exact h1₉) dX2_hold_85 ?_
    refine J.iconst dX2_hold_88 kI_1 ?_
    refine J.iaddN dX2_hold_89 ?_
    refine pf_X2_17 rfl (by decide) dX2_hold_90 ?_
    refine J.vret rfl (by decide) (by decide) dX2_hold_93 ⟨_, rfl, ?_, ?_⟩
    · rfl
    · exact hold_part hP0₉ h1₉ h3₉ h4₉ h5₉ (by omega) hC₉ hE2₉ hO2₉
  · refine J.al0 dX2_hold_9 ?_
    refine gf_X2_11 rfl (o2 := 21) (by decide) rfl dX2_hold_10 ?_
    refine J.iconst dX2_hold_13 kI_0 ?_
    refine J.aaldS (q := r 0) dX2_hold_14 (by omega) (by decide) (h3₉ 0 (by omega)).1 (h3₉ 0 (by omega)).2 ?_
    refine J.as2 dX2_hold_15 (by decide) rfl ?_
    refine J.iconst dX2_hold_16 kI_1 ?_
    refine J.is3 dX2_hold_17 (by decide) rfl ?_
    have lp18_1 : ∀ (fu : Nat) (i : Nat) (μ1 : Mem), 8 < i + fu → i ≤ 8 → 1 ≤ i → (∀ j, j + 1 < i → μ1 21 j = nI (r (j + 1))) → (∀ j, i - 1 ≤ j → j < 8 → μ1 21 j = nI (r j)) → Off μ1 μ 21 → J g mX2_hold (RM 3 0 0) (MQx g (RM 3 0 0) (PM g adr (.inl none) (fun μ' => PR μ' (pushN n) (pushF n past σ) ∧ ∀ o, (o < 20 ∨ 174 ≤ o) → μ' o = μ o))) 0 0 (WM g adr μ1) 18 [some (.ref (adr 20)), some (.ref (adr 1)), some (.ref (adr (22 + 19 * (r 0)))), some (.int (nI i))] [] := by
      intro fu
      induction fu with
      | zero => intro i μ1 h9₉ hi₉ hi1₉ hI₉ hU₉ hO₉; exact absurd h9₉ (by omega)
      | succ fu ih18 =>
        intro i μ1 h9₉ hi₉ hi1₉ hI₉ hU₉ hO₉
        refine J.il3 dX2_hold_18 ?_
        refine J.bipush dX2_hold_19 kb_8 ?_
        refine J.icmp_geN (tgt := 44) dX2_hold_21 (by decide) (by omega) (by omega) (fun c21₉ => ?_) (fun c21₉ => ?_)
        · refine J.al0 dX2_hold_44 ?_
          refine gf_X2_11 rfl (o2 := 21) (by decide) rfl dX2_hold_45 ?_
          refine J.bipush dX2_hold_48 kb_7 ?_
          refine J.al2 dX2_hold_50 ?_
          refine J.aastS (q := (r 0)) dX2_hold_51 (by omega) (by decide) (by first | exact (h3₉ _ (by omega)).2) ?_
          refine J.al0 dX2_hold_52 ?_
          refine J.bipush dX2_hold_53 kb_7 ?_
          refine pf_X2_17 rfl (by decide) dX2_hold_55 ?_
          refine J.al0 dX2_hold_58 ?_
          refine gf_X2_17 rfl (x := nI 7) (by decide) wr_s dX2_hold_59 ?_
          refine J.bipush dX2_hold_62 kb_8 ?_
          refine cl_X2_22 rfl (k' := 0) (n' := 0) (isIndexT (by omega) (by omega)) ⟨⟨by decide, by decide⟩, ⟨rfl, rfl⟩, by decide, by decide⟩ rfl dX2_hold_64 (fun μ9 h9₉ => ?_)
          rw [h9₉]; clear h9₉
          refine J.if_eqN (tgt := 93) dX2_hold_67 (by decide) (by omega) (fun c67₉ => absurd c67₉ (by first | omega | (simp only [not_true_eq_false, not_false_eq_true]; done) | (simp; done))) (fun c67₉ => ?_)
          refine J.al0 dX2_hold_70 ?_
          refine gf_X2_11 rfl (o2 := 21) (by decide) rfl dX2_hold_71 ?_
          refine J.al0 dX2_hold_74 ?_
          refine gf_X2_17 rfl (x := nI 7) (by decide) wr_s dX2_hold_75 ?_
          refine J.aaldS (q := r 0) dX2_hold_78 (by omega) (by decide) (by rw [wr_o (by decide)]; exact wr_s) (h3₉ 0 (by omega)).2 ?_
          refine J.al1 dX2_hold_79 ?_
          refine cl_X2_26 rfl (kt_S (h3₉ _ (by omega)).2) (k' := 0) (n' := 0) (c_st_copyFrom _ (kt_S (h3₉ 0 (by omega)).2) (by decide) (by omega) (hold_z hO₉ hC₉)) ⟨⟨by decide, by decide⟩, ⟨rfl, rfl⟩, by decide, by decide⟩ rfl dX2_hold_80 (fun μ2 ⟨hE2₉, hO2₉⟩ => ?_)
          refine J.al0 dX2_hold_83 ?_
          refine J.dup dX2_hold_84 rfl ?_
          refine gf_X2_17 rfl (x := nI 7) (by decide) (by rw [hO2₉ 20 (by have := (h3₉ 0 (by omega)).2; omega)]; exact wr_s) dX2_hold_85 ?_
          refine J.iconst dX2_hold_88 kI_1 ?_
          refine J.iaddN dX2_hold_89 ?_
          refine pf_X2_17 rfl (by decide) dX2_hold_90 ?_
          refine J.vret rfl (by decide) (by decide) dX2_hold_93 ⟨_, rfl, ?_, ?_⟩
          · rfl
          · exact hold_full h1₉ (show n = 8 by omega) h3₉ h4₉ h5₉ (show i = 8 by omega) hI₉ hO₉ hC₉ hE2₉ hO2₉
        · refine J.al0 dX2_hold_24 ?_
          refine gf_X2_11 rfl (o2 := 21) (by decide) rfl dX2_hold_25 ?_
          refine J.il3 dX2_hold_28 ?_
          refine J.iconst dX2_hold_29 kI_1 ?_
          refine J.isubN dX2_hold_30 (by omega) ?_
          refine J.al0 dX2_hold_31 ?_
          refine gf_X2_11 rfl (o2 := 21) (by decide) rfl dX2_hold_32 ?_
          refine J.il3 dX2_hold_35 ?_
          refine J.aaldS (q := r i) dX2_hold_36 (by omega) (by decide) (hU₉ i (by omega) (by omega)) (h3₉ i (by omega)).2 ?_
          refine J.aastS (q := (r i)) dX2_hold_37 (by omega) (by decide) (by first | exact (h3₉ _ (by omega)).2) ?_
          refine J.ii3 (z := 1) dX2_hold_38 (by decide) (by decide) rfl ?_
          refine J.goto (tgt := 18) dX2_hold_41 (by decide) ?_
          exact ih18 (i + 1) _ (by omega) (by omega) (by omega) (hold_s hi1₉ hI₉) (hold_k hi1₉ hU₉) (Off.wr hO₉)
    exact lp18_1 (9) 1 _ (by omega) (by omega) (by omega) (fun j hj₉ => absurd hj₉ (by omega)) (fun j _ hj₉ => (h3₉ j hj₉).1) Off.rf
