/-! ===== printed: the barrel, the log, the signs ===== -/
set_option maxRecDepth 100000 in
set_option maxHeartbeats 4000000 in
theorem c_countSeams {g : GP} {adr : Nat → Nat} (μ : Mem) {b : Nat} {f c : Nat → Nat} (hb₉ : kt b = 2) (hf₉ : PermR μ (b + 1) f) (hc₉ : ColR μ (b + 3) c) : CT g yX0_countSeams mX0_countSeams (RM 3 0 0) (WM g adr μ) [.ref (adr b)] (PM g adr ((.inl (some (.int (nI (sumU (seam1 (fun s => c (f s))) 32)))))) (fun μ' => μ' = μ)) := by
  refine CT.of (l0 := [some (.ref (adr b)), none, none, none, none]) (by decide +kernel) rfl (Nat.le_of_ble_eq_true rfl) rfl ?_
  have hk₉ := kt_b hb₉
  refine J.iconst dX0_countSeams_0 kI_0 ?_
  refine J.is1 dX0_countSeams_1 (by decide) rfl ?_
  refine J.iconst dX0_countSeams_2 kI_0 ?_
  refine J.is2 dX0_countSeams_3 (by decide) rfl ?_
  have lp4_1 : ∀ (fu : Nat) (i n9 : Nat), 32 < i + fu → i ≤ 32 → n9 = sumU (seam1 (fun s => c (f s))) i → J g mX0_countSeams (RM 3 0 0) (MQx g (RM 3 0 0) (PM g adr ((.inl (some (.int (nI (sumU (seam1 (fun s => c (f s))) 32)))))) (fun μ' => μ' = μ))) 0 0 (WM g adr μ) 4 [some (.ref (adr b)), some (.int (nI n9)), some (.int (nI i)), none, none] [] := by
    intro fu
    induction fu with
    | zero => intro i n9 h9₉ hi₉ hc9₉; exact absurd h9₉ (by omega)
    | succ fu ih4 =>
      intro i n9 h9₉ hi₉ hc9₉
      have hle₉ := sumU_le (n := i) (fun k _ => seam1_le (fun s => c (f s)) k)
      refine J.il2 dX0_countSeams_4 ?_
      refine J.bipush dX0_countSeams_5 kb_32 ?_
      refine J.icmp_geN (tgt := 72) dX0_countSeams_7 (by decide) (by omega) (by omega) (fun c7₉ => ?_) (fun c7₉ => ?_)
      · refine J.il1 dX0_countSeams_72 ?_
        refine J.iret rfl (by decide) (by decide) dX0_countSeams_73 ⟨_, rfl, ?_, ?_⟩
        · rw [show i = 32 by omega] at hc9₉; rw [hc9₉]
        · rfl
      · refine J.il2 dX0_countSeams_10 ?_
        refine J.il2 dX0_countSeams_11 ?_
        refine J.bipush dX0_countSeams_12 kb_8 ?_
        refine J.irem dX0_countSeams_14 (by omega) (by omega) (by omega) ?_
        refine J.isubN dX0_countSeams_15 (by omega) ?_
        refine J.il2 dX0_countSeams_16 ?_
        refine J.iconst dX0_countSeams_17 kI_1 ?_
        refine J.iaddN dX0_countSeams_18 ?_
        refine J.bipush dX0_countSeams_19 kb_8 ?_
        refine J.irem dX0_countSeams_21 (by omega) (by omega) (by omega) ?_
        refine J.iaddN dX0_countSeams_22 ?_
        refine J.is3 dX0_countSeams_23 (by decide) rfl ?_
        refine J.il2 dX0_countSeams_24 ?_
        refine J.bipush dX0_countSeams_25 kb_8 ?_
        refine J.iaddN dX0_countSeams_27 ?_
        refine J.bipush dX0_countSeams_28 kb_32 ?_
        refine J.irem dX0_countSeams_30 (by omega) (by omega) (by omega) ?_
        refine J.is4 dX0_countSeams_31 (by decide) rfl ?_
        refine J.al0 dX0_countSeams_33 ?_
        refine J.il2 dX0_countSeams_34 ?_
        refine cl_X0_43 rfl hb₉ (k' := 0) (n' := 0) (c_colourIn _ hb₉ hf₉ hc₉ (by omega)) ⟨⟨by decide, by decide⟩, ⟨rfl, rfl⟩, by decide, by decide⟩ rfl dX0_countSeams_35 (fun μ9 h9₉ => ?_)
        rw [h9₉]; clear h9₉
        have hb35₉ := (hc₉ _ (hf₉ i (by omega)).2).2
        refine J.al0 dX0_countSeams_38 ?_
        refine J.il3 dX0_countSeams_39 ?_
        refine cl_X0_43 rfl hb₉ (k' := 0) (n' := 0) (c_colourIn _ hb₉ hf₉ hc₉ (by omega)) ⟨⟨by decide, by decide⟩, ⟨rfl, rfl⟩, by decide, by decide⟩ rfl dX0_countSeams_40 (fun μ9 h9₉ => ?_)
        rw [h9₉]; clear h9₉
        have hb40₉ := (hc₉ _ (hf₉ ((i - (i % 8)) + ((i + 1) % 8)) (by omega)).2).2
        refine J.icmp_eqN (tgt := 49) dX0_countSeams_43 (by decide) (by omega) (by omega) (fun c43₉ => ?_) (fun c43₉ => ?_)
        · refine J.al0 dX0_countSeams_49 ?_
          refine J.il2 dX0_countSeams_50 ?_
          refine cl_X0_43 rfl hb₉ (k' := 0) (n' := 0) (c_colourIn _ hb₉ hf₉ hc₉ (by omega)) ⟨⟨by decide, by decide⟩, ⟨rfl, rfl⟩, by decide, by decide⟩ rfl dX0_countSeams_51 (fun μ9 h9₉ => ?_)
          rw [h9₉]; clear h9₉
          have hb51₉ := (hc₉ _ (hf₉ i (by omega)).2).2
          refine J.al0 dX0_countSeams_54 ?_
          refine J.il4 dX0_countSeams_55 ?_
          refine cl_X0_43 rfl hb₉ (k' := 0) (n' := 0) (c_colourIn _ hb₉ hf₉ hc₉ (by omega)) ⟨⟨by decide, by decide⟩, ⟨rfl, rfl⟩, by decide, by decide⟩ rfl dX0_countSeams_57 (fun μ9 h9₉ => ?_)
          rw [h9₉]; clear h9₉
          have hb57₉ := (hc₉ _ (hf₉ ((i + 8) % 32) (by omega)).2).2
          refine J.icmp_eqN (tgt := 66) dX0_countSeams_60 (by decide) (by omega) (by omega) (fun c60₉ => ?_) (fun c60₉ => ?_)
          · refine J.ii2 (z := 1) dX0_countSeams_66 (by decide) (by decide) rfl ?_
            refine J.goto (tgt := 4) dX0_countSeams_69 (by decide) ?_
            exact J.subR (ih4 (i + 1) n9 (by omega) (by omega) (by rw [sumU_1, hc9₉, show seam1 (fun s => c (f s)) i = 0 from (by first | exact seam_tt c43₉ c60₉ | exact seam_tf c43₉ c60₉ | exact seam_ft c43₉ c60₉ | exact seam_ff c43₉ c60₉)] <;> rfl)) ⟨rfl, ⟨rfl, ⟨rfl, trivial⟩⟩⟩
          · refine J.ii1 (z := 1) dX0_countSeams_63 (by decide) (by decide) rfl ?_
            refine J.ii2 (z := 1) dX0_countSeams_66 (by decide) (by decide) rfl ?_
            refine J.goto (tgt := 4) dX0_countSeams_69 (by decide) ?_
            exact J.subR (ih4 (i + 1) (n9 + 1) (by omega) (by omega) (by rw [sumU_1, hc9₉, show seam1 (fun s => c (f s)) i = 1 from (by first | exact seam_tt c43₉ c60₉ | exact seam_tf c43₉ c60₉ | exact seam_ft c43₉ c60₉ | exact seam_ff c43₉ c60₉)] <;> rfl)) ⟨rfl, ⟨rfl, ⟨rfl, trivial⟩⟩⟩
        · refine J.ii1 (z := 1) dX0_countSeams_46 (by decide) (by decide) rfl ?_
          refine J.al0 dX0_countSeams_49 ?_
          refine J.il2 dX0_countSeams_50 ?_
          refine cl_X0_43 rfl hb₉ (k' := 0) (n' := 0) (c_colourIn _ hb₉ hf₉ hc₉ (by omega)) ⟨⟨by decide, by decide⟩, ⟨rfl, rfl⟩, by decide, by decide⟩ rfl dX0_countSeams_51 (fun μ9 h9₉ => ?_)
          rw [h9₉]; clear h9₉
          have hb51₉ := (hc₉ _ (hf₉ i (by omega)).2).2
          refine J.al0 dX0_countSeams_54 ?_
          refine J.il4 dX0_countSeams_55 ?_
          refine cl_X0_43 rfl hb₉ (k' := 0) (n' := 0) (c_colourIn _ hb₉ hf₉ hc₉ (by omega)) ⟨⟨by decide, by decide⟩, ⟨rfl, rfl⟩, by decide, by decide⟩ rfl dX0_countSeams_57 (fun μ9 h9₉ => ?_)
          rw [h9₉]; clear h9₉
          have hb57₉ := (hc₉ _ (hf₉ ((i + 8) % 32) (by omega)).2).2
          refine J.icmp_eqN (tgt := 66) dX0_countSeams_60 (by decide) (by omega) (by omega) (fun c60₉ => ?_) (fun c60₉ => ?_)
          · refine J.ii2 (z := 1) dX0_countSeams_66 (by decide) (by decide) rfl ?_
            refine J.goto (tgt := 4) dX0_countSeams_69 (by decide) ?_
            exact J.subR (ih4 (i + 1) (n9 + 1) (by omega) (by omega) (by rw [sumU_1, hc9₉, show seam1 (fun s => c (f s)) i = 1 from (by first | exact seam_tt c43₉ c60₉ | exact seam_tf c43₉ c60₉ | exact seam_ft c43₉ c60₉ | exact seam_ff c43₉ c60₉)] <;> rfl)) ⟨rfl, ⟨rfl, ⟨rfl, trivial⟩⟩⟩
          · refine J.ii1 (z := 1) dX0_countSeams_63 (by decide) (by decide) rfl ?_
            refine J.ii2 (z := 1) dX0_countSeams_66 (by decide) (by decide) rfl ?_
            refine J.goto (tgt := 4) dX0_countSeams_69 (by decide) ?_
            exact J.subR (ih4 (i + 1) ((n9 + 1) + 1) (by omega) (by omega) (by rw [sumU_1, hc9₉, show seam1 (fun s => c (f s)) i = 2 from (by first | exact seam_tt c43₉ c60₉ | exact seam_tf c43₉ c60₉ | exact seam_ft c43₉ c60₉ | exact seam_ff c43₉ c60₉)] <;> rfl)) ⟨rfl, ⟨rfl, ⟨rfl, trivial⟩⟩⟩
  exact lp4_1 (33) 0 0 (by omega) (by omega) rfl

set_option maxRecDepth 100000 in
set_option maxHeartbeats 4000000 in
theorem c_movesBetween {g : GP} {adr : Nat → Nat} (μ : Mem) {a b : Nat} (ha₉ : a < 32) (hb₉ : b < 32) : CT g yX7_movesBetween mX7_movesBetween (RM 0 0 0) (WM g adr μ) [.int (nI a), .int (nI b)] (PM g adr ((.inl (some (.int (nI (apart a b)))))) (fun μ' => μ' = μ)) := by
  refine CT.of (l0 := [some (.int (nI a)), some (.int (nI b)), none, none]) (by decide +kernel) rfl (Nat.le_of_ble_eq_true rfl) rfl ?_
  refine J.il0 dX7_movesBetween_0 ?_
  refine J.bipush dX7_movesBetween_1 kb_8 ?_
  refine J.irem dX7_movesBetween_3 (by omega) (by omega) (by omega) ?_
  refine J.il1 dX7_movesBetween_4 ?_
  refine J.bipush dX7_movesBetween_5 kb_8 ?_
  refine J.irem dX7_movesBetween_7 (by omega) (by omega) (by omega) ?_
  refine J.icmp_neN (tgt := 15) dX7_movesBetween_8 (by decide) (by omega) (by omega) (fun c8₉ => ?_) (fun c8₉ => ?_)
  · refine J.iconst dX7_movesBetween_15 kI_1 ?_
    refine J.is2 dX7_movesBetween_16 (by decide) rfl ?_
    refine J.il0 dX7_movesBetween_17 ?_
    refine J.bipush dX7_movesBetween_18 kb_8 ?_
    refine J.idiv dX7_movesBetween_20 (by omega) (by omega) (by omega) ?_
    refine J.il1 dX7_movesBetween_21 ?_
    refine J.bipush dX7_movesBetween_22 kb_8 ?_
    refine J.idiv dX7_movesBetween_24 (by omega) (by omega) (by omega) ?_
    refine J.icmp_neN (tgt := 32) dX7_movesBetween_25 (by decide) (by omega) (by omega) (fun c25₉ => ?_) (fun c25₉ => ?_)
    · refine J.iconst dX7_movesBetween_32 kI_1 ?_
      refine J.is3 dX7_movesBetween_33 (by decide) rfl ?_
      refine J.il2 dX7_movesBetween_34 ?_
      refine J.il3 dX7_movesBetween_35 ?_
      refine J.iaddN dX7_movesBetween_36 ?_
      refine J.iret rfl (by decide) (by decide) dX7_movesBetween_37 ⟨_, rfl, ?_, ?_⟩
      · unfold apart; first | rw [if_pos (by assumption), if_pos (by assumption)] | rw [if_pos (by assumption), if_neg (by assumption)] | rw [if_neg (by assumption), if_pos (by assumption)] | rw [if_neg (by assumption), if_neg (by assumption)]
      · rfl
    · refine J.iconst dX7_movesBetween_28 kI_0 ?_
      refine J.goto (tgt := 33) dX7_movesBetween_29 (by decide) ?_
      refine J.is3 dX7_movesBetween_33 (by decide) rfl ?_
      refine J.il2 dX7_movesBetween_34 ?_
      refine J.il3 dX7_movesBetween_35 ?_
      refine J.iaddN dX7_movesBetween_36 ?_
      refine J.iret rfl (by decide) (by decide) dX7_movesBetween_37 ⟨_, rfl, ?_, ?_⟩
      · unfold apart; first | rw [if_pos (by assumption), if_pos (by assumption)] | rw [if_pos (by assumption), if_neg (by assumption)] | rw [if_neg (by assumption), if_pos (by assumption)] | rw [if_neg (by assumption), if_neg (by assumption)]
      · rfl
  · refine J.iconst dX7_movesBetween_11 kI_0 ?_
    refine J.goto (tgt := 16) dX7_movesBetween_12 (by decide) ?_
    refine J.is2 dX7_movesBetween_16 (by decide) rfl ?_
    refine J.il0 dX7_movesBetween_17 ?_
    refine J.bipush dX7_movesBetween_18 kb_8 ?_
    refine J.idiv dX7_movesBetween_20 (by omega) (by omega) (by omega) ?_
    refine J.il1 dX7_movesBetween_21 ?_
    refine J.bipush dX7_movesBetween_22 kb_8 ?_
    refine J.idiv dX7_movesBetween_24 (by omega) (by omega) (by omega) ?_
    refine J.icmp_neN (tgt := 32) dX7_movesBetween_25 (by decide) (by omega) (by omega) (fun c25₉ => ?_) (fun c25₉ => ?_)
    · refine J.iconst dX7_movesBetween_32 kI_1 ?_
      refine J.is3 dX7_movesBetween_33 (by decide) rfl ?_
      refine J.il2 dX7_movesBetween_34 ?_
      refine J.il3 dX7_movesBetween_35 ?_
      refine J.iaddN dX7_movesBetween_36 ?_
      refine J.iret rfl (by decide) (by decide) dX7_movesBetween_37 ⟨_, rfl, ?_, ?_⟩
      · unfold apart; first | rw [if_pos (by assumption), if_pos (by assumption)] | rw [if_pos (by assumption), if_neg (by assumption)] | rw [if_neg (by assumption), if_pos (by assumption)] | rw [if_neg (by assumption), if_neg (by assumption)]
      · rfl
    · refine J.iconst dX7_movesBetween_28 kI_0 ?_
      refine J.goto (tgt := 33) dX7_movesBetween_29 (by decide) ?_
      refine J.is3 dX7_movesBetween_33 (by decide) rfl ?_
      refine J.il2 dX7_movesBetween_34 ?_
      refine J.il3 dX7_movesBetween_35 ?_
      refine J.iaddN dX7_movesBetween_36 ?_
      refine J.iret rfl (by decide) (by decide) dX7_movesBetween_37 ⟨_, rfl, ?_, ?_⟩
      · unfold apart; first | rw [if_pos (by assumption), if_pos (by assumption)] | rw [if_pos (by assumption), if_neg (by assumption)] | rw [if_neg (by assumption), if_pos (by assumption)] | rw [if_neg (by assumption), if_neg (by assumption)]
      · rfl

set_option maxRecDepth 100000 in
set_option maxHeartbeats 4000000 in
theorem c_movesToHomes {g : GP} {adr : Nat → Nat} (μ : Mem) {b : Nat} {f : Nat → Nat} (hb₉ : kt b = 2) (hf₉ : PermR μ (b + 2) f) : CT g yX0_movesToHomes mX0_movesToHomes (RM 1 0 0) (WM g adr μ) [.ref (adr b)] (PM g adr ((.inl (some (.int (nI (sumU (fun k => apart (f k) k) 32)))))) (fun μ' => μ' = μ)) := by
  refine CT.of (l0 := [some (.ref (adr b)), none, none]) (by decide +kernel) rfl (Nat.le_of_ble_eq_true rfl) rfl ?_
  have hk₉ := kt_b hb₉
  refine J.iconst dX0_movesToHomes_0 kI_0 ?_
  refine J.is1 dX0_movesToHomes_1 (by decide) rfl ?_
  refine J.iconst dX0_movesToHomes_2 kI_0 ?_
  refine J.is2 dX0_movesToHomes_3 (by decide) rfl ?_
  have lp4_1 : ∀ (fu : Nat) (i n9 : Nat), 32 < i + fu → i ≤ 32 → n9 = sumU (fun k => apart (f k) k) i → J g mX0_movesToHomes (RM 1 0 0) (MQx g (RM 1 0 0) (PM g adr ((.inl (some (.int (nI (sumU (fun k => apart (f k) k) 32)))))) (fun μ' => μ' = μ))) 0 0 (WM g adr μ) 4 [some (.ref (adr b)), some (.int (nI n9)), some (.int (nI i))] [] := by
    intro fu
    induction fu with
    | zero => intro i n9 h9₉ hi₉ hc9₉; exact absurd h9₉ (by omega)
    | succ fu ih4 =>
      intro i n9 h9₉ hi₉ hc9₉
      have hle₉ := sumU_le (n := i) (fun k _ => apart_le (f k) k)
      refine J.il2 dX0_movesToHomes_4 ?_
      refine J.bipush dX0_movesToHomes_5 kb_32 ?_
      refine J.icmp_geN (tgt := 29) dX0_movesToHomes_7 (by decide) (by omega) (by omega) (fun c7₉ => ?_) (fun c7₉ => ?_)
      · refine J.il1 dX0_movesToHomes_29 ?_
        refine J.iret rfl (by decide) (by decide) dX0_movesToHomes_30 ⟨_, rfl, ?_, ?_⟩
        · rw [show i = 32 by omega] at hc9₉; rw [hc9₉]
        · rfl
      · refine J.il1 dX0_movesToHomes_10 ?_
        refine J.al0 dX0_movesToHomes_11 ?_
        refine gf_X0_15 rfl (o2 := b + 2) hb₉ rfl dX0_movesToHomes_12 ?_
        refine J.il2 dX0_movesToHomes_15 ?_
        have hb2₉ := (hf₉ i (by omega)).2
        refine J.iald (N := 32) (x := nI (f i)) hk₉.2.1 (by decide) (by decide) (by omega) ((hf₉ i (by omega)).1) dX0_movesToHomes_16 ?_
        refine J.il2 dX0_movesToHomes_17 ?_
        have hap18₉ := apart_le (f i) i
        refine cl_X0_50 rfl (k' := 0) (n' := 0) (c_movesBetween _ (by omega) (by omega)) ⟨⟨by decide, by decide⟩, ⟨rfl, rfl⟩, by decide, by decide⟩ rfl dX0_movesToHomes_18 (fun μ9 h9₉ => ?_)
        rw [h9₉]; clear h9₉
        refine J.iaddN dX0_movesToHomes_21 ?_
        refine J.is1 dX0_movesToHomes_22 (by decide) rfl ?_
        refine J.ii2 (z := 1) dX0_movesToHomes_23 (by decide) (by decide) rfl ?_
        refine J.goto (tgt := 4) dX0_movesToHomes_26 (by decide) ?_
        exact ih4 (i + 1) (n9 + (apart (f i) i)) (by omega) (by omega) (by rw [sumU_1, hc9₉])
  exact lp4_1 (33) 0 0 (by omega) (by omega) rfl

set_option maxRecDepth 100000 in
set_option maxHeartbeats 4000000 in
theorem c_isEachWhereTold {g : GP} {adr : Nat → Nat} (μ : Mem) {b : Nat} {f : Nat → Nat} (hb₉ : kt b = 2) (hf₉ : PermR μ (b + 1) f) (hg₉ : PermR μ (b + 2) (pinv f)) (hB₉ : Bij f) : CT g yX0_isEachWhereTold mX0_isEachWhereTold (RM 2 0 0) (WM g adr μ) [.ref (adr b)] (PM g adr ((.inl (some (.int (nI 1))))) (fun μ' => μ' = μ)) := by
  refine CT.of (l0 := [some (.ref (adr b)), none, none, none]) (by decide +kernel) rfl (Nat.le_of_ble_eq_true rfl) rfl ?_
  have hk₉ := kt_b hb₉
  refine J.iconst dX0_isEachWhereTold_0 kI_0 ?_
  refine J.is1 dX0_isEachWhereTold_1 (by decide) rfl ?_
  have lp2_1 : ∀ (fu : Nat) (i : Nat), 32 < i + fu → i ≤ 32 → J g mX0_isEachWhereTold (RM 2 0 0) (MQx g (RM 2 0 0) (PM g adr ((.inl (some (.int (nI 1))))) (fun μ' => μ' = μ))) 0 0 (WM g adr μ) 2 [some (.ref (adr b)), some (.int (nI i)), none, none] [] := by
    intro fu
    induction fu with
    | zero => intro i h9₉ hi₉; exact absurd h9₉ (by omega)
    | succ fu ih2 =>
      intro i h9₉ hi₉
      refine J.il1 dX0_isEachWhereTold_2 ?_
      refine J.bipush dX0_isEachWhereTold_3 kb_32 ?_
      refine J.icmp_geN (tgt := 64) dX0_isEachWhereTold_5 (by decide) (by omega) (by omega) (fun c5₉ => ?_) (fun c5₉ => ?_)
      · refine J.iconst dX0_isEachWhereTold_64 kI_1 ?_
        refine J.zret (ty := .boolean) rfl (by decide) (by decide) (by decide) dX0_isEachWhereTold_65 ⟨_, rfl, ?_, ?_⟩
        · rfl
        · rfl
      · refine J.iconst dX0_isEachWhereTold_8 kI_0 ?_
        refine J.is2 dX0_isEachWhereTold_9 (by decide) rfl ?_
        refine J.iconst dX0_isEachWhereTold_10 kI_0 ?_
        refine J.is3 dX0_isEachWhereTold_11 (by decide) rfl ?_
        have lp12_2 : ∀ (fu : Nat) (j n9 : Nat), 32 < j + fu → j ≤ 32 → n9 = cnt (fun s => decide (f s = i)) j → J g mX0_isEachWhereTold (RM 2 0 0) (MQx g (RM 2 0 0) (PM g adr ((.inl (some (.int (nI 1))))) (fun μ' => μ' = μ))) 0 0 (WM g adr μ) 12 [some (.ref (adr b)), some (.int (nI i)), some (.int (nI n9)), some (.int (nI j))] [] := by
          intro fu
          induction fu with
          | zero => intro j n9 h9₉ hj₉ hc9₉; exact absurd h9₉ (by omega)
          | succ fu ih12 =>
            intro j n9 h9₉ hj₉ hc9₉
            have hcl₉ := cnt_le (fun s => decide (f s = i)) j
            refine J.il3 dX0_isEachWhereTold_12 ?_
            refine J.bipush dX0_isEachWhereTold_13 kb_32 ?_
            refine J.icmp_geN (tgt := 37) dX0_isEachWhereTold_15 (by decide) (by omega) (by omega) (fun c15₉ => ?_) (fun c15₉ => ?_)
            · refine J.il2 dX0_isEachWhereTold_37 ?_
              refine J.iconst dX0_isEachWhereTold_38 kI_1 ?_
              refine J.icmp_neN (tgt := 56) dX0_isEachWhereTold_39 (by decide) (by omega) (by omega) (fun c39₉ => absurd (show n9 = 1 by rw [hc9₉, show j = 32 by omega]; exact cnt_hit hB₉.2 (ph_onto hB₉.1 hB₉.2 (by omega))) c39₉) (fun c39₉ => ?_)
              refine J.al0 dX0_isEachWhereTold_42 ?_
              refine J.al0 dX0_isEachWhereTold_43 ?_
              refine gf_X0_15 rfl (o2 := b + 2) hb₉ rfl dX0_isEachWhereTold_44 ?_
              refine J.il1 dX0_isEachWhereTold_47 ?_
              have hb3₉ := (hg₉ i (by omega)).2
              refine J.iald (N := 32) (x := nI (pinv f i)) hk₉.2.1 (by decide) (by decide) (by omega) ((hg₉ i (by omega)).1) dX0_isEachWhereTold_48 ?_
              refine cl_X0_31 rfl hb₉ (k' := 0) (n' := 0) (c_stickerIn _ hb₉ hf₉ (by omega)) ⟨⟨by decide, by decide⟩, ⟨rfl, rfl⟩, by decide, by decide⟩ rfl dX0_isEachWhereTold_49 (fun μ9 h9₉ => ?_)
              rw [h9₉]; clear h9₉
              have hb49₉ := (hf₉ (pinv f i) (by omega)).2
              refine J.il1 dX0_isEachWhereTold_52 ?_
              refine J.icmp_eqN (tgt := 58) dX0_isEachWhereTold_53 (by decide) (by omega) (by omega) (fun c53₉ => ?_) (fun c53₉ => absurd (hB₉.inv1 (by omega)).2 c53₉)
              refine J.ii1 (z := 1) dX0_isEachWhereTold_58 (by decide) (by decide) rfl ?_
              refine J.goto (tgt := 2) dX0_isEachWhereTold_61 (by decide) ?_
              exact J.subR (ih2 (i + 1) (by omega) (by omega)) ⟨rfl, ⟨rfl, trivial⟩⟩
            · refine J.al0 dX0_isEachWhereTold_18 ?_
              refine gf_X0_9 rfl (o2 := b + 1) hb₉ rfl dX0_isEachWhereTold_19 ?_
              refine J.il3 dX0_isEachWhereTold_22 ?_
              have hb4₉ := (hf₉ j (by omega)).2
              refine J.iald (N := 32) (x := nI (f j)) hk₉.1 (by decide) (by decide) (by omega) ((hf₉ j (by omega)).1) dX0_isEachWhereTold_23 ?_
              refine J.il1 dX0_isEachWhereTold_24 ?_
              refine J.icmp_neN (tgt := 31) dX0_isEachWhereTold_25 (by decide) (by omega) (by omega) (fun c25₉ => ?_) (fun c25₉ => ?_)
              · refine J.ii3 (z := 1) dX0_isEachWhereTold_31 (by decide) (by decide) rfl ?_
                refine J.goto (tgt := 12) dX0_isEachWhereTold_34 (by decide) ?_
                exact ih12 (j + 1) n9 (by omega) (by omega) (by rw [cnt_1, hc9₉]; first | rw [if_pos (by simpa using c25₉)] | (rw [if_neg (by simpa using c25₉)]; rfl))
              · refine J.ii2 (z := 1) dX0_isEachWhereTold_28 (by decide) (by decide) rfl ?_
                refine J.ii3 (z := 1) dX0_isEachWhereTold_31 (by decide) (by decide) rfl ?_
                refine J.goto (tgt := 12) dX0_isEachWhereTold_34 (by decide) ?_
                exact ih12 (j + 1) (n9 + 1) (by omega) (by omega) (by rw [cnt_1, hc9₉]; first | rw [if_pos (by simpa using c25₉)] | (rw [if_neg (by simpa using c25₉)]; rfl))
        exact lp12_2 (33) 0 0 (by omega) (by omega) rfl
  exact lp2_1 (33) 0 (by omega) (by omega)

set_option maxRecDepth 100000 in
set_option maxHeartbeats 4000000 in
theorem c_l_copyFrom {g : GP} {adr : Nat → Nat} (μ : Mem) {m q : Nat} (hm₉ : kt m = 3) (hq₉ : kt q = 3) (hn₉ : m + 1 < q ∨ q + 1 < m) : CT g yX1_copyFrom mX1_copyFrom (RM 0 0 0) (WM g adr μ) [.ref (adr m), .ref (adr q)] (PM g adr (.inl none) (fun μ' => (∀ k, k < 120 → μ' (m + 1) k = μ (q + 1) k) ∧ μ' m 1 = μ q 1 ∧ (∀ o k, o ≠ m + 1 → (o ≠ m ∨ k ≠ 1) → μ' o k = μ o k))) := by
  refine CT.of (l0 := [some (.ref (adr m)), some (.ref (adr q))]) (by decide +kernel) rfl (Nat.le_of_ble_eq_true rfl) rfl ?_
  have hm1₉ := kt_m hm₉
  have hq1₉ := kt_m hq₉
  refine J.al1 dX1_copyFrom_0 ?_
  refine gf_X1_11 rfl (o2 := q + 1) hq₉ rfl dX1_copyFrom_1 ?_
  refine J.iconst dX1_copyFrom_4 kI_0 ?_
  refine J.al0 dX1_copyFrom_5 ?_
  refine gf_X1_11 rfl (o2 := m + 1) hm₉ rfl dX1_copyFrom_6 ?_
  refine J.iconst dX1_copyFrom_9 kI_0 ?_
  refine J.bipush dX1_copyFrom_10 kb_120 ?_
  refine J.copy (N1 := 120) (N2 := 120) t_338 t_333 t_332 t_14 hq1₉ hm1₉ (by omega) (by omega) (by decide) (by decide) (by decide) (by decide) (by decide) (by decide) dX1_copyFrom_12 ?_
  refine J.al0 dX1_copyFrom_15 ?_
  refine J.al1 dX1_copyFrom_16 ?_
  refine gf_X1_15 rfl (x := μ q 1) hq₉ (by rw [cpy_o (by omega)]) dX1_copyFrom_17 ?_
  refine pf_X1_15 rfl hm₉ dX1_copyFrom_20 ?_
  refine J.vret rfl (by decide) (by decide) dX1_copyFrom_23 ⟨_, rfl, ?_, ?_⟩
  · rfl
  · refine ⟨fun k hk₉ => ?_, wr_s, fun o k h1₉ h2₉ => ?_⟩
    · rw [wr_o (by omega), cpy_in (by omega) (by omega), Nat.zero_add, Nat.sub_zero]
    · rw [wr_n h2₉, cpy_o h1₉]
