/-! ===== printed: the barrel, the log, the signs ===== -/
set_option maxRecDepth 100000 in
set_option maxHeartbeats 4000000 in
theorem c_giveColour {g : GP} {adr : Nat → Nat} (μ : Mem) {b i x : Nat} (hb₉ : kt b = 2) (hi₉ : i < 32) : CT g yX0_giveColour mX0_giveColour (RM 1 0 0) (WM g adr μ) [.ref (adr b), .int (nI i), .int (nI x)] (PM g adr (.inl none) (fun μ' => μ' = wr μ (b + 3) i (nI x))) := by
  refine CT.of (l0 := [some (.ref (adr b)), some (.int (nI i)), some (.int (nI x))]) (by decide +kernel) rfl (Nat.le_of_ble_eq_true rfl) rfl ?_
  have hk₉ := kt_b hb₉
  refine J.il1 dX0_giveColour_0 ?_
  refine J.bipush dX0_giveColour_1 kb_32 ?_
  refine cl_X0_27 rfl (k' := 0) (n' := 0) (isIndexT (by omega) (by omega)) ⟨⟨by decide, by decide⟩, ⟨rfl, rfl⟩, by decide, by decide⟩ rfl dX0_giveColour_3 (fun μ9 h9₉ => ?_)
  rw [h9₉]; clear h9₉
  refine J.if_eqN (tgt := 16) dX0_giveColour_6 (by decide) (by omega) (fun c6₉ => absurd c6₉ (by first | omega | (simp only [not_true_eq_false, not_false_eq_true]; done) | (simp; done))) (fun c6₉ => ?_)
  refine J.al0 dX0_giveColour_9 ?_
  refine gf_X0_18 rfl (o2 := b + 3) hb₉ rfl dX0_giveColour_10 ?_
  refine J.il1 dX0_giveColour_13 ?_
  refine J.il2 dX0_giveColour_14 ?_
  refine J.iast (N := 32) hk₉.2.2 (by decide) (by decide) (by omega) dX0_giveColour_15 ?_
  refine J.vret rfl (by decide) (by decide) dX0_giveColour_16 ⟨_, rfl, ?_, ?_⟩
  · rfl
  · rfl

set_option maxRecDepth 100000 in
set_option maxHeartbeats 4000000 in
theorem c_follow {g : GP} {adr : Nat → Nat} (μ : Mem) {b p : Nat} {f F : Nat → Nat} (hb₉ : kt b = 2) (hp₉ : kt p = 1) (hf₉ : PermR μ (b + 1) f) (hg₉ : PermR μ (b + 2) (pinv f)) (hF₉ : PermR μ (p + 1) F) (hB₉ : Bij f) (hBF₉ : Bij F) (hn₉ : p + 1 < b + 1 ∨ b + 2 < p + 1) : CT g yX0_follow mX0_follow (RM 2 0 0) (WM g adr μ) [.ref (adr b), .ref (adr p)] (PM g adr (.inl none) (fun μ' => PermR μ' (b + 1) (fun s => f (pinv F s)) ∧ PermR μ' (b + 2) (fun k => F (pinv f k)) ∧ ∀ o, o ≠ b + 1 → o ≠ b + 2 → μ' o = μ o)) := by
  refine CT.of (l0 := [some (.ref (adr b)), some (.ref (adr p)), none, none]) (by decide +kernel) rfl (Nat.le_of_ble_eq_true rfl) rfl ?_
  have hk₉ := kt_b hb₉
  have hp1₉ := kt_p hp₉
  have hBG₉ : Bij (fun k => F (pinv f k)) := hB₉.pinv.comp hBF₉
  refine J.iconst dX0_follow_0 kI_0 ?_
  refine J.is2 dX0_follow_1 (by decide) rfl ?_
  have lp2_1 : ∀ (fu : Nat) (i : Nat) (μ1 : Mem), 32 < i + fu → i ≤ 32 → (∀ k, k < i → μ1 (b + 2) k = nI (F (pinv f k))) → (∀ k, i ≤ k → k < 32 → μ1 (b + 2) k = nI (pinv f k)) → (∀ k, k < i → μ1 (b + 1) (F (pinv f k)) = nI k) → (∀ o, o ≠ b + 1 → o ≠ b + 2 → μ1 o = μ o) → J g mX0_follow (RM 2 0 0) (MQx g (RM 2 0 0) (PM g adr (.inl none) (fun μ' => PermR μ' (b + 1) (fun s => f (pinv F s)) ∧ PermR μ' (b + 2) (fun k => F (pinv f k)) ∧ ∀ o, o ≠ b + 1 → o ≠ b + 2 → μ' o = μ o))) 0 0 (WM g adr μ1) 2 [some (.ref (adr b)), some (.ref (adr p)), some (.int (nI i)), none] [] := by
    intro fu
    induction fu with
    | zero => intro i μ1 h9₉ hi₉ hI₉ hU₉ hS₉ hO₉; exact absurd h9₉ (by omega)
    | succ fu ih2 =>
      intro i μ1 h9₉ hi₉ hI₉ hU₉ hS₉ hO₉
      have hF1₉ : PermR μ1 (p + 1) F := hF₉.eq (hO₉ _ (by omega) (by omega))
      refine J.il2 dX0_follow_2 ?_
      refine J.bipush dX0_follow_3 kb_32 ?_
      refine J.icmp_geN (tgt := 48) dX0_follow_5 (by decide) (by omega) (by omega) (fun c5₉ => ?_) (fun c5₉ => ?_)
      · refine J.vret rfl (by decide) (by decide) dX0_follow_48 ⟨_, rfl, ?_, ?_⟩
        · rfl
        · refine ⟨fun s hs₉ => ?_, fun k hk9₉ => ⟨hI₉ k (by omega), hBG₉.1 k hk9₉⟩, hO₉⟩
          have h1₉ := hBF₉.inv1 hs₉
          have h2₉ := (hf₉ _ h1₉.1).2
          refine ⟨?_, h2₉⟩
          have h3₉ := hS₉ (f (pinv F s)) (by omega)
          rw [hB₉.inv2 h1₉.1, h1₉.2] at h3₉
          exact h3₉
      · refine J.al1 dX0_follow_8 ?_
        refine J.al0 dX0_follow_9 ?_
        refine gf_X0_15 rfl (o2 := b + 2) hb₉ rfl dX0_follow_10 ?_
        refine J.il2 dX0_follow_13 ?_
        have hb2₉ := (hg₉ i (by omega)).2
        refine J.iald (N := 32) (x := nI (pinv f i)) hk₉.2.1 (by decide) (by decide) (by omega) ((hU₉ i (by omega) (by omega))) dX0_follow_14 ?_
        refine cl_X0_38 rfl hp₉ (k' := 0) (n' := 0) (c_of _ hp₉ hF1₉ (by omega)) ⟨⟨by decide, by decide⟩, ⟨rfl, rfl⟩, by decide, by decide⟩ rfl dX0_follow_15 (fun μ9 h9₉ => ?_)
        rw [h9₉]; clear h9₉
        have hbF₉ := (hF₉ (pinv f i) (by omega)).2
        refine J.is3 dX0_follow_18 (by decide) rfl ?_
        refine J.al0 dX0_follow_19 ?_
        refine gf_X0_15 rfl (o2 := b + 2) hb₉ rfl dX0_follow_20 ?_
        refine J.il2 dX0_follow_23 ?_
        refine J.il3 dX0_follow_24 ?_
        refine J.iast (N := 32) hk₉.2.1 (by decide) (by decide) (by omega) dX0_follow_25 ?_
        refine J.il3 dX0_follow_26 ?_
        refine J.bipush dX0_follow_27 kb_32 ?_
        refine cl_X0_27 rfl (k' := 0) (n' := 0) (isIndexT (by omega) (by omega)) ⟨⟨by decide, by decide⟩, ⟨rfl, rfl⟩, by decide, by decide⟩ rfl dX0_follow_29 (fun μ9 h9₉ => ?_)
        rw [h9₉]; clear h9₉
        refine J.if_eqN (tgt := 42) dX0_follow_32 (by decide) (by omega) (fun c32₉ => absurd c32₉ (by first | omega | (simp only [not_true_eq_false, not_false_eq_true]; done) | (simp; done))) (fun c32₉ => ?_)
        refine J.al0 dX0_follow_35 ?_
        refine gf_X0_9 rfl (o2 := b + 1) hb₉ rfl dX0_follow_36 ?_
        refine J.il3 dX0_follow_39 ?_
        refine J.il2 dX0_follow_40 ?_
        refine J.iast (N := 32) hk₉.1 (by decide) (by decide) (by omega) dX0_follow_41 ?_
        refine J.ii2 (z := 1) dX0_follow_42 (by decide) (by decide) rfl ?_
        refine J.goto (tgt := 2) dX0_follow_45 (by decide) ?_
        exact J.subR (ih2 (i + 1) _ (by omega) (by omega) (fun k hk₉ => by rw [wr_o (by omega)]; exact row_step hI₉ rfl k hk₉) (fun k h1₉ h2₉ => by rw [wr_o (by omega)]; exact row_keep hU₉ k h1₉ h2₉) (inv_step hBG₉ (by omega) (fun k hk₉ => by rw [wr_o (by omega)]; exact hS₉ k hk₉)) (fun o h1₉ h2₉ => by rw [wr_o h1₉, wr_o h2₉]; exact hO₉ o h1₉ h2₉)) ⟨rfl, ⟨rfl, ⟨rfl, trivial⟩⟩⟩
  exact lp2_1 (33) 0 _ (by omega) (by omega) (fun k hk₉ => absurd hk₉ (by omega)) (fun k _ hk₉ => (hg₉ k hk₉).1) (fun k hk₉ => absurd hk₉ (by omega)) (fun o _ _ => rfl)

set_option maxRecDepth 100000 in
set_option maxHeartbeats 4000000 in
theorem c_countHome {g : GP} {adr : Nat → Nat} (μ : Mem) {b : Nat} {f : Nat → Nat} (hb₉ : kt b = 2) (hf₉ : PermR μ (b + 1) f) : CT g yX0_countHome mX0_countHome (RM 0 0 0) (WM g adr μ) [.ref (adr b)] (PM g adr ((.inl (some (.int (nI (cnt (fun s => decide (f s = s)) 32)))))) (fun μ' => μ' = μ)) := by
  refine CT.of (l0 := [some (.ref (adr b)), none, none]) (by decide +kernel) rfl (Nat.le_of_ble_eq_true rfl) rfl ?_
  have hk₉ := kt_b hb₉
  refine J.iconst dX0_countHome_0 kI_0 ?_
  refine J.is1 dX0_countHome_1 (by decide) rfl ?_
  refine J.iconst dX0_countHome_2 kI_0 ?_
  refine J.is2 dX0_countHome_3 (by decide) rfl ?_
  have lp4_1 : ∀ (fu : Nat) (i n9 : Nat), 32 < i + fu → i ≤ 32 → n9 = cnt (fun s => decide (f s = s)) i → J g mX0_countHome (RM 0 0 0) (MQx g (RM 0 0 0) (PM g adr ((.inl (some (.int (nI (cnt (fun s => decide (f s = s)) 32)))))) (fun μ' => μ' = μ))) 0 0 (WM g adr μ) 4 [some (.ref (adr b)), some (.int (nI n9)), some (.int (nI i))] [] := by
    intro fu
    induction fu with
    | zero => intro i n9 h9₉ hi₉ hc9₉; exact absurd h9₉ (by omega)
    | succ fu ih4 =>
      intro i n9 h9₉ hi₉ hc9₉
      refine J.il2 dX0_countHome_4 ?_
      refine J.bipush dX0_countHome_5 kb_32 ?_
      refine J.icmp_geN (tgt := 29) dX0_countHome_7 (by decide) (by omega) (by omega) (fun c7₉ => ?_) (fun c7₉ => ?_)
      · refine J.il1 dX0_countHome_29 ?_
        refine J.iret rfl (by decide) (by decide) dX0_countHome_30 ⟨_, rfl, ?_, ?_⟩
        · rw [show i = 32 by omega] at hc9₉; rw [hc9₉]
        · rfl
      · refine J.al0 dX0_countHome_10 ?_
        refine gf_X0_9 rfl (o2 := b + 1) hb₉ rfl dX0_countHome_11 ?_
        refine J.il2 dX0_countHome_14 ?_
        have hb2₉ := (hf₉ i (by omega)).2
        refine J.iald (N := 32) (x := nI (f i)) hk₉.1 (by decide) (by decide) (by omega) ((hf₉ i (by omega)).1) dX0_countHome_15 ?_
        refine J.il2 dX0_countHome_16 ?_
        refine J.icmp_neN (tgt := 23) dX0_countHome_17 (by decide) (by omega) (by omega) (fun c17₉ => ?_) (fun c17₉ => ?_)
        · refine J.ii2 (z := 1) dX0_countHome_23 (by decide) (by decide) rfl ?_
          refine J.goto (tgt := 4) dX0_countHome_26 (by decide) ?_
          exact ih4 (i + 1) n9 (by omega) (by omega) (by rw [cnt_1, hc9₉]; first | rw [if_pos (by simpa using c17₉)] | (rw [if_neg (by simpa using c17₉)]; rfl))
        · refine J.ii1 (z := 1) dX0_countHome_20 (by decide) (by decide) rfl ?_
          refine J.ii2 (z := 1) dX0_countHome_23 (by decide) (by decide) rfl ?_
          refine J.goto (tgt := 4) dX0_countHome_26 (by decide) ?_
          exact ih4 (i + 1) (n9 + 1) (by omega) (by omega) (by rw [cnt_1, hc9₉]; first | rw [if_pos (by simpa using c17₉)] | (rw [if_neg (by simpa using c17₉)]; rfl))
  exact lp4_1 (33) 0 0 (by omega) (by omega) rfl

set_option maxRecDepth 100000 in
set_option maxHeartbeats 4000000 in
theorem c_hasOneColour {g : GP} {adr : Nat → Nat} (μ : Mem) {b r : Nat} {f c : Nat → Nat} (hb₉ : kt b = 2) (hf₉ : PermR μ (b + 1) f) (hc₉ : ColR μ (b + 3) c) (hr₉ : r < 4) : CT g yX0_hasOneColour mX0_hasOneColour (RM 3 0 0) (WM g adr μ) [.ref (adr b), .int (nI r)] (PM g adr ((.inl (some (.int (if oneB (fun s => c (f s)) r = true then nI 1 else nI 0))))) (fun μ' => μ' = μ)) := by
  refine CT.of (l0 := [some (.ref (adr b)), some (.int (nI r)), none, none]) (by decide +kernel) rfl (Nat.le_of_ble_eq_true rfl) rfl ?_
  have hk₉ := kt_b hb₉
  refine J.al0 dX0_hasOneColour_0 ?_
  refine J.il1 dX0_hasOneColour_1 ?_
  refine J.bipush dX0_hasOneColour_2 kb_8 ?_
  refine J.imulN dX0_hasOneColour_4 ?_
  refine cl_X0_43 rfl hb₉ (k' := 0) (n' := 0) (c_colourIn _ hb₉ hf₉ hc₉ (by omega)) ⟨⟨by decide, by decide⟩, ⟨rfl, rfl⟩, by decide, by decide⟩ rfl dX0_hasOneColour_5 (fun μ9 h9₉ => ?_)
  rw [h9₉]; clear h9₉
  have hb5₉ := (hc₉ _ (hf₉ (r * 8) (by omega)).2).2
  refine J.is2 dX0_hasOneColour_8 (by decide) rfl ?_
  refine J.iconst dX0_hasOneColour_9 kI_1 ?_
  refine J.is3 dX0_hasOneColour_10 (by decide) rfl ?_
  have lp11_1 : ∀ (fu : Nat) (i : Nat), 8 < i + fu → i ≤ 8 → (∀ k, k < i → c (f (r * 8 + k)) = c (f (r * 8))) → J g mX0_hasOneColour (RM 3 0 0) (MQx g (RM 3 0 0) (PM g adr ((.inl (some (.int (if oneB (fun s => c (f s)) r = true then nI 1 else nI 0))))) (fun μ' => μ' = μ))) 0 0 (WM g adr μ) 11 [some (.ref (adr b)), some (.int (nI r)), some (.int (nI (c (f (r * 8))))), some (.int (nI i))] [] := by
    intro fu
    induction fu with
    | zero => intro i h9₉ hi₉ hI₉; exact absurd h9₉ (by omega)
    | succ fu ih11 =>
      intro i h9₉ hi₉ hI₉
      refine J.il3 dX0_hasOneColour_11 ?_
      refine J.bipush dX0_hasOneColour_12 kb_8 ?_
      refine J.icmp_geN (tgt := 39) dX0_hasOneColour_14 (by decide) (by omega) (by omega) (fun c14₉ => ?_) (fun c14₉ => ?_)
      · refine J.iconst dX0_hasOneColour_39 kI_1 ?_
        refine J.zret (ty := .boolean) rfl (by decide) (by decide) (by decide) dX0_hasOneColour_40 ⟨_, rfl, ?_, ?_⟩
        · rw [show oneB (fun s => c (f s)) r = true from allU_iff.mpr (fun k hk₉ => by simpa using hI₉ k (by omega)), if_pos rfl]
        · rfl
      · refine J.al0 dX0_hasOneColour_17 ?_
        refine J.il1 dX0_hasOneColour_18 ?_
        refine J.bipush dX0_hasOneColour_19 kb_8 ?_
        refine J.imulN dX0_hasOneColour_21 ?_
        refine J.il3 dX0_hasOneColour_22 ?_
        refine J.iaddN dX0_hasOneColour_23 ?_
        refine cl_X0_43 rfl hb₉ (k' := 0) (n' := 0) (c_colourIn _ hb₉ hf₉ hc₉ (by omega)) ⟨⟨by decide, by decide⟩, ⟨rfl, rfl⟩, by decide, by decide⟩ rfl dX0_hasOneColour_24 (fun μ9 h9₉ => ?_)
        rw [h9₉]; clear h9₉
        have hb24₉ := (hc₉ _ (hf₉ ((r * 8) + i) (by omega)).2).2
        refine J.il2 dX0_hasOneColour_27 ?_
        refine J.icmp_eqN (tgt := 33) dX0_hasOneColour_28 (by decide) (by omega) (by omega) (fun c28₉ => ?_) (fun c28₉ => ?_)
        · refine J.ii3 (z := 1) dX0_hasOneColour_33 (by decide) (by decide) rfl ?_
          refine J.goto (tgt := 11) dX0_hasOneColour_36 (by decide) ?_
          exact ih11 (i + 1) (by omega) (by omega) (lt_s hI₉ c28₉)
        · refine J.iconst dX0_hasOneColour_31 kI_0 ?_
          refine J.zret (ty := .boolean) rfl (by decide) (by decide) (by decide) dX0_hasOneColour_32 ⟨_, rfl, ?_, ?_⟩
          · rw [if_neg (by rw [oneB, allU_no (k := i) (by omega) (by simpa using c28₉)]; decide)]
          · rfl
  exact lp11_1 (9) 1 (by omega) (by omega) (fun k hk₉ => by rw [show k = 0 by omega]; rfl)

set_option maxRecDepth 100000 in
set_option maxHeartbeats 4000000 in
theorem c_countDone {g : GP} {adr : Nat → Nat} (μ : Mem) {b : Nat} {f c : Nat → Nat} (hb₉ : kt b = 2) (hf₉ : PermR μ (b + 1) f) (hc₉ : ColR μ (b + 3) c) : CT g yX0_countDone mX0_countDone (RM 4 0 0) (WM g adr μ) [.ref (adr b)] (PM g adr ((.inl (some (.int (nI (cnt (oneB (fun s => c (f s))) 4)))))) (fun μ' => μ' = μ)) := by
  refine CT.of (l0 := [some (.ref (adr b)), none, none]) (by decide +kernel) rfl (Nat.le_of_ble_eq_true rfl) rfl ?_
  have hk₉ := kt_b hb₉
  refine J.iconst dX0_countDone_0 kI_0 ?_
  refine J.is1 dX0_countDone_1 (by decide) rfl ?_
  refine J.iconst dX0_countDone_2 kI_0 ?_
  refine J.is2 dX0_countDone_3 (by decide) rfl ?_
  have lp4_1 : ∀ (fu : Nat) (i n9 : Nat), 4 < i + fu → i ≤ 4 → n9 = cnt (oneB (fun s => c (f s))) i → J g mX0_countDone (RM 4 0 0) (MQx g (RM 4 0 0) (PM g adr ((.inl (some (.int (nI (cnt (oneB (fun s => c (f s))) 4)))))) (fun μ' => μ' = μ))) 0 0 (WM g adr μ) 4 [some (.ref (adr b)), some (.int (nI n9)), some (.int (nI i))] [] := by
    intro fu
    induction fu with
    | zero => intro i n9 h9₉ hi₉ hc9₉; exact absurd h9₉ (by omega)
    | succ fu ih4 =>
      intro i n9 h9₉ hi₉ hc9₉
      refine J.il2 dX0_countDone_4 ?_
      refine J.iconst dX0_countDone_5 kI_4 ?_
      refine J.icmp_geN (tgt := 26) dX0_countDone_6 (by decide) (by omega) (by omega) (fun c6₉ => ?_) (fun c6₉ => ?_)
      · refine J.il1 dX0_countDone_26 ?_
        refine J.iret rfl (by decide) (by decide) dX0_countDone_27 ⟨_, rfl, ?_, ?_⟩
        · rw [show i = 4 by omega] at hc9₉; rw [hc9₉]
        · rfl
      · refine J.al0 dX0_countDone_9 ?_
        refine J.il2 dX0_countDone_10 ?_
        refine cl_X0_46 rfl hb₉ (k' := 0) (n' := 0) (c_hasOneColour _ hb₉ hf₉ hc₉ (by omega)) ⟨⟨by decide, by decide⟩, ⟨rfl, rfl⟩, by decide, by decide⟩ rfl dX0_countDone_11 (fun μ9 h9₉ => ?_)
        rw [h9₉]; clear h9₉
        refine J.if_eqB (tgt := 20) dX0_countDone_14 (by decide) (fun c14₉ => ?_) (fun c14₉ => ?_)
        · refine J.ii2 (z := 1) dX0_countDone_20 (by decide) (by decide) rfl ?_
          refine J.goto (tgt := 4) dX0_countDone_23 (by decide) ?_
          exact ih4 (i + 1) n9 (by omega) (by omega) (by rw [cnt_1, hc9₉]; first | rw [if_pos (by first | exact c14₉ | simpa using c14₉)] | (rw [if_neg (by first | exact c14₉ | simpa using c14₉)]; rfl))
        · refine J.ii1 (z := 1) dX0_countDone_17 (by decide) (by decide) rfl ?_
          refine J.ii2 (z := 1) dX0_countDone_20 (by decide) (by decide) rfl ?_
          refine J.goto (tgt := 4) dX0_countDone_23 (by decide) ?_
          exact ih4 (i + 1) (n9 + 1) (by omega) (by omega) (by rw [cnt_1, hc9₉]; first | rw [if_pos (by first | exact c14₉ | simpa using c14₉)] | (rw [if_neg (by first | exact c14₉ | simpa using c14₉)]; rfl))
  exact lp4_1 (5) 0 0 (by omega) (by omega) rfl
