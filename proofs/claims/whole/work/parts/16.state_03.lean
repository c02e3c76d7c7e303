/-! ===== printed: the state and the past ===== -/
set_option maxRecDepth 100000 in
set_option maxHeartbeats 4000000 in
theorem c_giveBack {g : GP} {adr : Nat → Nat} (μ : Mem) {n : Nat} {past : Nat → AS} (hP₉ : PR μ n past) (hn₉ : 0 < n) : CT g yX2_giveBack mX2_giveBack (RM 3 0 0) (WM g adr μ) [.ref (adr 20), .ref (adr 1)] (PM g adr (.inl none) (fun μ' => CS μ' 1 (past (n - 1)) ∧ PR μ' (n - 1) past ∧ ∀ o, (o < 1 ∨ (20 ≤ o ∧ o ≠ 20)) → μ' o = μ o)) := by
  refine CT.of (l0 := [some (.ref (adr 20)), some (.ref (adr 1))]) (by decide +kernel) rfl (Nat.le_of_ble_eq_true rfl) rfl ?_
  have hP0₉ := hP₉
  obtain ⟨h1₉, h2₉, r, h3₉, h4₉, h5₉⟩ := hP₉
  have hr9₉ := (h3₉ (n - 1) (by omega)).2
  refine J.al0 dX2_giveBack_0 ?_
  refine gf_X2_17 rfl (x := nI n) (by decide) h1₉ dX2_giveBack_1 ?_
  refine J.if_leN (tgt := 30) dX2_giveBack_4 (by decide) (by omega) (fun c4₉ => absurd c4₉ (by first | omega | (simp only [not_true_eq_false, not_false_eq_true]; done) | (simp; done))) (fun c4₉ => ?_)
  refine J.al0 dX2_giveBack_7 ?_
  refine J.dup dX2_giveBack_8 rfl ?_
  refine gf_X2_17 rfl (x := nI n) (by decide) h1₉ dX2_giveBack_9 ?_
  refine J.iconst dX2_giveBack_12 kI_1 ?_
  refine J.isubN dX2_giveBack_13 (by omega) ?_
  refine pf_X2_17 rfl (by decide) dX2_giveBack_14 ?_
  refine J.al1 dX2_giveBack_17 ?_
  refine J.al0 dX2_giveBack_18 ?_
  refine gf_X2_11 rfl (o2 := 21) (by decide) rfl dX2_giveBack_19 ?_
  refine J.al0 dX2_giveBack_22 ?_
  refine gf_X2_17 rfl (x := nI (n - 1)) (by decide) wr_s dX2_giveBack_23 ?_
  refine J.aaldS (q := r (n - 1)) dX2_giveBack_26 (by omega) (by decide) (by rw [wr_o (by decide)]; exact (h3₉ _ (by omega)).1) hr9₉ ?_
  refine cl_X2_22 rfl (by decide) (k' := 0) (n' := 0) (c_st_copyFrom _ (by decide) (kt_S hr9₉) (by omega) ((h5₉ (n - 1) (by omega)).off (μ' := wr μ 20 1 (nI (n - 1))) (fun o q1₉ q2₉ => wr_o (by omega))).z) ⟨⟨by decide, by decide⟩, ⟨rfl, rfl⟩, by decide, by decide⟩ rfl dX2_giveBack_27 (fun μ2 ⟨hE2₉, hO2₉⟩ => ?_)
  refine J.vret rfl (by decide) (by decide) dX2_giveBack_30 ⟨_, rfl, ?_, ?_⟩
  · rfl
  · exact gb_end h1₉ h2₉ h3₉ h4₉ h5₉ hn₉ hE2₉ hO2₉
