/-! ===== printed: the state and the past ===== -/
set_option maxRecDepth 100000 in
set_option maxHeartbeats 4000000 in
theorem c_giveBack {g : GP} {adr : Nat → Nat} (μ : Mem) {n : Nat} {past : Nat → AS} (hP₉ : PR μ n past) (hn₉ : 0 < n) : CT g yX2_giveBack mX2_giveBack (RM 3 0 0) (WM g adr μ) [.ref (adr 20), .ref (adr 1)] (PM g adr (.inl none) (fun μ' => CS μ' 1 (past (n - 1)) ∧ PR μ' (n - 1) past ∧ ∀ o, (o < 1 ∨ (20 ≤ o ∧ o ≠ 20)) → μ' o = μ o)) := by
  refine CT.of (l0 := [some (.ref (adr 20)), some (.ref (adr 1)), none]) (by decide +kernel) rfl (Nat.le_of_ble_eq_true rfl) rfl ?_
  have hP0₉ := hP₉
  obtain ⟨h1₉, h2₉, r, h3₉, h4₉, h5₉⟩ := hP₉
  have hr9₉ := (h3₉ (n - 1) (by omega)).2
  refine J.al0 dX2_giveBack_0 ?_
  refine gf_X2_17 rfl (x := nI n) (by decide) h1₉ dX2_giveBack_1 ?_
  refine J.iconst dX2_giveBack_4 kI_1 ?_
  refine J.isubN dX2_giveBack_5 (by omega) ?_
  refine J.is2 dX2_giveBack_6 (by decide) rfl ?_
  refine J.il2 dX2_giveBack_7 ?_
  refine J.bipush dX2_giveBack_8 kb_8 ?_
  refine cl_X2_22 rfl (k' := 0) (n' := 0) (isIndexT (by omega) (by omega)) ⟨⟨by decide, by decide⟩, ⟨rfl, rfl⟩, by decide, by decide⟩ rfl dX2_giveBack_10 (fun μ9 h9₉ => ?_)
  rw [h9₉]; clear h9₉
  refine J.if_eqN (tgt := 31) dX2_giveBack_13 (by decide) (by omega) (fun c13₉ => absurd c13₉ (by first | omega | (simp only [not_true_eq_false, not_false_eq_true]; done) | (simp; done))) (fun c13₉ => ?_)
  refine J.al1 dX2_giveBack_16 ?_
  refine J.al0 dX2_giveBack_17 ?_
  refine gf_X2_11 rfl (o2 := 21) (by decide) rfl dX2_giveBack_18 ?_
  refine J.il2 dX2_giveBack_21 ?_
  refine J.aaldS (q := r (n - 1)) dX2_giveBack_22 (by omega) (by decide) (h3₉ _ (by omega)).1 hr9₉ ?_
  refine cl_X2_26 rfl (by decide) (k' := 0) (n' := 0) (c_st_copyFrom _ (by decide) (kt_S hr9₉) (by omega) (h5₉ (n - 1) (by omega)).z) ⟨⟨by decide, by decide⟩, ⟨rfl, rfl⟩, by decide, by decide⟩ rfl dX2_giveBack_23 (fun μ2 ⟨hE2₉, hO2₉⟩ => ?_)
  refine J.al0 dX2_giveBack_26 ?_
  refine J.il2 dX2_giveBack_27 ?_
  refine pf_X2_17 rfl (by decide) dX2_giveBack_28 ?_
  refine J.vret rfl (by decide) (by decide) dX2_giveBack_31 ⟨_, rfl, ?_, ?_⟩
  · rfl
  · exact gb_end h1₉ h2₉ h3₉ h4₉ h5₉ hn₉ hE2₉ hO2₉
