/-! ===== printed: the barrel, the log, the signs ===== -/
set_option maxRecDepth 100000 in
set_option maxHeartbeats 4000000 in
theorem c_addNumber {g : GP} {adr : Nat → Nat} (μ : Mem) {q x a : Nat} {t : Nat → Nat} (hq₉ : kt q = 9) (hx₉ : SgT μ q x t) (hx2₉ : x + 2 ≤ 120) (ha₉ : a < 100) : CT g yX5_addNumber mX5_addNumber (RM 2 0 0) (WM g adr μ) [.ref (adr q), .int (nI a)] (PM g adr (.inl none) (fun μ' => SgT μ' q (x + numW a) (numF t x a) ∧ ∀ o, o ≠ q → o ≠ q + 1 → μ' o = μ o)) := by
  refine CT.of (l0 := [some (.ref (adr q)), some (.int (nI a))]) (by decide +kernel) rfl (Nat.le_of_ble_eq_true rfl) rfl ?_
  have hq1₉ := kt_sg hq₉
  refine J.il1 dX5_addNumber_0 ?_
  refine J.bipush dX5_addNumber_1 kb_10 ?_
  refine J.icmp_ltN (tgt := 18) dX5_addNumber_3 (by decide) (by omega) (by omega) (fun c3₉ => ?_) (fun c3₉ => ?_)
  · refine J.al0 dX5_addNumber_18 ?_
    refine J.bipush dX5_addNumber_19 kb_48 ?_
    refine J.il1 dX5_addNumber_21 ?_
    refine J.bipush dX5_addNumber_22 kb_10 ?_
    refine J.irem dX5_addNumber_24 (by omega) (by omega) (by omega) ?_
    refine J.iaddN dX5_addNumber_25 ?_
    refine J.i2c dX5_addNumber_26 (i2cN (by omega)) ?_
    refine cl_X5_25 rfl hq₉ (k' := 0) (n' := 0) (c_addSign _ hq₉ hx₉.1 (by omega) (by omega)) ⟨⟨by decide, by decide⟩, ⟨rfl, rfl⟩, by decide, by decide⟩ rfl dX5_addNumber_27 (fun μ3 h3₉ => ?_)
    refine J.vret rfl (by decide) (by decide) dX5_addNumber_30 ⟨_, rfl, ?_, ?_⟩
    · rfl
    · first
      | exact ⟨numT_2 (by omega) (by rw [h3₉]; exact hx1₉.add (by omega)), fun o h8₉ h9₉ => by rw [h3₉, wr_o h8₉, wr_o h9₉, h2₉, wr_o h8₉, wr_o h9₉]⟩
      | exact ⟨numT_1 (by omega) (by rw [h3₉]; exact hx₉.add (by omega)), fun o h8₉ h9₉ => by rw [h3₉, wr_o h8₉, wr_o h9₉]⟩
  · refine J.al0 dX5_addNumber_6 ?_
    refine J.bipush dX5_addNumber_7 kb_48 ?_
    refine J.il1 dX5_addNumber_9 ?_
    refine J.bipush dX5_addNumber_10 kb_10 ?_
    refine J.idiv dX5_addNumber_12 (by omega) (by omega) (by omega) ?_
    refine J.iaddN dX5_addNumber_13 ?_
    refine J.i2c dX5_addNumber_14 (i2cN (by omega)) ?_
    refine cl_X5_25 rfl hq₉ (k' := 0) (n' := 0) (c_addSign _ hq₉ hx₉.1 (by omega) (by omega)) ⟨⟨by decide, by decide⟩, ⟨rfl, rfl⟩, by decide, by decide⟩ rfl dX5_addNumber_15 (fun μ2 h2₉ => ?_)
    have hx1₉ := hx₉.add (a := 48 + a / 10) (by omega)
    rw [← h2₉] at hx1₉
    refine J.al0 dX5_addNumber_18 ?_
    refine J.bipush dX5_addNumber_19 kb_48 ?_
    refine J.il1 dX5_addNumber_21 ?_
    refine J.bipush dX5_addNumber_22 kb_10 ?_
    refine J.irem dX5_addNumber_24 (by omega) (by omega) (by omega) ?_
    refine J.iaddN dX5_addNumber_25 ?_
    refine J.i2c dX5_addNumber_26 (i2cN (by omega)) ?_
    refine cl_X5_25 rfl hq₉ (k' := 0) (n' := 0) (c_addSign _ hq₉ hx1₉.1 (by omega) (by omega)) ⟨⟨by decide, by decide⟩, ⟨rfl, rfl⟩, by decide, by decide⟩ rfl dX5_addNumber_27 (fun μ3 h3₉ => ?_)
    refine J.vret rfl (by decide) (by decide) dX5_addNumber_30 ⟨_, rfl, ?_, ?_⟩
    · rfl
    · first
      | exact ⟨numT_2 (by omega) (by rw [h3₉]; exact hx1₉.add (by omega)), fun o h8₉ h9₉ => by rw [h3₉, wr_o h8₉, wr_o h9₉, h2₉, wr_o h8₉, wr_o h9₉]⟩
      | exact ⟨numT_1 (by omega) (by rw [h3₉]; exact hx₉.add (by omega)), fun o h8₉ h9₉ => by rw [h3₉, wr_o h8₉, wr_o h9₉]⟩
