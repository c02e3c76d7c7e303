/-! ===== printed: the law's loop ===== -/
section LP
variable {tb : List (Nat × Nat × Nat × Nat)} {g : GP} {adr : Nat → Nat} {b L : Nat} {xs : Nat → Int32} {Q : QT}
theorem sub4 {i L : Nat} (hL : L ≤ 2048) (hi : i ≤ 4096) (h : ¬ nI L - nI 4 < nI i) : i + 4 ≤ L := by
  have e := Int32.toInt_sub (nI L) (nI 4)
  rw [nI_toInt (by omega), nI_toInt (by decide), Int.bmod_def] at e
  rw [Int32.lt_iff_toInt_lt, nI_toInt (n := i) (by omega)] at h
  omega
set_option maxRecDepth 100000 in
set_option maxHeartbeats 4000000 in
theorem law_head (hb : b < g.1) (hL : L ≤ 2048) (KE : ∀ (μ : Mem) (k n : Nat) (l : List (Option Value)), k ≤ 601024 → n ≤ 7293034 → J g (mL_law tb) room_1 (QX b L xs Q) k n (WM g adr μ) 2398 l [.int (nI 1)]) :
    ∀ (fu i k n : Nat) (μ : Mem) (α : A7), L < i + fu → i ≤ 2048 → k + (L - i) / 4 ≤ 601024 → n + 6 * ((L - i) / 4) ≤ 7293034 → CR μ α → MR μ α →
      J g (mL_law tb) room_1 (QX b L xs Q) k n (WM g adr μ) 23 [some (.ref b), some (.ref (adr 0)), some (.ref (adr 237)), some (.ref (adr 247)), some (.int (nI i)), none, none, none, none] [] := by
  intro fu
  induction fu with
  | zero =>
    intro i k n μ α h hi2 hk hn hC hM
    refine J.il4 dL_law_23 ?_
    refine J.al0 dL_law_25 ?_
    refine J.slen hb dL_law_26 ?_
    refine J.iconst dL_law_27 kI_4 ?_
    refine J.isub dL_law_28 rfl ?_
    refine J.icmp_gt (tgt := 2397) dL_law_29 (by decide) (fun _ => ?_) (fun q => ?_)
    · refine J.iconst dL_law_2397 kI_1 ?_
      exact KE μ k n _ (by omega) (by omega)
    · have hi := sub4 hL (by omega) q
      omega
  | succ fu ih =>
    intro i k n μ α h hi2 hk hn hC hM
    refine J.il4 dL_law_23 ?_
    refine J.al0 dL_law_25 ?_
    refine J.slen hb dL_law_26 ?_
    refine J.iconst dL_law_27 kI_4 ?_
    refine J.isub dL_law_28 rfl ?_
    refine J.icmp_gt (tgt := 2397) dL_law_29 (by decide) (fun _ => ?_) (fun q => ?_)
    · refine J.iconst dL_law_2397 kI_1 ?_
      exact KE μ k n _ (by omega) (by omega)
    · have hi := sub4 hL (by omega) q
      have hdv : (L - (i + 4)) / 4 + 1 = (L - i) / 4 := by omega
      have KK : LK tb g adr b L xs Q i (k + 1) (n + 6) := fun μ' α' hC' hM' => by
        refine J.ii4 (z := 4) dL_law_2391 (by decide) (Nat.le_of_ble_eq_true rfl) rfl ?_
        refine J.goto (tgt := 23) dL_law_2394 (by decide) ?_
        exact ih (i + 4) (k + 1) (n + 6) μ' α' (by omega) (by omega) (by omega) (by omega) hC' hM'
      refine J.al0 dL_law_32 ?_
      refine J.il4 dL_law_33 ?_
      refine J.sld hb (by omega) (by omega) dL_law_35 ?_
      refine J.bipush (v := 63) dL_law_36 (by decide) ?_
      obtain ⟨z, hz64, hz⟩ := and63 (xs i)
      refine J.iand dL_law_38 hz ?_
      by_cases h38 : 38 < z
      · refine J.tableOut (tgt := 2391) dL_law_39 (Or.inr (by rw [nI_toInt (by omega)]; omega)) (by decide) ?_
        refine J.widen (k' := k + 1) (n' := n + 6) (by omega) (by omega) (KK μ α hC hM)
      · obtain rfl | rfl | rfl | rfl | rfl | rfl | rfl | rfl | rfl | rfl | rfl | rfl | rfl | rfl | rfl | rfl | rfl | rfl | rfl | rfl | rfl | rfl | rfl | rfl | rfl | rfl | rfl | rfl | rfl | rfl | rfl | rfl | rfl | rfl | rfl | rfl | rfl | rfl | rfl : z = 0 ∨ z = 1 ∨ z = 2 ∨ z = 3 ∨ z = 4 ∨ z = 5 ∨ z = 6 ∨ z = 7 ∨ z = 8 ∨ z = 9 ∨ z = 10 ∨ z = 11 ∨ z = 12 ∨ z = 13 ∨ z = 14 ∨ z = 15 ∨ z = 16 ∨ z = 17 ∨ z = 18 ∨ z = 19 ∨ z = 20 ∨ z = 21 ∨ z = 22 ∨ z = 23 ∨ z = 24 ∨ z = 25 ∨ z = 26 ∨ z = 27 ∨ z = 28 ∨ z = 29 ∨ z = 30 ∨ z = 31 ∨ z = 32 ∨ z = 33 ∨ z = 34 ∨ z = 35 ∨ z = 36 ∨ z = 37 ∨ z = 38 := by omega
        · exact J.tableIn (tgt := 208) dL_law_39 (by decide) (by decide) rfl (by decide) (law_0 hb hL hi hC hM (by omega) (by omega) KK)
        · exact J.tableIn (tgt := 276) dL_law_39 (by decide) (by decide) rfl (by decide) (law_1 hb hL hi hC hM (by omega) (by omega) KK)
        · exact J.tableIn (tgt := 344) dL_law_39 (by decide) (by decide) rfl (by decide) (law_2 hb hL hi hC hM (by omega) (by omega) KK)
        · exact J.tableIn (tgt := 388) dL_law_39 (by decide) (by decide) rfl (by decide) (law_3 hb hL hi hC hM (by omega) (by omega) KK)
        · exact J.tableIn (tgt := 456) dL_law_39 (by decide) (by decide) rfl (by decide) (law_4 hb hL hi hC hM (by omega) (by omega) KK)
        · exact J.tableIn (tgt := 524) dL_law_39 (by decide) (by decide) rfl (by decide) (law_5 hb hL hi hC hM (by omega) (by omega) KK)
        · exact J.tableIn (tgt := 580) dL_law_39 (by decide) (by decide) rfl (by decide) (law_6 hb hL hi hC hM (by omega) (by omega) KK)
        · exact J.tableIn (tgt := 636) dL_law_39 (by decide) (by decide) rfl (by decide) (law_7 hb hL hi hC hM (by omega) (by omega) KK)
        · exact J.tableIn (tgt := 704) dL_law_39 (by decide) (by decide) rfl (by decide) (law_8 hb hL hi hC hM (by omega) (by omega) KK)
        · exact J.tableIn (tgt := 760) dL_law_39 (by decide) (by decide) rfl (by decide) (law_9 hb hL hi hC hM (by omega) (by omega) KK)
        · exact J.tableIn (tgt := 823) dL_law_39 (by decide) (by decide) rfl (by decide) (law_10 hb hL hi hC hM (by omega) (by omega) KK)
        · exact J.tableIn (tgt := 836) dL_law_39 (by decide) (by decide) rfl (by decide) (law_11 hb hL hi hC hM (by omega) (by omega) KK)
        · exact J.tableIn (tgt := 904) dL_law_39 (by decide) (by decide) rfl (by decide) (law_12 hb hL hi hC hM (by omega) (by omega) KK)
        · exact J.tableIn (tgt := 960) dL_law_39 (by decide) (by decide) rfl (by decide) (law_13 hb hL hi hC hM (by omega) (by omega) KK)
        · exact J.tableIn (tgt := 1028) dL_law_39 (by decide) (by decide) rfl (by decide) (law_14 hb hL hi hC hM (by omega) (by omega) KK)
        · exact J.tableIn (tgt := 1108) dL_law_39 (by decide) (by decide) rfl (by decide) (law_15 hb hL hi hC hM (by omega) (by omega) KK)
        · exact J.tableIn (tgt := 1176) dL_law_39 (by decide) (by decide) rfl (by decide) (law_16 hb hL hi hC hM (by omega) (by omega) KK)
        · exact J.tableIn (tgt := 1256) dL_law_39 (by decide) (by decide) rfl (by decide) (law_17 hb hL hi hC hM (by omega) (by omega) KK)
        · exact J.tableIn (tgt := 1312) dL_law_39 (by decide) (by decide) rfl (by decide) (law_18 hb hL hi hC hM (by omega) (by omega) KK)
        · exact J.tableIn (tgt := 1380) dL_law_39 (by decide) (by decide) rfl (by decide) (law_19 hb hL hi hC hM (by omega) (by omega) KK)
        · exact J.tableIn (tgt := 1448) dL_law_39 (by decide) (by decide) rfl (by decide) (law_20 hb hL hi hC hM (by omega) (by omega) KK)
        · exact J.tableIn (tgt := 1504) dL_law_39 (by decide) (by decide) rfl (by decide) (law_21 hb hL hi hC hM (by omega) (by omega) KK)
        · exact J.tableIn (tgt := 1595) dL_law_39 (by decide) (by decide) rfl (by decide) (law_22 hb hL hi hC hM (by omega) (by omega) KK)
        · exact J.tableIn (tgt := 1663) dL_law_39 (by decide) (by decide) rfl (by decide) (law_23 hb hL hi hC hM (by omega) (by omega) KK)
        · exact J.tableIn (tgt := 1738) dL_law_39 (by decide) (by decide) rfl (by decide) (law_24 hb hL hi hC hM (by omega) (by omega) KK)
        · exact J.tableIn (tgt := 1794) dL_law_39 (by decide) (by decide) rfl (by decide) (law_25 hb hL hi hC hM (by omega) (by omega) KK)
        · exact J.tableIn (tgt := 1807) dL_law_39 (by decide) (by decide) rfl (by decide) (law_26 hb hL hi hC hM (by omega) (by omega) KK)
        · exact J.tableIn (tgt := 1863) dL_law_39 (by decide) (by decide) rfl (by decide) (law_27 hb hL hi hC hM (by omega) (by omega) KK)
        · exact J.tableIn (tgt := 1919) dL_law_39 (by decide) (by decide) rfl (by decide) (law_28 hb hL hi hC hM (by omega) (by omega) KK)
        · exact J.tableIn (tgt := 1977) dL_law_39 (by decide) (by decide) rfl (by decide) (law_29 hb hL hi hC hM (by omega) (by omega) KK)
        · exact J.tableIn (tgt := 2021) dL_law_39 (by decide) (by decide) rfl (by decide) (law_30 hb hL hi hC hM (by omega) (by omega) KK)
        · exact J.tableIn (tgt := 2065) dL_law_39 (by decide) (by decide) rfl (by decide) (law_31 hb hL hi hC hM (by omega) (by omega) KK)
        · exact J.tableIn (tgt := 2137) dL_law_39 (by decide) (by decide) rfl (by decide) (law_32 hb hL hi hC hM (by omega) (by omega) KK)
        · exact J.tableIn (tgt := 2193) dL_law_39 (by decide) (by decide) rfl (by decide) (law_33 hb hL hi hC hM (by omega) (by omega) KK)
        · exact J.tableIn (tgt := 2206) dL_law_39 (by decide) (by decide) rfl (by decide) (law_34 hb hL hi hC hM (by omega) (by omega) KK)
        · exact J.tableIn (tgt := 2247) dL_law_39 (by decide) (by decide) rfl (by decide) (law_35 hb hL hi hC hM (by omega) (by omega) KK)
        · exact J.tableIn (tgt := 2290) dL_law_39 (by decide) (by decide) rfl (by decide) (law_36 hb hL hi hC hM (by omega) (by omega) KK)
        · exact J.tableIn (tgt := 2334) dL_law_39 (by decide) (by decide) rfl (by decide) (law_37 hb hL hi hC hM (by omega) (by omega) KK)
        · exact J.tableIn (tgt := 2347) dL_law_39 (by decide) (by decide) rfl (by decide) (law_38 hb hL hi hC hM (by omega) (by omega) KK)
end LP
