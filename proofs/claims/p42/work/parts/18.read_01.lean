/-! ===== printed: the reader of sequences ===== -/
set_option maxRecDepth 100000 in
set_option maxHeartbeats 4000000 in
theorem c_roundOf0 {g : GP} {adr : Nat → Nat} (μ : Mem)  : CT g yX7_roundOf mX7_roundOf (RM 0 0 0) (WM g adr μ) [.int (nI 0)] (PM g adr ((.inl (some (.int (nI 8))))) (fun μ' => μ' = μ)) := by
  refine CT.of (l0 := [some (.int (nI 0))]) (by decide +kernel) rfl (Nat.le_of_ble_eq_true rfl) rfl ?_
  refine J.il0 dX7_roundOf_0 ?_
  refine J.if_neN (tgt := 9) dX7_roundOf_1 (by decide) (by omega) (fun c1₉ => absurd c1₉ (by first | omega | (simp only [not_true_eq_false, not_false_eq_true]; done) | (simp; done))) (fun c1₉ => ?_)
  refine J.bipush dX7_roundOf_4 kb_8 ?_
  refine J.goto (tgt := 10) dX7_roundOf_6 (by decide) ?_
  refine J.iret rfl (by decide) (by decide) dX7_roundOf_10 ⟨_, rfl, ?_, ?_⟩
  · rfl
  · rfl

set_option maxRecDepth 100000 in
set_option maxHeartbeats 4000000 in
theorem c_roundOf1 {g : GP} {adr : Nat → Nat} (μ : Mem)  : CT g yX7_roundOf mX7_roundOf (RM 0 0 0) (WM g adr μ) [.int (nI 1)] (PM g adr ((.inl (some (.int (nI 4))))) (fun μ' => μ' = μ)) := by
  refine CT.of (l0 := [some (.int (nI 1))]) (by decide +kernel) rfl (Nat.le_of_ble_eq_true rfl) rfl ?_
  refine J.il0 dX7_roundOf_0 ?_
  refine J.if_neN (tgt := 9) dX7_roundOf_1 (by decide) (by omega) (fun c1₉ => ?_) (fun c1₉ => absurd c1₉ (by first | omega | (simp only [not_true_eq_false, not_false_eq_true]; done) | (simp; done)))
  refine J.iconst dX7_roundOf_9 kI_4 ?_
  refine J.iret rfl (by decide) (by decide) dX7_roundOf_10 ⟨_, rfl, ?_, ?_⟩
  · rfl
  · rfl

set_option maxRecDepth 100000 in
set_option maxHeartbeats 4000000 in
theorem c_isItemNext {g : GP} {adr : Nat → Nat} (μ : Mem) {t : Nat → Nat} {x p : Nat} (hT₉ : SgT μ 194 x t) (hx₉ : x ≤ 60) (hp₉ : μ 193 1 = nI p) (hpx₉ : p ≤ x) : CT g yX4_isItemNext mX4_isItemNext (RM 1 0 0) (WM g adr μ) [.ref (adr 193)] (PM g adr ((.inl (some (.int (if isIt t x p = true then nI 1 else nI 0))))) (fun μ' => μ' = μ)) := by
  refine CT.of (l0 := [some (.ref (adr 193)), none]) (by decide +kernel) rfl (Nat.le_of_ble_eq_true rfl) rfl ?_
  refine J.al0 dX4_isItemNext_0 ?_
  refine gf_X4_12 rfl (o2 := 194) (by decide) rfl dX4_isItemNext_1 ?_
  refine J.al0 dX4_isItemNext_4 ?_
  refine gf_X4_18 rfl (x := nI p) (by decide) hp₉ dX4_isItemNext_5 ?_
  refine cl_X4_47 rfl (by decide) (k' := 0) (n' := 0) (signAtI _ (by decide) hT₉ (by omega) (by omega)) ⟨⟨by decide, by decide⟩, ⟨rfl, rfl⟩, by decide, by decide⟩ rfl dX4_isItemNext_8 (fun μ9 h9₉ => ?_)
  rw [h9₉]; clear h9₉
  refine J.is1 dX4_isItemNext_11 (by decide) rfl ?_
  refine J.il1 dX4_isItemNext_12 ?_
  refine J.bipush dX4_isItemNext_13 kb_114 ?_
  refine J.icmp_eqS (tgt := 42) (fun k hk₉ => (hT₉.2 k hk₉).2) (by decide) dX4_isItemNext_15 (by decide) (fun c15₉ => ?_) (fun c15₉ => ?_)
  · refine J.iconst dX4_isItemNext_42 kI_1 ?_
    refine J.goto (tgt := 47) dX4_isItemNext_43 (by decide) ?_
    refine J.zret (ty := .boolean) rfl (by decide) (by decide) (by decide) dX4_isItemNext_47 ⟨_, rfl, ?_, ?_⟩
    · first | rw [if_pos (isIt_iff.mpr (Or.inl c15₉))] | rw [if_pos (isIt_iff.mpr (Or.inr (Or.inl c21₉)))] | rw [if_pos (isIt_iff.mpr (Or.inr (Or.inr (Or.inl c27₉))))] | rw [if_pos (isIt_iff.mpr (Or.inr (Or.inr (Or.inr (Or.inl c33₉)))))] | rw [if_pos (isIt_iff.mpr (Or.inr (Or.inr (Or.inr (Or.inr c39₉)))))] | rw [if_neg (fun q => by rcases isIt_iff.mp q with q | q | q | q | q <;> contradiction)]
    · rfl
  · refine J.il1 dX4_isItemNext_18 ?_
    refine J.bipush dX4_isItemNext_19 kb_99 ?_
    refine J.icmp_eqS (tgt := 42) (fun k hk₉ => (hT₉.2 k hk₉).2) (by decide) dX4_isItemNext_21 (by decide) (fun c21₉ => ?_) (fun c21₉ => ?_)
    · refine J.iconst dX4_isItemNext_42 kI_1 ?_
      refine J.goto (tgt := 47) dX4_isItemNext_43 (by decide) ?_
      refine J.zret (ty := .boolean) rfl (by decide) (by decide) (by decide) dX4_isItemNext_47 ⟨_, rfl, ?_, ?_⟩
      · first | rw [if_pos (isIt_iff.mpr (Or.inl c15₉))] | rw [if_pos (isIt_iff.mpr (Or.inr (Or.inl c21₉)))] | rw [if_pos (isIt_iff.mpr (Or.inr (Or.inr (Or.inl c27₉))))] | rw [if_pos (isIt_iff.mpr (Or.inr (Or.inr (Or.inr (Or.inl c33₉)))))] | rw [if_pos (isIt_iff.mpr (Or.inr (Or.inr (Or.inr (Or.inr c39₉)))))] | rw [if_neg (fun q => by rcases isIt_iff.mp q with q | q | q | q | q <;> contradiction)]
      · rfl
    · refine J.il1 dX4_isItemNext_24 ?_
      refine J.bipush dX4_isItemNext_25 kb_115 ?_
      refine J.icmp_eqS (tgt := 42) (fun k hk₉ => (hT₉.2 k hk₉).2) (by decide) dX4_isItemNext_27 (by decide) (fun c27₉ => ?_) (fun c27₉ => ?_)
      · refine J.iconst dX4_isItemNext_42 kI_1 ?_
        refine J.goto (tgt := 47) dX4_isItemNext_43 (by decide) ?_
        refine J.zret (ty := .boolean) rfl (by decide) (by decide) (by decide) dX4_isItemNext_47 ⟨_, rfl, ?_, ?_⟩
        · first | rw [if_pos (isIt_iff.mpr (Or.inl c15₉))] | rw [if_pos (isIt_iff.mpr (Or.inr (Or.inl c21₉)))] | rw [if_pos (isIt_iff.mpr (Or.inr (Or.inr (Or.inl c27₉))))] | rw [if_pos (isIt_iff.mpr (Or.inr (Or.inr (Or.inr (Or.inl c33₉)))))] | rw [if_pos (isIt_iff.mpr (Or.inr (Or.inr (Or.inr (Or.inr c39₉)))))] | rw [if_neg (fun q => by rcases isIt_iff.mp q with q | q | q | q | q <;> contradiction)]
        · rfl
      · refine J.il1 dX4_isItemNext_30 ?_
        refine J.bipush dX4_isItemNext_31 kb_40 ?_
        refine J.icmp_eqS (tgt := 42) (fun k hk₉ => (hT₉.2 k hk₉).2) (by decide) dX4_isItemNext_33 (by decide) (fun c33₉ => ?_) (fun c33₉ => ?_)
        · refine J.iconst dX4_isItemNext_42 kI_1 ?_
          refine J.goto (tgt := 47) dX4_isItemNext_43 (by decide) ?_
          refine J.zret (ty := .boolean) rfl (by decide) (by decide) (by decide) dX4_isItemNext_47 ⟨_, rfl, ?_, ?_⟩
          · first | rw [if_pos (isIt_iff.mpr (Or.inl c15₉))] | rw [if_pos (isIt_iff.mpr (Or.inr (Or.inl c21₉)))] | rw [if_pos (isIt_iff.mpr (Or.inr (Or.inr (Or.inl c27₉))))] | rw [if_pos (isIt_iff.mpr (Or.inr (Or.inr (Or.inr (Or.inl c33₉)))))] | rw [if_pos (isIt_iff.mpr (Or.inr (Or.inr (Or.inr (Or.inr c39₉)))))] | rw [if_neg (fun q => by rcases isIt_iff.mp q with q | q | q | q | q <;> contradiction)]
          · rfl
        · refine J.il1 dX4_isItemNext_36 ?_
          refine J.bipush dX4_isItemNext_37 kb_91 ?_
          refine J.icmp_neS (tgt := 46) (fun k hk₉ => (hT₉.2 k hk₉).2) (by decide) dX4_isItemNext_39 (by decide) (fun c39₉ => ?_) (fun c39₉ => ?_)
          · refine J.iconst dX4_isItemNext_46 kI_0 ?_
            refine J.zret (ty := .boolean) rfl (by decide) (by decide) (by decide) dX4_isItemNext_47 ⟨_, rfl, ?_, ?_⟩
            · first | rw [if_pos (isIt_iff.mpr (Or.inl c15₉))] | rw [if_pos (isIt_iff.mpr (Or.inr (Or.inl c21₉)))] | rw [if_pos (isIt_iff.mpr (Or.inr (Or.inr (Or.inl c27₉))))] | rw [if_pos (isIt_iff.mpr (Or.inr (Or.inr (Or.inr (Or.inl c33₉)))))] | rw [if_pos (isIt_iff.mpr (Or.inr (Or.inr (Or.inr (Or.inr c39₉)))))] | rw [if_neg (fun q => by rcases isIt_iff.mp q with q | q | q | q | q <;> contradiction)]
            · rfl
          · refine J.iconst dX4_isItemNext_42 kI_1 ?_
            refine J.goto (tgt := 47) dX4_isItemNext_43 (by decide) ?_
            refine J.zret (ty := .boolean) rfl (by decide) (by decide) (by decide) dX4_isItemNext_47 ⟨_, rfl, ?_, ?_⟩
            · first | rw [if_pos (isIt_iff.mpr (Or.inl c15₉))] | rw [if_pos (isIt_iff.mpr (Or.inr (Or.inl c21₉)))] | rw [if_pos (isIt_iff.mpr (Or.inr (Or.inr (Or.inl c27₉))))] | rw [if_pos (isIt_iff.mpr (Or.inr (Or.inr (Or.inr (Or.inl c33₉)))))] | rw [if_pos (isIt_iff.mpr (Or.inr (Or.inr (Or.inr (Or.inr c39₉)))))] | rw [if_neg (fun q => by rcases isIt_iff.mp q with q | q | q | q | q <;> contradiction)]
            · rfl

set_option maxRecDepth 100000 in
set_option maxHeartbeats 4000000 in
theorem c_digitN {g : GP} {adr : Nat → Nat} (μ : Mem) {t : Nat → Nat} {x p lo hi₉ : Nat} (hT₉ : SgT μ 194 x t) (hx₉ : x ≤ 60) (hp₉ : μ 193 1 = nI p) (hpx₉ : p ≤ x) (h1₉ : lo < 65536) (h2₉ : hi₉ < 65536) (hn₉ : pDig t x p lo hi₉ = none) : CT g yX4_digit mX4_digit (RM 1 0 0) (WM g adr μ) [.ref (adr 193), .int (nI lo), .int (nI hi₉)] (PM g adr ((.inl (some (.int (-1))))) (fun μ' => μ' = μ)) := by
  refine CT.of (l0 := [some (.ref (adr 193)), some (.int (nI lo)), some (.int (nI hi₉)), none]) (by decide +kernel) rfl (Nat.le_of_ble_eq_true rfl) rfl ?_
  refine J.al0 dX4_digit_0 ?_
  refine gf_X4_12 rfl (o2 := 194) (by decide) rfl dX4_digit_1 ?_
  refine J.al0 dX4_digit_4 ?_
  refine gf_X4_18 rfl (x := nI p) (by decide) hp₉ dX4_digit_5 ?_
  refine cl_X4_47 rfl (by decide) (k' := 0) (n' := 0) (signAtI _ (by decide) hT₉ (by omega) (by omega)) ⟨⟨by decide, by decide⟩, ⟨rfl, rfl⟩, by decide, by decide⟩ rfl dX4_digit_8 (fun μ9 h9₉ => ?_)
  rw [h9₉]; clear h9₉
  refine J.bipush dX4_digit_11 kb_48 ?_
  refine J.isub dX4_digit_13 rfl ?_
  refine J.is3 dX4_digit_14 (by decide) rfl ?_
  refine J.il3 dX4_digit_15 ?_
  refine J.il1 dX4_digit_16 ?_
  refine J.icmp_lt (tgt := 25) dX4_digit_17 (by decide) (fun c17₉ => ?_) (fun c17₉ => ?_)
  · refine J.iconst (v := -1) dX4_digit_25 (by decide) ?_
    refine J.iret rfl (by decide) (by decide) dX4_digit_26 ⟨_, rfl, ?_, ?_⟩
    · rfl
    · rfl
  · refine J.il3 dX4_digit_20 ?_
    refine J.il2 dX4_digit_21 ?_
    refine J.icmp_le (tgt := 27) dX4_digit_22 (by decide) (fun c22₉ => (sg_dig (fun k hk₉ => (hT₉.2 k hk₉).2) h1₉ h2₉ hn₉ c17₉ c22₉).elim) (fun c22₉ => ?_)
    refine J.iconst (v := -1) dX4_digit_25 (by decide) ?_
    refine J.iret rfl (by decide) (by decide) dX4_digit_26 ⟨_, rfl, ?_, ?_⟩
    · rfl
    · rfl
