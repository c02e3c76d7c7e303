/-! ===== printed: the barrel, the log, the signs ===== -/
set_option maxRecDepth 100000 in
set_option maxHeartbeats 4000000 in
theorem c_b_copyFrom {g : GP} {adr : Nat → Nat} (μ : Mem) {b d : Nat} (hb₉ : kt b = 2) (hd₉ : kt d = 2) (hn₉ : b + 3 < d ∨ d + 3 < b) : CT g yX0_copyFrom mX0_copyFrom (RM 0 0 0) (WM g adr μ) [.ref (adr b), .ref (adr d)] (PM g adr (.inl none) (fun μ' => (∀ k, k < 32 → μ' (b + 1) k = μ (d + 1) k ∧ μ' (b + 2) k = μ (d + 2) k ∧ μ' (b + 3) k = μ (d + 3) k) ∧ ∀ o, o ≠ b + 1 → o ≠ b + 2 → o ≠ b + 3 → μ' o = μ o)) := by
  refine CT.of (l0 := [some (.ref (adr b)), some (.ref (adr d))]) (by decide +kernel) rfl (Nat.le_of_ble_eq_true rfl) rfl ?_
  have hk₉ := kt_b hb₉
  have hk2₉ := kt_b hd₉
  refine J.al1 dX0_copyFrom_0 ?_
  refine gf_X0_9 rfl (o2 := d + 1) hd₉ rfl dX0_copyFrom_1 ?_
  refine J.iconst dX0_copyFrom_4 kI_0 ?_
  refine J.al0 dX0_copyFrom_5 ?_
  refine gf_X0_9 rfl (o2 := b + 1) hb₉ rfl dX0_copyFrom_6 ?_
  refine J.iconst dX0_copyFrom_9 kI_0 ?_
  refine J.bipush dX0_copyFrom_10 kb_32 ?_
  refine J.copy (N1 := 32) (N2 := 32) t_331 t_333 t_332 t_14 hk2₉.1 hk₉.1 (by omega) (by omega) (by decide) (by decide) (by decide) (by decide) (by decide) (by decide) dX0_copyFrom_12 ?_
  refine J.al1 dX0_copyFrom_15 ?_
  refine gf_X0_15 rfl (o2 := d + 2) hd₉ rfl dX0_copyFrom_16 ?_
  refine J.iconst dX0_copyFrom_19 kI_0 ?_
  refine J.al0 dX0_copyFrom_20 ?_
  refine gf_X0_15 rfl (o2 := b + 2) hb₉ rfl dX0_copyFrom_21 ?_
  refine J.iconst dX0_copyFrom_24 kI_0 ?_
  refine J.bipush dX0_copyFrom_25 kb_32 ?_
  refine J.copy (N1 := 32) (N2 := 32) t_331 t_333 t_332 t_14 hk2₉.2.1 hk₉.2.1 (by omega) (by omega) (by decide) (by decide) (by decide) (by decide) (by decide) (by decide) dX0_copyFrom_27 ?_
  refine J.al1 dX0_copyFrom_30 ?_
  refine gf_X0_18 rfl (o2 := d + 3) hd₉ rfl dX0_copyFrom_31 ?_
  refine J.iconst dX0_copyFrom_34 kI_0 ?_
  refine J.al0 dX0_copyFrom_35 ?_
  refine gf_X0_18 rfl (o2 := b + 3) hb₉ rfl dX0_copyFrom_36 ?_
  refine J.iconst dX0_copyFrom_39 kI_0 ?_
  refine J.bipush dX0_copyFrom_40 kb_32 ?_
  refine J.copy (N1 := 32) (N2 := 32) t_331 t_333 t_332 t_14 hk2₉.2.2 hk₉.2.2 (by omega) (by omega) (by decide) (by decide) (by decide) (by decide) (by decide) (by decide) dX0_copyFrom_42 ?_
  refine J.vret rfl (by decide) (by decide) dX0_copyFrom_45 ⟨_, rfl, ?_, ?_⟩
  · rfl
  · refine ⟨fun k hk9₉ => ⟨?_, ?_, ?_⟩, fun o h1₉ h2₉ h3₉ => ?_⟩
    · rw [cpy_o (by omega), cpy_o (by omega), cpy_in (by omega) (by omega), Nat.zero_add, Nat.sub_zero]
    · rw [cpy_o (by omega), cpy_in (by omega) (by omega), cpy_o (by omega), Nat.zero_add, Nat.sub_zero]
    · rw [cpy_in (by omega) (by omega), cpy_o (by omega), cpy_o (by omega), Nat.zero_add, Nat.sub_zero]
    · rw [cpy_o h3₉, cpy_o h2₉, cpy_o h1₉]

set_option maxRecDepth 100000 in
set_option maxHeartbeats 4000000 in
theorem c_stickerIn {g : GP} {adr : Nat → Nat} (μ : Mem) {b i : Nat} {f : Nat → Nat} (hb₉ : kt b = 2) (hf₉ : PermR μ (b + 1) f) (hi₉ : i < 32) : CT g yX0_stickerIn mX0_stickerIn (RM 1 0 0) (WM g adr μ) [.ref (adr b), .int (nI i)] (PM g adr ((.inl (some (.int (nI (f i)))))) (fun μ' => μ' = μ)) := by
  refine CT.of (l0 := [some (.ref (adr b)), some (.int (nI i))]) (by decide +kernel) rfl (Nat.le_of_ble_eq_true rfl) rfl ?_
  have hk₉ := kt_b hb₉
  refine J.il1 dX0_stickerIn_0 ?_
  refine J.bipush dX0_stickerIn_1 kb_32 ?_
  refine cl_X0_27 rfl (k' := 0) (n' := 0) (isIndexT (by omega) (by omega)) ⟨⟨by decide, by decide⟩, ⟨rfl, rfl⟩, by decide, by decide⟩ rfl dX0_stickerIn_3 (fun μ9 h9₉ => ?_)
  rw [h9₉]; clear h9₉
  refine J.if_eqN (tgt := 18) dX0_stickerIn_6 (by decide) (by omega) (fun c6₉ => absurd c6₉ (by first | omega | (simp only [not_true_eq_false, not_false_eq_true]; done) | (simp; done))) (fun c6₉ => ?_)
  refine J.al0 dX0_stickerIn_9 ?_
  refine gf_X0_9 rfl (o2 := b + 1) hb₉ rfl dX0_stickerIn_10 ?_
  refine J.il1 dX0_stickerIn_13 ?_
  refine J.iald (N := 32) (x := nI (f i)) hk₉.1 (by decide) (by decide) (by omega) ((hf₉ i (by omega)).1) dX0_stickerIn_14 ?_
  refine J.goto (tgt := 19) dX0_stickerIn_15 (by decide) ?_
  refine J.iret rfl (by decide) (by decide) dX0_stickerIn_19 ⟨_, rfl, ?_, ?_⟩
  · rfl
  · rfl

set_option maxRecDepth 100000 in
set_option maxHeartbeats 4000000 in
theorem c_slotOf {g : GP} {adr : Nat → Nat} (μ : Mem) {b i : Nat} {f : Nat → Nat} (hb₉ : kt b = 2) (hf₉ : PermR μ (b + 2) f) (hi₉ : i < 32) : CT g yX0_slotOf mX0_slotOf (RM 1 0 0) (WM g adr μ) [.ref (adr b), .int (nI i)] (PM g adr ((.inl (some (.int (nI (f i)))))) (fun μ' => μ' = μ)) := by
  refine CT.of (l0 := [some (.ref (adr b)), some (.int (nI i))]) (by decide +kernel) rfl (Nat.le_of_ble_eq_true rfl) rfl ?_
  have hk₉ := kt_b hb₉
  refine J.il1 dX0_slotOf_0 ?_
  refine J.bipush dX0_slotOf_1 kb_32 ?_
  refine cl_X0_27 rfl (k' := 0) (n' := 0) (isIndexT (by omega) (by omega)) ⟨⟨by decide, by decide⟩, ⟨rfl, rfl⟩, by decide, by decide⟩ rfl dX0_slotOf_3 (fun μ9 h9₉ => ?_)
  rw [h9₉]; clear h9₉
  refine J.if_eqN (tgt := 18) dX0_slotOf_6 (by decide) (by omega) (fun c6₉ => absurd c6₉ (by first | omega | (simp only [not_true_eq_false, not_false_eq_true]; done) | (simp; done))) (fun c6₉ => ?_)
  refine J.al0 dX0_slotOf_9 ?_
  refine gf_X0_15 rfl (o2 := b + 2) hb₉ rfl dX0_slotOf_10 ?_
  refine J.il1 dX0_slotOf_13 ?_
  refine J.iald (N := 32) (x := nI (f i)) hk₉.2.1 (by decide) (by decide) (by omega) ((hf₉ i (by omega)).1) dX0_slotOf_14 ?_
  refine J.goto (tgt := 19) dX0_slotOf_15 (by decide) ?_
  refine J.iret rfl (by decide) (by decide) dX0_slotOf_19 ⟨_, rfl, ?_, ?_⟩
  · rfl
  · rfl

set_option maxRecDepth 100000 in
set_option maxHeartbeats 4000000 in
theorem c_colourOf {g : GP} {adr : Nat → Nat} (μ : Mem) {b i : Nat} {f : Nat → Nat} (hb₉ : kt b = 2) (hf₉ : ColR μ (b + 3) f) (hi₉ : i < 32) : CT g yX0_colourOf mX0_colourOf (RM 1 0 0) (WM g adr μ) [.ref (adr b), .int (nI i)] (PM g adr ((.inl (some (.int (nI (f i)))))) (fun μ' => μ' = μ)) := by
  refine CT.of (l0 := [some (.ref (adr b)), some (.int (nI i))]) (by decide +kernel) rfl (Nat.le_of_ble_eq_true rfl) rfl ?_
  have hk₉ := kt_b hb₉
  refine J.il1 dX0_colourOf_0 ?_
  refine J.bipush dX0_colourOf_1 kb_32 ?_
  refine cl_X0_27 rfl (k' := 0) (n' := 0) (isIndexT (by omega) (by omega)) ⟨⟨by decide, by decide⟩, ⟨rfl, rfl⟩, by decide, by decide⟩ rfl dX0_colourOf_3 (fun μ9 h9₉ => ?_)
  rw [h9₉]; clear h9₉
  refine J.if_eqN (tgt := 18) dX0_colourOf_6 (by decide) (by omega) (fun c6₉ => absurd c6₉ (by first | omega | (simp only [not_true_eq_false, not_false_eq_true]; done) | (simp; done))) (fun c6₉ => ?_)
  refine J.al0 dX0_colourOf_9 ?_
  refine gf_X0_18 rfl (o2 := b + 3) hb₉ rfl dX0_colourOf_10 ?_
  refine J.il1 dX0_colourOf_13 ?_
  refine J.iald (N := 32) (x := nI (f i)) hk₉.2.2 (by decide) (by decide) (by omega) ((hf₉ i (by omega)).1) dX0_colourOf_14 ?_
  refine J.goto (tgt := 19) dX0_colourOf_15 (by decide) ?_
  refine J.iret rfl (by decide) (by decide) dX0_colourOf_19 ⟨_, rfl, ?_, ?_⟩
  · rfl
  · rfl

set_option maxRecDepth 100000 in
set_option maxHeartbeats 4000000 in
theorem c_colourIn {g : GP} {adr : Nat → Nat} (μ : Mem) {b i : Nat} {f c : Nat → Nat} (hb₉ : kt b = 2) (hf₉ : PermR μ (b + 1) f) (hc₉ : ColR μ (b + 3) c) (hi₉ : i < 32) : CT g yX0_colourIn mX0_colourIn (RM 2 0 0) (WM g adr μ) [.ref (adr b), .int (nI i)] (PM g adr ((.inl (some (.int (nI (c (f i))))))) (fun μ' => μ' = μ)) := by
  refine CT.of (l0 := [some (.ref (adr b)), some (.int (nI i))]) (by decide +kernel) rfl (Nat.le_of_ble_eq_true rfl) rfl ?_
  have hk₉ := kt_b hb₉
  refine J.al0 dX0_colourIn_0 ?_
  refine J.al0 dX0_colourIn_1 ?_
  refine J.il1 dX0_colourIn_2 ?_
  refine cl_X0_31 rfl hb₉ (k' := 0) (n' := 0) (c_stickerIn _ hb₉ hf₉ (by omega)) ⟨⟨by decide, by decide⟩, ⟨rfl, rfl⟩, by decide, by decide⟩ rfl dX0_colourIn_3 (fun μ9 h9₉ => ?_)
  rw [h9₉]; clear h9₉
  have hb3₉ := (hf₉ i (by omega)).2
  refine cl_X0_35 rfl hb₉ (k' := 0) (n' := 0) (c_colourOf _ hb₉ hc₉ (by omega)) ⟨⟨by decide, by decide⟩, ⟨rfl, rfl⟩, by decide, by decide⟩ rfl dX0_colourIn_6 (fun μ9 h9₉ => ?_)
  rw [h9₉]; clear h9₉
  have hb6₉ := (hc₉ (f i) (by omega)).2
  refine J.iret rfl (by decide) (by decide) dX0_colourIn_9 ⟨_, rfl, ?_, ?_⟩
  · rfl
  · rfl
