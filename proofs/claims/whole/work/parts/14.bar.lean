/-! ===== printed: the barrel, the log, the signs ===== -/
set_option maxRecDepth 100000 in
set_option maxHeartbeats 4000000 in
theorem c_b_copyFrom {g : GP} {adr : Nat → Nat} (μ : Mem) {b d : Nat} (hb : kt b = 2) (hd : kt d = 2) (hn : b + 3 < d ∨ d + 3 < b) : CT g yX0_copyFrom mX0_copyFrom (RM 0 0 0) (WM g adr μ) [.ref (adr b), .ref (adr d)] (PM g adr (.inl none) (fun μ' => (∀ k, k < 32 → μ' (b + 1) k = μ (d + 1) k ∧ μ' (b + 2) k = μ (d + 2) k ∧ μ' (b + 3) k = μ (d + 3) k) ∧ ∀ o, o ≠ b + 1 → o ≠ b + 2 → o ≠ b + 3 → μ' o = μ o)) := by
  refine CT.of (l0 := [some (.ref (adr b)), some (.ref (adr d))]) (by decide +kernel) rfl (Nat.le_of_ble_eq_true rfl) rfl ?_
  have hk := kt_b hb
  have hk2 := kt_b hd
  refine J.al1 dX0_copyFrom_0 ?_
  refine gf_X0_9 rfl (o2 := d + 1) hd rfl dX0_copyFrom_1 ?_
  refine J.iconst dX0_copyFrom_4 kI_0 ?_
  refine J.al0 dX0_copyFrom_5 ?_
  refine gf_X0_9 rfl (o2 := b + 1) hb rfl dX0_copyFrom_6 ?_
  refine J.iconst dX0_copyFrom_9 kI_0 ?_
  refine J.bipush dX0_copyFrom_10 kb_32 ?_
  refine J.copy (N1 := 32) (N2 := 32) t_314 t_316 t_315 t_15 hk2.1 hk.1 (by omega) (by omega) (by decide) (by decide) (by decide) (by decide) (by decide) (by decide) dX0_copyFrom_12 ?_
  refine J.al1 dX0_copyFrom_15 ?_
  refine gf_X0_15 rfl (o2 := d + 2) hd rfl dX0_copyFrom_16 ?_
  refine J.iconst dX0_copyFrom_19 kI_0 ?_
  refine J.al0 dX0_copyFrom_20 ?_
  refine gf_X0_15 rfl (o2 := b + 2) hb rfl dX0_copyFrom_21 ?_
  refine J.iconst dX0_copyFrom_24 kI_0 ?_
  refine J.bipush dX0_copyFrom_25 kb_32 ?_
  refine J.copy (N1 := 32) (N2 := 32) t_314 t_316 t_315 t_15 hk2.2.1 hk.2.1 (by omega) (by omega) (by decide) (by decide) (by decide) (by decide) (by decide) (by decide) dX0_copyFrom_27 ?_
  refine J.al1 dX0_copyFrom_30 ?_
  refine gf_X0_18 rfl (o2 := d + 3) hd rfl dX0_copyFrom_31 ?_
  refine J.iconst dX0_copyFrom_34 kI_0 ?_
  refine J.al0 dX0_copyFrom_35 ?_
  refine gf_X0_18 rfl (o2 := b + 3) hb rfl dX0_copyFrom_36 ?_
  refine J.iconst dX0_copyFrom_39 kI_0 ?_
  refine J.bipush dX0_copyFrom_40 kb_32 ?_
  refine J.copy (N1 := 32) (N2 := 32) t_314 t_316 t_315 t_15 hk2.2.2 hk.2.2 (by omega) (by omega) (by decide) (by decide) (by decide) (by decide) (by decide) (by decide) dX0_copyFrom_42 ?_
  refine J.vret rfl (by decide) (by decide) dX0_copyFrom_45 ⟨_, rfl, ?_, ?_⟩
  · rfl
  · refine ⟨fun k hk9 => ⟨?_, ?_, ?_⟩, fun o h1 h2 h3 => ?_⟩
    · rw [cpy_o (by omega), cpy_o (by omega), cpy_in (by omega) (by omega), Nat.zero_add, Nat.sub_zero]
    · rw [cpy_o (by omega), cpy_in (by omega) (by omega), cpy_o (by omega), Nat.zero_add, Nat.sub_zero]
    · rw [cpy_in (by omega) (by omega), cpy_o (by omega), cpy_o (by omega), Nat.zero_add, Nat.sub_zero]
    · rw [cpy_o h3, cpy_o h2, cpy_o h1]

set_option maxRecDepth 100000 in
set_option maxHeartbeats 4000000 in
theorem c_stickerIn {g : GP} {adr : Nat → Nat} (μ : Mem) {b i : Nat} {f : Nat → Nat} (hb : kt b = 2) (hf : PermR μ (b + 1) f) (hi : i < 32) : CT g yX0_stickerIn mX0_stickerIn (RM 1 0 0) (WM g adr μ) [.ref (adr b), .int (nI i)] (PM g adr ((.inl (some (.int nI (f i))))) (fun μ' => μ' = μ)) := by
  refine CT.of (l0 := [some (.ref (adr b)), some (.int (nI i))]) (by decide +kernel) rfl (Nat.le_of_ble_eq_true rfl) rfl ?_
  have hk := kt_b hb
  refine J.il1 dX0_stickerIn_0 ?_
  refine J.bipush dX0_stickerIn_1 kb_32 ?_
  refine cl_X0_27 rfl (k' := 0) (n' := 0) (isIndexT (by omega) (by omega)) ⟨⟨by decide, by decide⟩, ⟨rfl, rfl⟩, by decide, by decide⟩ rfl dX0_stickerIn_3 (fun μ9 h9 => ?_)
  subst h9
  refine J.if_eqN (tgt := 18) dX0_stickerIn_6 (by decide) (by omega) (fun c6 => absurd c6 (by first | omega | (simp only [not_true_eq_false, not_false_eq_true]; done) | (simp; done))) (fun c6 => ?_)
  refine J.al0 dX0_stickerIn_9 ?_
  refine gf_X0_9 rfl (o2 := b + 1) hb rfl dX0_stickerIn_10 ?_
  refine J.il1 dX0_stickerIn_13 ?_
  refine J.iald (N := 32) (x := nI (f i)) hk.1 (by decide) (by decide) (by omega) ((hf i (by omega)).1) dX0_stickerIn_14 ?_
  refine J.goto (tgt := 19) dX0_stickerIn_15 (by decide) ?_
  refine J.iret rfl (by decide) (by decide) dX0_stickerIn_19 ⟨_, rfl, ?_, ?_⟩
  · rfl
  · rfl

set_option maxRecDepth 100000 in
set_option maxHeartbeats 4000000 in
theorem c_slotOf {g : GP} {adr : Nat → Nat} (μ : Mem) {b i : Nat} {f : Nat → Nat} (hb : kt b = 2) (hf : PermR μ (b + 2) f) (hi : i < 32) : CT g yX0_slotOf mX0_slotOf (RM 1 0 0) (WM g adr μ) [.ref (adr b), .int (nI i)] (PM g adr ((.inl (some (.int nI (f i))))) (fun μ' => μ' = μ)) := by
  refine CT.of (l0 := [some (.ref (adr b)), some (.int (nI i))]) (by decide +kernel) rfl (Nat.le_of_ble_eq_true rfl) rfl ?_
  have hk := kt_b hb
  refine J.il1 dX0_slotOf_0 ?_
  refine J.bipush dX0_slotOf_1 kb_32 ?_
  refine cl_X0_27 rfl (k' := 0) (n' := 0) (isIndexT (by omega) (by omega)) ⟨⟨by decide, by decide⟩, ⟨rfl, rfl⟩, by decide, by decide⟩ rfl dX0_slotOf_3 (fun μ9 h9 => ?_)
  subst h9
  refine J.if_eqN (tgt := 18) dX0_slotOf_6 (by decide) (by omega) (fun c6 => absurd c6 (by first | omega | (simp only [not_true_eq_false, not_false_eq_true]; done) | (simp; done))) (fun c6 => ?_)
  refine J.al0 dX0_slotOf_9 ?_
  refine gf_X0_15 rfl (o2 := b + 2) hb rfl dX0_slotOf_10 ?_
  refine J.il1 dX0_slotOf_13 ?_
  refine J.iald (N := 32) (x := nI (f i)) hk.2.1 (by decide) (by decide) (by omega) ((hf i (by omega)).1) dX0_slotOf_14 ?_
  refine J.goto (tgt := 19) dX0_slotOf_15 (by decide) ?_
  refine J.iret rfl (by decide) (by decide) dX0_slotOf_19 ⟨_, rfl, ?_, ?_⟩
  · rfl
  · rfl

set_option maxRecDepth 100000 in
set_option maxHeartbeats 4000000 in
theorem c_colourOf {g : GP} {adr : Nat → Nat} (μ : Mem) {b i : Nat} {f : Nat → Nat} (hb : kt b = 2) (hf : ColR μ (b + 3) f) (hi : i < 32) : CT g yX0_colourOf mX0_colourOf (RM 1 0 0) (WM g adr μ) [.ref (adr b), .int (nI i)] (PM g adr ((.inl (some (.int nI (f i))))) (fun μ' => μ' = μ)) := by
  refine CT.of (l0 := [some (.ref (adr b)), some (.int (nI i))]) (by decide +kernel) rfl (Nat.le_of_ble_eq_true rfl) rfl ?_
  have hk := kt_b hb
  refine J.il1 dX0_colourOf_0 ?_
  refine J.bipush dX0_colourOf_1 kb_32 ?_
  refine cl_X0_27 rfl (k' := 0) (n' := 0) (isIndexT (by omega) (by omega)) ⟨⟨by decide, by decide⟩, ⟨rfl, rfl⟩, by decide, by decide⟩ rfl dX0_colourOf_3 (fun μ9 h9 => ?_)
  subst h9
  refine J.if_eqN (tgt := 18) dX0_colourOf_6 (by decide) (by omega) (fun c6 => absurd c6 (by first | omega | (simp only [not_true_eq_false, not_false_eq_true]; done) | (simp; done))) (fun c6 => ?_)
  refine J.al0 dX0_colourOf_9 ?_
  refine gf_X0_18 rfl (o2 := b + 3) hb rfl dX0_colourOf_10 ?_
  refine J.il1 dX0_colourOf_13 ?_
  refine J.iald (N := 32) (x := nI (f i)) hk.2.2 (by decide) (by decide) (by omega) ((hf i (by omega)).1) dX0_colourOf_14 ?_
  refine J.goto (tgt := 19) dX0_colourOf_15 (by decide) ?_
  refine J.iret rfl (by decide) (by decide) dX0_colourOf_19 ⟨_, rfl, ?_, ?_⟩
  · rfl
  · rfl

set_option maxRecDepth 100000 in
set_option maxHeartbeats 4000000 in
theorem c_colourIn {g : GP} {adr : Nat → Nat} (μ : Mem) {b i : Nat} {f c : Nat → Nat} (hb : kt b = 2) (hf : PermR μ (b + 1) f) (hc : ColR μ (b + 3) c) (hi : i < 32) : CT g yX0_colourIn mX0_colourIn (RM 2 0 0) (WM g adr μ) [.ref (adr b), .int (nI i)] (PM g adr ((.inl (some (.int nI (c (f i)))))) (fun μ' => μ' = μ)) := by
  refine CT.of (l0 := [some (.ref (adr b)), some (.int (nI i))]) (by decide +kernel) rfl (Nat.le_of_ble_eq_true rfl) rfl ?_
  have hk := kt_b hb
  refine J.al0 dX0_colourIn_0 ?_
  refine J.al0 dX0_colourIn_1 ?_
  refine J.il1 dX0_colourIn_2 ?_
  refine cl_X0_31 rfl hb (k' := 0) (n' := 0) (c_stickerIn _ hb hf (by omega)) ⟨⟨by decide, by decide⟩, ⟨rfl, rfl⟩, by decide, by decide⟩ rfl dX0_colourIn_3 (fun μ9 h9 => ?_)
  subst h9
  have hb3 := (hf i (by omega)).2
  refine cl_X0_35 rfl hb (k' := 0) (n' := 0) (c_colourOf _ hb hc (by omega)) ⟨⟨by decide, by decide⟩, ⟨rfl, rfl⟩, by decide, by decide⟩ rfl dX0_colourIn_6 (fun μ9 h9 => ?_)
  subst h9
  have hb6 := (hc (f i) (by omega)).2
  refine J.iret rfl (by decide) (by decide) dX0_colourIn_9 ⟨_, rfl, ?_, ?_⟩
  · rfl
  · rfl

set_option maxRecDepth 100000 in
set_option maxHeartbeats 4000000 in
theorem c_giveColour {g : GP} {adr : Nat → Nat} (μ : Mem) {b i x : Nat} (hb : kt b = 2) (hi : i < 32) : CT g yX0_giveColour mX0_giveColour (RM 1 0 0) (WM g adr μ) [.ref (adr b), .int (nI i), .int (nI x)] (PM g adr (.inl none) (fun μ' => μ' = wr μ (b + 3) i (nI x))) := by
  refine CT.of (l0 := [some (.ref (adr b)), some (.int (nI i)), some (.int (nI x))]) (by decide +kernel) rfl (Nat.le_of_ble_eq_true rfl) rfl ?_
  have hk := kt_b hb
  refine J.il1 dX0_giveColour_0 ?_
  refine J.bipush dX0_giveColour_1 kb_32 ?_
  refine cl_X0_27 rfl (k' := 0) (n' := 0) (isIndexT (by omega) (by omega)) ⟨⟨by decide, by decide⟩, ⟨rfl, rfl⟩, by decide, by decide⟩ rfl dX0_giveColour_3 (fun μ9 h9 => ?_)
  subst h9
  refine J.if_eqN (tgt := 16) dX0_giveColour_6 (by decide) (by omega) (fun c6 => absurd c6 (by first | omega | (simp only [not_true_eq_false, not_false_eq_true]; done) | (simp; done))) (fun c6 => ?_)
  refine J.al0 dX0_giveColour_9 ?_
  refine gf_X0_18 rfl (o2 := b + 3) hb rfl dX0_giveColour_10 ?_
  refine J.il1 dX0_giveColour_13 ?_
  refine J.il2 dX0_giveColour_14 ?_
  refine J.iast (N := 32) hk.2.2 (by decide) (by decide) (by omega) dX0_giveColour_15 ?_
  refine J.vret rfl (by decide) (by decide) dX0_giveColour_16 ⟨_, rfl, ?_, ?_⟩
  · rfl
  · rfl

set_option maxRecDepth 100000 in
set_option maxHeartbeats 4000000 in
theorem c_follow {g : GP} {adr : Nat → Nat} (μ : Mem) {b p : Nat} {f F : Nat → Nat} (hb : kt b = 2) (hp : kt p = 1) (hf : PermR μ (b + 1) f) (hg : PermR μ (b + 2) (pinv f)) (hF : PermR μ (p + 1) F) (hB : Bij f) (hBF : Bij F) (hn : p + 1 < b + 1 ∨ b + 2 < p + 1) : CT g yX0_follow mX0_follow (RM 2 0 0) (WM g adr μ) [.ref (adr b), .ref (adr p)] (PM g adr (.inl none) (fun μ' => PermR μ' (b + 1) (fun s => f (pinv F s)) ∧ PermR μ' (b + 2) (fun k => F (pinv f k)) ∧ ∀ o, o ≠ b + 1 → o ≠ b + 2 → μ' o = μ o)) := by
  refine CT.of (l0 := [some (.ref (adr b)), some (.ref (adr p)), none, none]) (by decide +kernel) rfl (Nat.le_of_ble_eq_true rfl) rfl ?_
  have hk := kt_b hb
  have hp1 := kt_p hp
  have hBG : Bij (fun k => F (pinv f k)) := hB.pinv.comp hBF
  refine J.iconst dX0_follow_0 kI_0 ?_
  refine J.is2 dX0_follow_1 (by decide) rfl ?_
  have lp2_1 : ∀ (n : Nat) (i : Nat) (μ1 : Mem), 32 < i + n → i ≤ 32 → (∀ k, k < i → μ1 (b + 2) k = nI (F (pinv f k))) → (∀ k, i ≤ k → k < 32 → μ1 (b + 2) k = nI (pinv f k)) → (∀ k, k < i → μ1 (b + 1) (F (pinv f k)) = nI k) → (∀ o, o ≠ b + 1 → o ≠ b + 2 → μ1 o = μ o) → J g mX0_follow (RM 2 0 0) (MQx g (RM 2 0 0) (PM g adr (.inl none) (fun μ' => PermR μ' (b + 1) (fun s => f (pinv F s)) ∧ PermR μ' (b + 2) (fun k => F (pinv f k)) ∧ ∀ o, o ≠ b + 1 → o ≠ b + 2 → μ' o = μ o))) 0 0 (WM g adr μ1) 2 [some (.ref (adr b)), some (.ref (adr p)), some (.int (nI i)), none] [] := by
    intro n
    induction n with
    | zero => intro i μ1 h9 hi hI hU hS hO; exact absurd h9 (by omega)
    | succ n ih2 =>
      intro i μ1 h9 hi hI hU hS hO
      have hF1 : PermR μ1 (p + 1) F := hF.eq (hO _ (by omega) (by omega))
      refine J.il2 dX0_follow_2 ?_
      refine J.bipush dX0_follow_3 kb_32 ?_
      refine J.icmp_geN (tgt := 48) dX0_follow_5 (by decide) (by omega) (by omega) (fun c5 => ?_) (fun c5 => ?_)
      · refine J.vret rfl (by decide) (by decide) dX0_follow_48 ⟨_, rfl, ?_, ?_⟩
        · rfl
        · refine ⟨fun s hs => ?_, fun k hk9 => ⟨hI k (by omega), hBG.1 k hk9⟩, hO⟩
          have h1 := hBF.inv1 hs
          have h2 := (hf _ h1.1).2
          refine ⟨?_, h2⟩
          have h3 := hS (f (pinv F s)) (by omega)
          rw [hB.inv2 h1.1, h1.2] at h3
          exact h3
      · refine J.al1 dX0_follow_8 ?_
        refine J.al0 dX0_follow_9 ?_
        refine gf_X0_15 rfl (o2 := b + 2) hb rfl dX0_follow_10 ?_
        refine J.il2 dX0_follow_13 ?_
        have hb2 := (hg i (by omega)).2
        refine J.iald (N := 32) (x := nI (pinv f i)) hk.2.1 (by decide) (by decide) (by omega) ((hU i (by omega) (by omega))) dX0_follow_14 ?_
        refine cl_X0_38 rfl hp (k' := 0) (n' := 0) (c_of _ hp hF1 (by omega)) ⟨⟨by decide, by decide⟩, ⟨rfl, rfl⟩, by decide, by decide⟩ rfl dX0_follow_15 (fun μ9 h9 => ?_)
        subst h9
        have hbF := (hF (pinv f i) (by omega)).2
        refine J.is3 dX0_follow_18 (by decide) rfl ?_
        refine J.al0 dX0_follow_19 ?_
        refine gf_X0_15 rfl (o2 := b + 2) hb rfl dX0_follow_20 ?_
        refine J.il2 dX0_follow_23 ?_
        refine J.il3 dX0_follow_24 ?_
        refine J.iast (N := 32) hk.2.1 (by decide) (by decide) (by omega) dX0_follow_25 ?_
        refine J.il3 dX0_follow_26 ?_
        refine J.bipush dX0_follow_27 kb_32 ?_
        refine cl_X0_27 rfl (k' := 0) (n' := 0) (isIndexT (by omega) (by omega)) ⟨⟨by decide, by decide⟩, ⟨rfl, rfl⟩, by decide, by decide⟩ rfl dX0_follow_29 (fun μ9 h9 => ?_)
        subst h9
        refine J.if_eqN (tgt := 42) dX0_follow_32 (by decide) (by omega) (fun c32 => absurd c32 (by first | omega | (simp only [not_true_eq_false, not_false_eq_true]; done) | (simp; done))) (fun c32 => ?_)
        refine J.al0 dX0_follow_35 ?_
        refine gf_X0_9 rfl (o2 := b + 1) hb rfl dX0_follow_36 ?_
        refine J.il3 dX0_follow_39 ?_
        refine J.il2 dX0_follow_40 ?_
        refine J.iast (N := 32) hk.1 (by decide) (by decide) (by omega) dX0_follow_41 ?_
        refine J.ii2 (z := 1) dX0_follow_42 (by decide) (by decide) rfl ?_
        refine J.goto (tgt := 2) dX0_follow_45 (by decide) ?_
        exact J.subL ⟨rfl, ⟨rfl, ⟨rfl, trivial⟩⟩⟩ (ih2 (i + 1) _ (by omega) (by omega) (fun k hk => by rw [wr_o (by omega)]; exact row_step hI rfl k hk) (fun k h1 h2 => by rw [wr_o (by omega)]; exact row_keep hU k h1 h2) (inv_step hBG (by omega) (fun k hk => by rw [wr_o (by omega)]; exact hS k hk)) (fun o h1 h2 => by rw [wr_o h1, wr_o h2]; exact hO o h1 h2))
  exact lp2_1 (33) 0 _ (by omega) (by omega) (fun k hk => absurd hk (by omega)) (fun k _ hk => (hg k hk).1) (fun k hk => absurd hk (by omega)) (fun o _ _ => rfl)

set_option maxRecDepth 100000 in
set_option maxHeartbeats 4000000 in
theorem c_countHome {g : GP} {adr : Nat → Nat} (μ : Mem) {b : Nat} {f : Nat → Nat} (hb : kt b = 2) (hf : PermR μ (b + 1) f) : CT g yX0_countHome mX0_countHome (RM 0 0 0) (WM g adr μ) [.ref (adr b)] (PM g adr ((.inl (some (.int nI (cnt (fun s => decide (f s = s)) 32))))) (fun μ' => μ' = μ)) := by
  refine CT.of (l0 := [some (.ref (adr b)), none, none]) (by decide +kernel) rfl (Nat.le_of_ble_eq_true rfl) rfl ?_
  have hk := kt_b hb
  refine J.iconst dX0_countHome_0 kI_0 ?_
  refine J.is1 dX0_countHome_1 (by decide) rfl ?_
  refine J.iconst dX0_countHome_2 kI_0 ?_
  refine J.is2 dX0_countHome_3 (by decide) rfl ?_
  have lp4_1 : ∀ (n : Nat) (i n9 : Nat), 32 < i + n → i ≤ 32 → n9 = cnt (fun s => decide (f s = s)) i → J g mX0_countHome (RM 0 0 0) (MQx g (RM 0 0 0) (PM g adr ((.inl (some (.int nI (cnt (fun s => decide (f s = s)) 32))))) (fun μ' => μ' = μ))) 0 0 (WM g adr μ) 4 [some (.ref (adr b)), some (.int (nI n9)), some (.int (nI i))] [] := by
    intro n
    induction n with
    | zero => intro i n9 h9 hi hc9; exact absurd h9 (by omega)
    | succ n ih4 =>
      intro i n9 h9 hi hc9
      refine J.il2 dX0_countHome_4 ?_
      refine J.bipush dX0_countHome_5 kb_32 ?_
      refine J.icmp_geN (tgt := 29) dX0_countHome_7 (by decide) (by omega) (by omega) (fun c7 => ?_) (fun c7 => ?_)
      · refine J.il1 dX0_countHome_29 ?_
        refine J.iret rfl (by decide) (by decide) dX0_countHome_30 ⟨_, rfl, ?_, ?_⟩
        · rw [show i = 32 by omega] at hc9; rw [hc9]
        · rfl
      · refine J.al0 dX0_countHome_10 ?_
        refine gf_X0_9 rfl (o2 := b + 1) hb rfl dX0_countHome_11 ?_
        refine J.il2 dX0_countHome_14 ?_
        have hb2 := (hf i (by omega)).2
        refine J.iald (N := 32) (x := nI (f i)) hk.1 (by decide) (by decide) (by omega) ((hf i (by omega)).1) dX0_countHome_15 ?_
        refine J.il2 dX0_countHome_16 ?_
        refine J.icmp_neN (tgt := 23) dX0_countHome_17 (by decide) (by omega) (by omega) (fun c17 => ?_) (fun c17 => ?_)
        · refine J.ii2 (z := 1) dX0_countHome_23 (by decide) (by decide) rfl ?_
          refine J.goto (tgt := 4) dX0_countHome_26 (by decide) ?_
          exact ih4 (i + 1) n9 (by omega) (by omega) (by rw [cnt_1, hc9]; first | rw [if_pos (by simpa using c17)] | (rw [if_neg (by simpa using c17)]; rfl))
        · refine J.ii1 (z := 1) dX0_countHome_20 (by decide) (by decide) rfl ?_
          refine J.ii2 (z := 1) dX0_countHome_23 (by decide) (by decide) rfl ?_
          refine J.goto (tgt := 4) dX0_countHome_26 (by decide) ?_
          exact ih4 (i + 1) (n9 + 1) (by omega) (by omega) (by rw [cnt_1, hc9]; first | rw [if_pos (by simpa using c17)] | (rw [if_neg (by simpa using c17)]; rfl))
  exact lp4_1 (33) 0 0 (by omega) (by omega) rfl

set_option maxRecDepth 100000 in
set_option maxHeartbeats 4000000 in
theorem c_hasOneColour {g : GP} {adr : Nat → Nat} (μ : Mem) {b r : Nat} {f c : Nat → Nat} (hb : kt b = 2) (hf : PermR μ (b + 1) f) (hc : ColR μ (b + 3) c) (hr : r < 4) : CT g yX0_hasOneColour mX0_hasOneColour (RM 3 0 0) (WM g adr μ) [.ref (adr b), .int (nI r)] (PM g adr ((.inl (some (.int (if oneB (fun s => c (f s)) r = true then nI 1 else nI 0))))) (fun μ' => μ' = μ)) := by
  refine CT.of (l0 := [some (.ref (adr b)), some (.int (nI r)), none, none]) (by decide +kernel) rfl (Nat.le_of_ble_eq_true rfl) rfl ?_
  have hk := kt_b hb
  refine J.al0 dX0_hasOneColour_0 ?_
  refine J.il1 dX0_hasOneColour_1 ?_
  refine J.bipush dX0_hasOneColour_2 kb_8 ?_
  refine J.imulN dX0_hasOneColour_4 ?_
  refine cl_X0_43 rfl hb (k' := 0) (n' := 0) (c_colourIn _ hb hf hc (by omega)) ⟨⟨by decide, by decide⟩, ⟨rfl, rfl⟩, by decide, by decide⟩ rfl dX0_hasOneColour_5 (fun μ9 h9 => ?_)
  subst h9
  have hb5 := (hc _ (hf (r * 8) (by omega)).2).2
  refine J.is2 dX0_hasOneColour_8 (by decide) rfl ?_
  refine J.iconst dX0_hasOneColour_9 kI_1 ?_
  refine J.is3 dX0_hasOneColour_10 (by decide) rfl ?_
  have lp11_1 : ∀ (n : Nat) (i : Nat), 8 < i + n → i ≤ 8 → (∀ k, k < i → c (f (r * 8 + k)) = c (f (r * 8))) → J g mX0_hasOneColour (RM 3 0 0) (MQx g (RM 3 0 0) (PM g adr ((.inl (some (.int (if oneB (fun s => c (f s)) r = true then nI 1 else nI 0))))) (fun μ' => μ' = μ))) 0 0 (WM g adr μ) 11 [some (.ref (adr b)), some (.int (nI r)), some (.int (nI (c (f (r * 8))))), some (.int (nI i))] [] := by
    intro n
    induction n with
    | zero => intro i h9 hi hI; exact absurd h9 (by omega)
    | succ n ih11 =>
      intro i h9 hi hI
      refine J.il3 dX0_hasOneColour_11 ?_
      refine J.bipush dX0_hasOneColour_12 kb_8 ?_
      refine J.icmp_geN (tgt := 39) dX0_hasOneColour_14 (by decide) (by omega) (by omega) (fun c14 => ?_) (fun c14 => ?_)
      · refine J.iconst dX0_hasOneColour_39 kI_1 ?_
        refine J.zret (ty := .boolean) rfl (by decide) (by decide) (by decide) dX0_hasOneColour_40 ⟨_, rfl, ?_, ?_⟩
        · rw [if_pos (allU_iff.mpr (fun k hk => by simpa using hI k (by omega)))]
        · rfl
      · refine J.al0 dX0_hasOneColour_17 ?_
        refine J.il1 dX0_hasOneColour_18 ?_
        refine J.bipush dX0_hasOneColour_19 kb_8 ?_
        refine J.imulN dX0_hasOneColour_21 ?_
        refine J.il3 dX0_hasOneColour_22 ?_
        refine J.iaddN dX0_hasOneColour_23 ?_
        refine cl_X0_43 rfl hb (k' := 0) (n' := 0) (c_colourIn _ hb hf hc (by omega)) ⟨⟨by decide, by decide⟩, ⟨rfl, rfl⟩, by decide, by decide⟩ rfl dX0_hasOneColour_24 (fun μ9 h9 => ?_)
        subst h9
        have hb24 := (hc _ (hf ((r * 8) + i) (by omega)).2).2
        refine J.il2 dX0_hasOneColour_27 ?_
        refine J.icmp_eqN (tgt := 33) dX0_hasOneColour_28 (by decide) (by omega) (by omega) (fun c28 => ?_) (fun c28 => ?_)
        · refine J.ii3 (z := 1) dX0_hasOneColour_33 (by decide) (by decide) rfl ?_
          refine J.goto (tgt := 11) dX0_hasOneColour_36 (by decide) ?_
          exact ih11 (i + 1) (by omega) (by omega) (lt_s hI c28)
        · refine J.iconst dX0_hasOneColour_31 kI_0 ?_
          refine J.zret (ty := .boolean) rfl (by decide) (by decide) (by decide) dX0_hasOneColour_32 ⟨_, rfl, ?_, ?_⟩
          · rw [if_neg (by rw [oneB, allU_no (k := i) (by omega) (by simpa using c28)]; decide)]
          · rfl
  exact lp11_1 (9) 1 (by omega) (by omega) (fun k hk => by rw [show k = 0 by omega]; rfl)

set_option maxRecDepth 100000 in
set_option maxHeartbeats 4000000 in
theorem c_countDone {g : GP} {adr : Nat → Nat} (μ : Mem) {b : Nat} {f c : Nat → Nat} (hb : kt b = 2) (hf : PermR μ (b + 1) f) (hc : ColR μ (b + 3) c) : CT g yX0_countDone mX0_countDone (RM 4 0 0) (WM g adr μ) [.ref (adr b)] (PM g adr ((.inl (some (.int nI (cnt (oneB (fun s => c (f s))) 4))))) (fun μ' => μ' = μ)) := by
  refine CT.of (l0 := [some (.ref (adr b)), none, none]) (by decide +kernel) rfl (Nat.le_of_ble_eq_true rfl) rfl ?_
  have hk := kt_b hb
  refine J.iconst dX0_countDone_0 kI_0 ?_
  refine J.is1 dX0_countDone_1 (by decide) rfl ?_
  refine J.iconst dX0_countDone_2 kI_0 ?_
  refine J.is2 dX0_countDone_3 (by decide) rfl ?_
  have lp4_1 : ∀ (n : Nat) (i n9 : Nat), 4 < i + n → i ≤ 4 → n9 = cnt (oneB (fun s => c (f s))) i → J g mX0_countDone (RM 4 0 0) (MQx g (RM 4 0 0) (PM g adr ((.inl (some (.int nI (cnt (oneB (fun s => c (f s))) 4))))) (fun μ' => μ' = μ))) 0 0 (WM g adr μ) 4 [some (.ref (adr b)), some (.int (nI n9)), some (.int (nI i))] [] := by
    intro n
    induction n with
    | zero => intro i n9 h9 hi hc9; exact absurd h9 (by omega)
    | succ n ih4 =>
      intro i n9 h9 hi hc9
      refine J.il2 dX0_countDone_4 ?_
      refine J.iconst dX0_countDone_5 kI_4 ?_
      refine J.icmp_geN (tgt := 26) dX0_countDone_6 (by decide) (by omega) (by omega) (fun c6 => ?_) (fun c6 => ?_)
      · refine J.il1 dX0_countDone_26 ?_
        refine J.iret rfl (by decide) (by decide) dX0_countDone_27 ⟨_, rfl, ?_, ?_⟩
        · rw [show i = 4 by omega] at hc9; rw [hc9]
        · rfl
      · refine J.al0 dX0_countDone_9 ?_
        refine J.il2 dX0_countDone_10 ?_
        refine cl_X0_46 rfl hb (k' := 0) (n' := 0) (c_hasOneColour _ hb hf hc (by omega)) ⟨⟨by decide, by decide⟩, ⟨rfl, rfl⟩, by decide, by decide⟩ rfl dX0_countDone_11 (fun μ9 h9 => ?_)
        subst h9
        refine J.if_eqB (tgt := 20) dX0_countDone_14 (by decide) (fun c14 => ?_) (fun c14 => ?_)
        · refine J.ii2 (z := 1) dX0_countDone_20 (by decide) (by decide) rfl ?_
          refine J.goto (tgt := 4) dX0_countDone_23 (by decide) ?_
          exact ih4 (i + 1) n9 (by omega) (by omega) (by rw [cnt_1, hc9]; first | rw [if_pos (by first | exact c14 | simpa using c14)] | (rw [if_neg (by first | exact c14 | simpa using c14)]; rfl))
        · refine J.ii1 (z := 1) dX0_countDone_17 (by decide) (by decide) rfl ?_
          refine J.ii2 (z := 1) dX0_countDone_20 (by decide) (by decide) rfl ?_
          refine J.goto (tgt := 4) dX0_countDone_23 (by decide) ?_
          exact ih4 (i + 1) (n9 + 1) (by omega) (by omega) (by rw [cnt_1, hc9]; first | rw [if_pos (by first | exact c14 | simpa using c14)] | (rw [if_neg (by first | exact c14 | simpa using c14)]; rfl))
  exact lp4_1 (5) 0 0 (by omega) (by omega) rfl

set_option maxRecDepth 100000 in
set_option maxHeartbeats 4000000 in
theorem c_countSeams {g : GP} {adr : Nat → Nat} (μ : Mem) {b : Nat} {f c : Nat → Nat} (hb : kt b = 2) (hf : PermR μ (b + 1) f) (hc : ColR μ (b + 3) c) : CT g yX0_countSeams mX0_countSeams (RM 3 0 0) (WM g adr μ) [.ref (adr b)] (PM g adr ((.inl (some (.int nI (sumU (seam1 (fun s => c (f s))) 32))))) (fun μ' => μ' = μ)) := by
  refine CT.of (l0 := [some (.ref (adr b)), none, none, none, none]) (by decide +kernel) rfl (Nat.le_of_ble_eq_true rfl) rfl ?_
  have hk := kt_b hb
  refine J.iconst dX0_countSeams_0 kI_0 ?_
  refine J.is1 dX0_countSeams_1 (by decide) rfl ?_
  refine J.iconst dX0_countSeams_2 kI_0 ?_
  refine J.is2 dX0_countSeams_3 (by decide) rfl ?_
  have lp4_1 : ∀ (n : Nat) (i n9 : Nat), 32 < i + n → i ≤ 32 → n9 = sumU (seam1 (fun s => c (f s))) i → J g mX0_countSeams (RM 3 0 0) (MQx g (RM 3 0 0) (PM g adr ((.inl (some (.int nI (sumU (seam1 (fun s => c (f s))) 32))))) (fun μ' => μ' = μ))) 0 0 (WM g adr μ) 4 [some (.ref (adr b)), some (.int (nI n9)), some (.int (nI i)), none, none] [] := by
    intro n
    induction n with
    | zero => intro i n9 h9 hi hc9; exact absurd h9 (by omega)
    | succ n ih4 =>
      intro i n9 h9 hi hc9
      have hle := sumU_le (n := i) (fun k _ => seam1_le (fun s => c (f s)) k)
      refine J.il2 dX0_countSeams_4 ?_
      refine J.bipush dX0_countSeams_5 kb_32 ?_
      refine J.icmp_geN (tgt := 72) dX0_countSeams_7 (by decide) (by omega) (by omega) (fun c7 => ?_) (fun c7 => ?_)
      · refine J.il1 dX0_countSeams_72 ?_
        refine J.iret rfl (by decide) (by decide) dX0_countSeams_73 ⟨_, rfl, ?_, ?_⟩
        · rw [show i = 32 by omega] at hc9; rw [hc9]
        · rfl
      · refine J.il2 dX0_countSeams_10 ?_
        refine J.il2 dX0_countSeams_11 ?_
        refine J.bipush dX0_countSeams_12 kb_8 ?_
        refine J.irem dX0_countSeams_14 (by omega) (by omega) (by omega) ?_
        refine J.isubN dX0_countSeams_15 (by omega) ?_
        refine J.il2 dX0_countSeams_16 ?_
        refine J.iconst dX0_countSeams_17 kI_1 ?_
        refine J.iaddN dX0_countSeams_18 ?_
        refine J.bipush dX0_countSeams_19 kb_8 ?_
        refine J.irem dX0_countSeams_21 (by omega) (by omega) (by omega) ?_
        refine J.iaddN dX0_countSeams_22 ?_
        refine J.is3 dX0_countSeams_23 (by decide) rfl ?_
        refine J.il2 dX0_countSeams_24 ?_
        refine J.bipush dX0_countSeams_25 kb_8 ?_
        refine J.iaddN dX0_countSeams_27 ?_
        refine J.bipush dX0_countSeams_28 kb_32 ?_
        refine J.irem dX0_countSeams_30 (by omega) (by omega) (by omega) ?_
        refine J.is4 dX0_countSeams_31 (by decide) rfl ?_
        refine J.al0 dX0_countSeams_33 ?_
        refine J.il2 dX0_countSeams_34 ?_
        refine cl_X0_43 rfl hb (k' := 0) (n' := 0) (c_colourIn _ hb hf hc (by omega)) ⟨⟨by decide, by decide⟩, ⟨rfl, rfl⟩, by decide, by decide⟩ rfl dX0_countSeams_35 (fun μ9 h9 => ?_)
        subst h9
        have hb35 := (hc _ (hf i (by omega)).2).2
        refine J.al0 dX0_countSeams_38 ?_
        refine J.il3 dX0_countSeams_39 ?_
        refine cl_X0_43 rfl hb (k' := 0) (n' := 0) (c_colourIn _ hb hf hc (by omega)) ⟨⟨by decide, by decide⟩, ⟨rfl, rfl⟩, by decide, by decide⟩ rfl dX0_countSeams_40 (fun μ9 h9 => ?_)
        subst h9
        have hb40 := (hc _ (hf ((i - (i % 8)) + ((i + 1) % 8)) (by omega)).2).2
        refine J.icmp_eqN (tgt := 49) dX0_countSeams_43 (by decide) (by omega) (by omega) (fun c43 => ?_) (fun c43 => ?_)
        · refine J.al0 dX0_countSeams_49 ?_
          refine J.il2 dX0_countSeams_50 ?_
          refine cl_X0_43 rfl hb (k' := 0) (n' := 0) (c_colourIn _ hb hf hc (by omega)) ⟨⟨by decide, by decide⟩, ⟨rfl, rfl⟩, by decide, by decide⟩ rfl dX0_countSeams_51 (fun μ9 h9 => ?_)
          subst h9
          have hb51 := (hc _ (hf i (by omega)).2).2
          refine J.al0 dX0_countSeams_54 ?_
          refine J.il4 dX0_countSeams_55 ?_
          refine cl_X0_43 rfl hb (k' := 0) (n' := 0) (c_colourIn _ hb hf hc (by omega)) ⟨⟨by decide, by decide⟩, ⟨rfl, rfl⟩, by decide, by decide⟩ rfl dX0_countSeams_57 (fun μ9 h9 => ?_)
          subst h9
          have hb57 := (hc _ (hf ((i + 8) % 32) (by omega)).2).2
          refine J.icmp_eqN (tgt := 66) dX0_countSeams_60 (by decide) (by omega) (by omega) (fun c60 => ?_) (fun c60 => ?_)
          · refine J.ii2 (z := 1) dX0_countSeams_66 (by decide) (by decide) rfl ?_
            refine J.goto (tgt := 4) dX0_countSeams_69 (by decide) ?_
            exact J.subL ⟨rfl, ⟨rfl, ⟨rfl, trivial⟩⟩⟩ (ih4 (i + 1) n9 (by omega) (by omega) (by rw [sumU_1, hc9]; unfold seam1 rightOf downOf; (try rw [if_pos (by assumption)]); (try rw [if_pos (by assumption)]); (try rw [if_neg (by assumption)]); (try rw [if_neg (by assumption)])))
          · refine J.ii1 (z := 1) dX0_countSeams_63 (by decide) (by decide) rfl ?_
            refine J.ii2 (z := 1) dX0_countSeams_66 (by decide) (by decide) rfl ?_
            refine J.goto (tgt := 4) dX0_countSeams_69 (by decide) ?_
            exact J.subL ⟨rfl, ⟨rfl, ⟨rfl, trivial⟩⟩⟩ (ih4 (i + 1) (n9 + 1) (by omega) (by omega) (by rw [sumU_1, hc9]; unfold seam1 rightOf downOf; (try rw [if_pos (by assumption)]); (try rw [if_pos (by assumption)]); (try rw [if_neg (by assumption)]); (try rw [if_neg (by assumption)])))
        · refine J.ii1 (z := 1) dX0_countSeams_46 (by decide) (by decide) rfl ?_
          refine J.al0 dX0_countSeams_49 ?_
          refine J.il2 dX0_countSeams_50 ?_
          refine cl_X0_43 rfl hb (k' := 0) (n' := 0) (c_colourIn _ hb hf hc (by omega)) ⟨⟨by decide, by decide⟩, ⟨rfl, rfl⟩, by decide, by decide⟩ rfl dX0_countSeams_51 (fun μ9 h9 => ?_)
          subst h9
          have hb51 := (hc _ (hf i (by omega)).2).2
          refine J.al0 dX0_countSeams_54 ?_
          refine J.il4 dX0_countSeams_55 ?_
          refine cl_X0_43 rfl hb (k' := 0) (n' := 0) (c_colourIn _ hb hf hc (by omega)) ⟨⟨by decide, by decide⟩, ⟨rfl, rfl⟩, by decide, by decide⟩ rfl dX0_countSeams_57 (fun μ9 h9 => ?_)
          subst h9
          have hb57 := (hc _ (hf ((i + 8) % 32) (by omega)).2).2
          refine J.icmp_eqN (tgt := 66) dX0_countSeams_60 (by decide) (by omega) (by omega) (fun c60 => ?_) (fun c60 => ?_)
          · refine J.ii2 (z := 1) dX0_countSeams_66 (by decide) (by decide) rfl ?_
            refine J.goto (tgt := 4) dX0_countSeams_69 (by decide) ?_
            exact J.subL ⟨rfl, ⟨rfl, ⟨rfl, trivial⟩⟩⟩ (ih4 (i + 1) (n9 + 1) (by omega) (by omega) (by rw [sumU_1, hc9]; unfold seam1 rightOf downOf; (try rw [if_pos (by assumption)]); (try rw [if_pos (by assumption)]); (try rw [if_neg (by assumption)]); (try rw [if_neg (by assumption)])))
          · refine J.ii1 (z := 1) dX0_countSeams_63 (by decide) (by decide) rfl ?_
            refine J.ii2 (z := 1) dX0_countSeams_66 (by decide) (by decide) rfl ?_
            refine J.goto (tgt := 4) dX0_countSeams_69 (by decide) ?_
            exact J.subL ⟨rfl, ⟨rfl, ⟨rfl, trivial⟩⟩⟩ (ih4 (i + 1) ((n9 + 1) + 1) (by omega) (by omega) (by rw [sumU_1, hc9]; unfold seam1 rightOf downOf; (try rw [if_pos (by assumption)]); (try rw [if_pos (by assumption)]); (try rw [if_neg (by assumption)]); (try rw [if_neg (by assumption)])))
  exact lp4_1 (33) 0 0 (by omega) (by omega) rfl

set_option maxRecDepth 100000 in
set_option maxHeartbeats 4000000 in
theorem c_movesBetween {g : GP} {adr : Nat → Nat} (μ : Mem) {a b : Nat} (ha : a < 32) (hb : b < 32) : CT g yX7_movesBetween mX7_movesBetween (RM 0 0 0) (WM g adr μ) [.int (nI a), .int (nI b)] (PM g adr ((.inl (some (.int nI (apart a b))))) (fun μ' => μ' = μ)) := by
  refine CT.of (l0 := [some (.int (nI a)), some (.int (nI b)), none, none]) (by decide +kernel) rfl (Nat.le_of_ble_eq_true rfl) rfl ?_
  refine J.il0 dX7_movesBetween_0 ?_
  refine J.bipush dX7_movesBetween_1 kb_8 ?_
  refine J.irem dX7_movesBetween_3 (by omega) (by omega) (by omega) ?_
  refine J.il1 dX7_movesBetween_4 ?_
  refine J.bipush dX7_movesBetween_5 kb_8 ?_
  refine J.irem dX7_movesBetween_7 (by omega) (by omega) (by omega) ?_
  refine J.icmp_neN (tgt := 15) dX7_movesBetween_8 (by decide) (by omega) (by omega) (fun c8 => ?_) (fun c8 => ?_)
  · refine J.iconst dX7_movesBetween_15 kI_1 ?_
    refine J.is2 dX7_movesBetween_16 (by decide) rfl ?_
    refine J.il0 dX7_movesBetween_17 ?_
    refine J.bipush dX7_movesBetween_18 kb_8 ?_
    refine J.idiv dX7_movesBetween_20 (by omega) (by omega) (by omega) ?_
    refine J.il1 dX7_movesBetween_21 ?_
    refine J.bipush dX7_movesBetween_22 kb_8 ?_
    refine J.idiv dX7_movesBetween_24 (by omega) (by omega) (by omega) ?_
    refine J.icmp_neN (tgt := 32) dX7_movesBetween_25 (by decide) (by omega) (by omega) (fun c25 => ?_) (fun c25 => ?_)
    · refine J.iconst dX7_movesBetween_32 kI_1 ?_
      refine J.is3 dX7_movesBetween_33 (by decide) rfl ?_
      refine J.il2 dX7_movesBetween_34 ?_
      refine J.il3 dX7_movesBetween_35 ?_
      refine J.iaddN dX7_movesBetween_36 ?_
      refine J.iret rfl (by decide) (by decide) dX7_movesBetween_37 ⟨_, rfl, ?_, ?_⟩
      · unfold apart; (try rw [if_pos (by assumption)]); (try rw [if_pos (by assumption)]); (try rw [if_neg (by assumption)]); (try rw [if_neg (by assumption)])
      · rfl
    · refine J.iconst dX7_movesBetween_28 kI_0 ?_
      refine J.goto (tgt := 33) dX7_movesBetween_29 (by decide) ?_
      refine J.is3 dX7_movesBetween_33 (by decide) rfl ?_
      refine J.il2 dX7_movesBetween_34 ?_
      refine J.il3 dX7_movesBetween_35 ?_
      refine J.iaddN dX7_movesBetween_36 ?_
      refine J.iret rfl (by decide) (by decide) dX7_movesBetween_37 ⟨_, rfl, ?_, ?_⟩
      · unfold apart; (try rw [if_pos (by assumption)]); (try rw [if_pos (by assumption)]); (try rw [if_neg (by assumption)]); (try rw [if_neg (by assumption)])
      · rfl
  · refine J.iconst dX7_movesBetween_11 kI_0 ?_
    refine J.goto (tgt := 16) dX7_movesBetween_12 (by decide) ?_
    refine J.is2 dX7_movesBetween_16 (by decide) rfl ?_
    refine J.il0 dX7_movesBetween_17 ?_
    refine J.bipush dX7_movesBetween_18 kb_8 ?_
    refine J.idiv dX7_movesBetween_20 (by omega) (by omega) (by omega) ?_
    refine J.il1 dX7_movesBetween_21 ?_
    refine J.bipush dX7_movesBetween_22 kb_8 ?_
    refine J.idiv dX7_movesBetween_24 (by omega) (by omega) (by omega) ?_
    refine J.icmp_neN (tgt := 32) dX7_movesBetween_25 (by decide) (by omega) (by omega) (fun c25 => ?_) (fun c25 => ?_)
    · refine J.iconst dX7_movesBetween_32 kI_1 ?_
      refine J.is3 dX7_movesBetween_33 (by decide) rfl ?_
      refine J.il2 dX7_movesBetween_34 ?_
      refine J.il3 dX7_movesBetween_35 ?_
      refine J.iaddN dX7_movesBetween_36 ?_
      refine J.iret rfl (by decide) (by decide) dX7_movesBetween_37 ⟨_, rfl, ?_, ?_⟩
      · unfold apart; (try rw [if_pos (by assumption)]); (try rw [if_pos (by assumption)]); (try rw [if_neg (by assumption)]); (try rw [if_neg (by assumption)])
      · rfl
    · refine J.iconst dX7_movesBetween_28 kI_0 ?_
      refine J.goto (tgt := 33) dX7_movesBetween_29 (by decide) ?_
      refine J.is3 dX7_movesBetween_33 (by decide) rfl ?_
      refine J.il2 dX7_movesBetween_34 ?_
      refine J.il3 dX7_movesBetween_35 ?_
      refine J.iaddN dX7_movesBetween_36 ?_
      refine J.iret rfl (by decide) (by decide) dX7_movesBetween_37 ⟨_, rfl, ?_, ?_⟩
      · unfold apart; (try rw [if_pos (by assumption)]); (try rw [if_pos (by assumption)]); (try rw [if_neg (by assumption)]); (try rw [if_neg (by assumption)])
      · rfl

set_option maxRecDepth 100000 in
set_option maxHeartbeats 4000000 in
theorem c_movesToHomes {g : GP} {adr : Nat → Nat} (μ : Mem) {b : Nat} {f : Nat → Nat} (hb : kt b = 2) (hf : PermR μ (b + 2) f) : CT g yX0_movesToHomes mX0_movesToHomes (RM 1 0 0) (WM g adr μ) [.ref (adr b)] (PM g adr ((.inl (some (.int nI (sumU (fun k => apart (f k) k) 32))))) (fun μ' => μ' = μ)) := by
  refine CT.of (l0 := [some (.ref (adr b)), none, none]) (by decide +kernel) rfl (Nat.le_of_ble_eq_true rfl) rfl ?_
  have hk := kt_b hb
  refine J.iconst dX0_movesToHomes_0 kI_0 ?_
  refine J.is1 dX0_movesToHomes_1 (by decide) rfl ?_
  refine J.iconst dX0_movesToHomes_2 kI_0 ?_
  refine J.is2 dX0_movesToHomes_3 (by decide) rfl ?_
  have lp4_1 : ∀ (n : Nat) (i n9 : Nat), 32 < i + n → i ≤ 32 → n9 = sumU (fun k => apart (f k) k) i → J g mX0_movesToHomes (RM 1 0 0) (MQx g (RM 1 0 0) (PM g adr ((.inl (some (.int nI (sumU (fun k => apart (f k) k) 32))))) (fun μ' => μ' = μ))) 0 0 (WM g adr μ) 4 [some (.ref (adr b)), some (.int (nI n9)), some (.int (nI i))] [] := by
    intro n
    induction n with
    | zero => intro i n9 h9 hi hc9; exact absurd h9 (by omega)
    | succ n ih4 =>
      intro i n9 h9 hi hc9
      have hle := sumU_le (n := i) (fun k _ => apart_le (f k) k)
      refine J.il2 dX0_movesToHomes_4 ?_
      refine J.bipush dX0_movesToHomes_5 kb_32 ?_
      refine J.icmp_geN (tgt := 29) dX0_movesToHomes_7 (by decide) (by omega) (by omega) (fun c7 => ?_) (fun c7 => ?_)
      · refine J.il1 dX0_movesToHomes_29 ?_
        refine J.iret rfl (by decide) (by decide) dX0_movesToHomes_30 ⟨_, rfl, ?_, ?_⟩
        · rw [show i = 32 by omega] at hc9; rw [hc9]
        · rfl
      · refine J.il1 dX0_movesToHomes_10 ?_
        refine J.al0 dX0_movesToHomes_11 ?_
        refine gf_X0_15 rfl (o2 := b + 2) hb rfl dX0_movesToHomes_12 ?_
        refine J.il2 dX0_movesToHomes_15 ?_
        have hb2 := (hf i (by omega)).2
        refine J.iald (N := 32) (x := nI (f i)) hk.2.1 (by decide) (by decide) (by omega) ((hf i (by omega)).1) dX0_movesToHomes_16 ?_
        refine J.il2 dX0_movesToHomes_17 ?_
        have hap18 := apart_le (f i) i
        refine cl_X0_50 rfl (k' := 0) (n' := 0) (c_movesBetween _ (by omega) (by omega)) ⟨⟨by decide, by decide⟩, ⟨rfl, rfl⟩, by decide, by decide⟩ rfl dX0_movesToHomes_18 (fun μ9 h9 => ?_)
        subst h9
        refine J.iaddN dX0_movesToHomes_21 ?_
        refine J.is1 dX0_movesToHomes_22 (by decide) rfl ?_
        refine J.ii2 (z := 1) dX0_movesToHomes_23 (by decide) (by decide) rfl ?_
        refine J.goto (tgt := 4) dX0_movesToHomes_26 (by decide) ?_
        exact ih4 (i + 1) (n9 + (apart (f i) i)) (by omega) (by omega) (by rw [sumU_1, hc9])
  exact lp4_1 (33) 0 0 (by omega) (by omega) rfl

set_option maxRecDepth 100000 in
set_option maxHeartbeats 4000000 in
theorem c_isEachWhereTold {g : GP} {adr : Nat → Nat} (μ : Mem) {b : Nat} {f : Nat → Nat} (hb : kt b = 2) (hf : PermR μ (b + 1) f) (hg : PermR μ (b + 2) (pinv f)) (hB : Bij f) : CT g yX0_isEachWhereTold mX0_isEachWhereTold (RM 2 0 0) (WM g adr μ) [.ref (adr b)] (PM g adr ((.inl (some (.int nI 1)))) (fun μ' => μ' = μ)) := by
  refine CT.of (l0 := [some (.ref (adr b)), none, none, none]) (by decide +kernel) rfl (Nat.le_of_ble_eq_true rfl) rfl ?_
  have hk := kt_b hb
  refine J.iconst dX0_isEachWhereTold_0 kI_0 ?_
  refine J.is1 dX0_isEachWhereTold_1 (by decide) rfl ?_
  have lp2_1 : ∀ (n : Nat) (i : Nat), 32 < i + n → i ≤ 32 → J g mX0_isEachWhereTold (RM 2 0 0) (MQx g (RM 2 0 0) (PM g adr ((.inl (some (.int nI 1)))) (fun μ' => μ' = μ))) 0 0 (WM g adr μ) 2 [some (.ref (adr b)), some (.int (nI i)), none, none] [] := by
    intro n
    induction n with
    | zero => intro i h9 hi; exact absurd h9 (by omega)
    | succ n ih2 =>
      intro i h9 hi
      refine J.il1 dX0_isEachWhereTold_2 ?_
      refine J.bipush dX0_isEachWhereTold_3 kb_32 ?_
      refine J.icmp_geN (tgt := 64) dX0_isEachWhereTold_5 (by decide) (by omega) (by omega) (fun c5 => ?_) (fun c5 => ?_)
      · refine J.iconst dX0_isEachWhereTold_64 kI_1 ?_
        refine J.zret (ty := .boolean) rfl (by decide) (by decide) (by decide) dX0_isEachWhereTold_65 ⟨_, rfl, ?_, ?_⟩
        · rfl
        · rfl
      · refine J.iconst dX0_isEachWhereTold_8 kI_0 ?_
        refine J.is2 dX0_isEachWhereTold_9 (by decide) rfl ?_
        refine J.iconst dX0_isEachWhereTold_10 kI_0 ?_
        refine J.is3 dX0_isEachWhereTold_11 (by decide) rfl ?_
        have lp12_2 : ∀ (n : Nat) (j n9 : Nat), 32 < j + n → j ≤ 32 → n9 = cnt (fun s => decide (f s = i)) j → J g mX0_isEachWhereTold (RM 2 0 0) (MQx g (RM 2 0 0) (PM g adr ((.inl (some (.int nI 1)))) (fun μ' => μ' = μ))) 0 0 (WM g adr μ) 12 [some (.ref (adr b)), some (.int (nI i)), some (.int (nI n9)), some (.int (nI j))] [] := by
          intro n
          induction n with
          | zero => intro j n9 h9 hj hc9; exact absurd h9 (by omega)
          | succ n ih12 =>
            intro j n9 h9 hj hc9
            have hcl := cnt_le (fun s => decide (f s = i)) j
            refine J.il3 dX0_isEachWhereTold_12 ?_
            refine J.bipush dX0_isEachWhereTold_13 kb_32 ?_
            refine J.icmp_geN (tgt := 37) dX0_isEachWhereTold_15 (by decide) (by omega) (by omega) (fun c15 => ?_) (fun c15 => ?_)
            · refine J.il2 dX0_isEachWhereTold_37 ?_
              refine J.iconst dX0_isEachWhereTold_38 kI_1 ?_
              refine J.icmp_neN (tgt := 56) dX0_isEachWhereTold_39 (by decide) (by omega) (by omega) (fun c39 => c39 (by rw [hc9, show j = 32 by omega]; exact cnt_hit hB.2 (ph_onto hB.1 hB.2 (by omega)))) (fun c39 => ?_)
              refine J.al0 dX0_isEachWhereTold_42 ?_
              refine J.al0 dX0_isEachWhereTold_43 ?_
              refine gf_X0_15 rfl (o2 := b + 2) hb rfl dX0_isEachWhereTold_44 ?_
              refine J.il1 dX0_isEachWhereTold_47 ?_
              have hb3 := (hg i (by omega)).2
              refine J.iald (N := 32) (x := nI (pinv f i)) hk.2.1 (by decide) (by decide) (by omega) ((hg i (by omega)).1) dX0_isEachWhereTold_48 ?_
              refine cl_X0_31 rfl hb (k' := 0) (n' := 0) (c_stickerIn _ hb hf (by omega)) ⟨⟨by decide, by decide⟩, ⟨rfl, rfl⟩, by decide, by decide⟩ rfl dX0_isEachWhereTold_49 (fun μ9 h9 => ?_)
              subst h9
              have hb49 := (hf (pinv f i) (by omega)).2
              refine J.il1 dX0_isEachWhereTold_52 ?_
              refine J.icmp_eqN (tgt := 58) dX0_isEachWhereTold_53 (by decide) (by omega) (by omega) (fun c53 => ?_) (fun c53 => c53 (hB.inv1 (by omega)).2)
              refine J.ii1 (z := 1) dX0_isEachWhereTold_58 (by decide) (by decide) rfl ?_
              refine J.goto (tgt := 2) dX0_isEachWhereTold_61 (by decide) ?_
              exact J.subL ⟨rfl, ⟨rfl, trivial⟩⟩ (ih2 (i + 1) (by omega) (by omega))
            · refine J.al0 dX0_isEachWhereTold_18 ?_
              refine gf_X0_9 rfl (o2 := b + 1) hb rfl dX0_isEachWhereTold_19 ?_
              refine J.il3 dX0_isEachWhereTold_22 ?_
              have hb4 := (hf j (by omega)).2
              refine J.iald (N := 32) (x := nI (f j)) hk.1 (by decide) (by decide) (by omega) ((hf j (by omega)).1) dX0_isEachWhereTold_23 ?_
              refine J.il1 dX0_isEachWhereTold_24 ?_
              refine J.icmp_neN (tgt := 31) dX0_isEachWhereTold_25 (by decide) (by omega) (by omega) (fun c25 => ?_) (fun c25 => ?_)
              · refine J.ii3 (z := 1) dX0_isEachWhereTold_31 (by decide) (by decide) rfl ?_
                refine J.goto (tgt := 12) dX0_isEachWhereTold_34 (by decide) ?_
                exact ih12 (j + 1) n9 (by omega) (by omega) (by rw [cnt_1, hc9]; first | rw [if_pos (by simpa using c25)] | (rw [if_neg (by simpa using c25)]; rfl))
              · refine J.ii2 (z := 1) dX0_isEachWhereTold_28 (by decide) (by decide) rfl ?_
                refine J.ii3 (z := 1) dX0_isEachWhereTold_31 (by decide) (by decide) rfl ?_
                refine J.goto (tgt := 12) dX0_isEachWhereTold_34 (by decide) ?_
                exact ih12 (j + 1) (n9 + 1) (by omega) (by omega) (by rw [cnt_1, hc9]; first | rw [if_pos (by simpa using c25)] | (rw [if_neg (by simpa using c25)]; rfl))
        exact lp12_2 (33) 0 0 (by omega) (by omega) rfl
  exact lp2_1 (33) 0 (by omega) (by omega)

set_option maxRecDepth 100000 in
set_option maxHeartbeats 4000000 in
theorem c_l_copyFrom {g : GP} {adr : Nat → Nat} (μ : Mem) {m q : Nat} (hm : kt m = 3) (hq : kt q = 3) (hn : m + 1 < q ∨ q + 1 < m) : CT g yX1_copyFrom mX1_copyFrom (RM 0 0 0) (WM g adr μ) [.ref (adr m), .ref (adr q)] (PM g adr (.inl none) (fun μ' => (∀ k, k < 120 → μ' (m + 1) k = μ (q + 1) k) ∧ μ' m 1 = μ q 1 ∧ (∀ o k, o ≠ m + 1 → (o ≠ m ∨ k ≠ 1) → μ' o k = μ o k))) := by
  refine CT.of (l0 := [some (.ref (adr m)), some (.ref (adr q))]) (by decide +kernel) rfl (Nat.le_of_ble_eq_true rfl) rfl ?_
  have hm1 := kt_m hm
  have hq1 := kt_m hq
  refine J.al1 dX1_copyFrom_0 ?_
  refine gf_X1_11 rfl (o2 := q + 1) hq rfl dX1_copyFrom_1 ?_
  refine J.iconst dX1_copyFrom_4 kI_0 ?_
  refine J.al0 dX1_copyFrom_5 ?_
  refine gf_X1_11 rfl (o2 := m + 1) hm rfl dX1_copyFrom_6 ?_
  refine J.iconst dX1_copyFrom_9 kI_0 ?_
  refine J.bipush dX1_copyFrom_10 kb_120 ?_
  refine J.copy (N1 := 120) (N2 := 120) t_321 t_316 t_315 t_15 hq1 hm1 (by omega) (by omega) (by decide) (by decide) (by decide) (by decide) (by decide) (by decide) dX1_copyFrom_12 ?_
  refine J.al0 dX1_copyFrom_15 ?_
  refine J.al1 dX1_copyFrom_16 ?_
  refine gf_X1_15 rfl (x := μ q 1) hq (by rw [cpy_o (by omega)]) dX1_copyFrom_17 ?_
  refine pf_X1_15 rfl hm dX1_copyFrom_20 ?_
  refine J.vret rfl (by decide) (by decide) dX1_copyFrom_23 ⟨_, rfl, ?_, ?_⟩
  · rfl
  · refine ⟨fun k hk => ?_, wr_s, fun o k h1 h2 => ?_⟩
    · rw [wr_o (by omega), cpy_in (by omega) (by omega), Nat.zero_add, Nat.sub_zero]
    · rw [wr_n h2, cpy_o h1]

set_option maxRecDepth 100000 in
set_option maxHeartbeats 4000000 in
theorem c_l_size {g : GP} {adr : Nat → Nat} (μ : Mem) {m x : Nat} (hm : kt m = 3) (hx : μ m 1 = nI x) : CT g yX1_size mX1_size (RM 0 0 0) (WM g adr μ) [.ref (adr m)] (PM g adr ((.inl (some (.int nI x)))) (fun μ' => μ' = μ)) := by
  refine CT.of (l0 := [some (.ref (adr m))]) (by decide +kernel) rfl (Nat.le_of_ble_eq_true rfl) rfl ?_
  refine J.al0 dX1_size_0 ?_
  refine gf_X1_15 rfl (x := nI x) hm (hx) dX1_size_1 ?_
  refine J.iret rfl (by decide) (by decide) dX1_size_4 ⟨_, rfl, ?_, ?_⟩
  · rfl
  · rfl

set_option maxRecDepth 100000 in
set_option maxHeartbeats 4000000 in
theorem c_part {g : GP} {adr : Nat → Nat} (μ : Mem) {m x a c : Nat} {f : Nat → Nat} (hm : kt m = 3) (hx : μ m 1 = nI x) (hx2 : x ≤ 40) (ha : a < x) (hc : c < 3) (hf : ∀ k, k < 3 * x → μ (m + 1) k = nI (f k)) : CT g yX1_part mX1_part (RM 1 0 0) (WM g adr μ) [.ref (adr m), .int (nI a), .int (nI c)] (PM g adr ((.inl (some (.int nI (f (a * 3 + c)))))) (fun μ' => μ' = μ)) := by
  refine CT.of (l0 := [some (.ref (adr m)), some (.int (nI a)), some (.int (nI c))]) (by decide +kernel) rfl (Nat.le_of_ble_eq_true rfl) rfl ?_
  have hm1 := kt_m hm
  refine J.il1 dX1_part_0 ?_
  refine J.al0 dX1_part_1 ?_
  refine gf_X1_15 rfl (x := nI x) hm (hx) dX1_part_2 ?_
  refine cl_X1_25 rfl (k' := 0) (n' := 0) (isIndexT (by omega) (by omega)) ⟨⟨by decide, by decide⟩, ⟨rfl, rfl⟩, by decide, by decide⟩ rfl dX1_part_5 (fun μ9 h9 => ?_)
  subst h9
  refine J.if_eqN (tgt := 32) dX1_part_8 (by decide) (by omega) (fun c8 => absurd c8 (by first | omega | (simp only [not_true_eq_false, not_false_eq_true]; done) | (simp; done))) (fun c8 => ?_)
  refine J.il2 dX1_part_11 ?_
  refine J.iconst dX1_part_12 kI_3 ?_
  refine cl_X1_25 rfl (k' := 0) (n' := 0) (isIndexT (by omega) (by omega)) ⟨⟨by decide, by decide⟩, ⟨rfl, rfl⟩, by decide, by decide⟩ rfl dX1_part_13 (fun μ9 h9 => ?_)
  subst h9
  refine J.if_eqN (tgt := 32) dX1_part_16 (by decide) (by omega) (fun c16 => absurd c16 (by first | omega | (simp only [not_true_eq_false, not_false_eq_true]; done) | (simp; done))) (fun c16 => ?_)
  refine J.al0 dX1_part_19 ?_
  refine gf_X1_11 rfl (o2 := m + 1) hm rfl dX1_part_20 ?_
  refine J.il1 dX1_part_23 ?_
  refine J.iconst dX1_part_24 kI_3 ?_
  refine J.imulN dX1_part_25 ?_
  refine J.il2 dX1_part_26 ?_
  refine J.iaddN dX1_part_27 ?_
  refine J.iald (N := 120) (x := nI (f ((a * 3) + c))) hm1 (by decide) (by decide) (by omega) (hf ((a * 3) + c) (by omega)) dX1_part_28 ?_
  refine J.goto (tgt := 33) dX1_part_29 (by decide) ?_
  refine J.iret rfl (by decide) (by decide) dX1_part_33 ⟨_, rfl, ?_, ?_⟩
  · rfl
  · rfl

set_option maxRecDepth 100000 in
set_option maxHeartbeats 4000000 in
theorem c_l_add {g : GP} {adr : Nat → Nat} (μ : Mem) {m x a c e : Nat} {f : Nat → Nat} (hm : kt m = 3) (hx : μ m 1 = nI x) (hx2 : x ≤ 40) (hf : ∀ k, k < 3 * x → μ (m + 1) k = nI (f k)) : CT g yX1_add mX1_add (RM 0 0 0) (WM g adr μ) [.ref (adr m), .int (nI a), .int (nI c), .int (nI e)] (PM g adr (.inl none) (fun μ' => μ' m 1 = nI (logN x) ∧ (∀ k, k < 3 * logN x → μ' (m + 1) k = nI (logF x f a c e k)) ∧ (∀ o k, o ≠ m + 1 → (o ≠ m ∨ k ≠ 1) → μ' o k = μ o k))) := by
  refine CT.of (l0 := [some (.ref (adr m)), some (.int (nI a)), some (.int (nI c)), some (.int (nI e))]) (by decide +kernel) rfl (Nat.le_of_ble_eq_true rfl) rfl ?_
  have hm1 := kt_m hm
  refine J.al0 dX1_add_0 ?_
  refine gf_X1_15 rfl (x := nI x) hm (by simp only [wr_o (show m ≠ m + 1 by omega)]; exact hx) dX1_add_1 ?_
  refine J.bipush dX1_add_4 kb_40 ?_
  refine J.icmp_ltN (tgt := 30) dX1_add_6 (by decide) (by omega) (by omega) (fun c6 => ?_) (fun c6 => ?_)
  · refine J.al0 dX1_add_30 ?_
    refine gf_X1_11 rfl (o2 := m + 1) hm rfl dX1_add_31 ?_
    refine J.al0 dX1_add_34 ?_
    refine gf_X1_15 rfl (x := nI x) hm (by simp only [wr_o (show m ≠ m + 1 by omega)]; exact hx) dX1_add_35 ?_
    refine J.iconst dX1_add_38 kI_3 ?_
    refine J.imulN dX1_add_39 ?_
    refine J.il1 dX1_add_40 ?_
    refine J.iast (N := 120) hm1 (by decide) (by decide) (by omega) dX1_add_41 ?_
    refine J.al0 dX1_add_42 ?_
    refine gf_X1_11 rfl (o2 := m + 1) hm rfl dX1_add_43 ?_
    refine J.al0 dX1_add_46 ?_
    refine gf_X1_15 rfl (x := nI x) hm (by simp only [wr_o (show m ≠ m + 1 by omega)]; exact hx) dX1_add_47 ?_
    refine J.iconst dX1_add_50 kI_3 ?_
    refine J.imulN dX1_add_51 ?_
    refine J.iconst dX1_add_52 kI_1 ?_
    refine J.iaddN dX1_add_53 ?_
    refine J.il2 dX1_add_54 ?_
    refine J.iast (N := 120) hm1 (by decide) (by decide) (by omega) dX1_add_55 ?_
    refine J.al0 dX1_add_56 ?_
    refine gf_X1_11 rfl (o2 := m + 1) hm rfl dX1_add_57 ?_
    refine J.al0 dX1_add_60 ?_
    refine gf_X1_15 rfl (x := nI x) hm (by simp only [wr_o (show m ≠ m + 1 by omega)]; exact hx) dX1_add_61 ?_
    refine J.iconst dX1_add_64 kI_3 ?_
    refine J.imulN dX1_add_65 ?_
    refine J.iconst dX1_add_66 kI_2 ?_
    refine J.iaddN dX1_add_67 ?_
    refine J.il3 dX1_add_68 ?_
    refine J.iast (N := 120) hm1 (by decide) (by decide) (by omega) dX1_add_69 ?_
    refine J.al0 dX1_add_70 ?_
    refine J.dup dX1_add_71 rfl ?_
    refine gf_X1_15 rfl (x := nI x) hm (by simp only [wr_o (show m ≠ m + 1 by omega)]; exact hx) dX1_add_72 ?_
    refine J.iconst dX1_add_75 kI_1 ?_
    refine J.iaddN dX1_add_76 ?_
    refine pf_X1_15 rfl hm dX1_add_77 ?_
    refine J.vret rfl (by decide) (by decide) dX1_add_80 ⟨_, rfl, ?_, ?_⟩
    · rfl
    · exact logadd_part hx hf (by omega)
  · refine J.al0 dX1_add_9 ?_
    refine gf_X1_11 rfl (o2 := m + 1) hm rfl dX1_add_10 ?_
    refine J.iconst dX1_add_13 kI_3 ?_
    refine J.al0 dX1_add_14 ?_
    refine gf_X1_11 rfl (o2 := m + 1) hm rfl dX1_add_15 ?_
    refine J.iconst dX1_add_18 kI_0 ?_
    refine J.bipush dX1_add_19 kb_117 ?_
    refine J.copy (N1 := 120) (N2 := 120) t_321 t_316 t_315 t_15 hm1 hm1 (by omega) (by omega) (by decide) (by decide) (by decide) (by decide) (by decide) (by decide) dX1_add_21 ?_
    refine J.al0 dX1_add_24 ?_
    refine J.bipush dX1_add_25 kb_39 ?_
    refine pf_X1_15 rfl hm dX1_add_27 ?_
    refine J.al0 dX1_add_30 ?_
    refine gf_X1_11 rfl (o2 := m + 1) hm rfl dX1_add_31 ?_
    refine J.al0 dX1_add_34 ?_
    refine gf_X1_15 rfl (x := nI 39) hm (by simp only [wr_s, wr_n, ne_eq, Nat.reduceEqDiff, not_false_eq_true, or_true, true_or, Nat.left_eq_add, Nat.succ_ne_self, OfNat.ofNat_ne_zero, one_ne_zero, Nat.add_eq_left, Nat.self_eq_add_right]; first | rfl | skip) dX1_add_35 ?_
    refine J.iconst dX1_add_38 kI_3 ?_
    refine J.imulN dX1_add_39 ?_
    refine J.il1 dX1_add_40 ?_
    refine J.iast (N := 120) hm1 (by decide) (by decide) (by omega) dX1_add_41 ?_
    refine J.al0 dX1_add_42 ?_
    refine gf_X1_11 rfl (o2 := m + 1) hm rfl dX1_add_43 ?_
    refine J.al0 dX1_add_46 ?_
    refine gf_X1_15 rfl (x := nI 39) hm (by simp only [wr_s, wr_n, ne_eq, Nat.reduceEqDiff, not_false_eq_true, or_true, true_or, Nat.left_eq_add, Nat.succ_ne_self, OfNat.ofNat_ne_zero, one_ne_zero, Nat.add_eq_left, Nat.self_eq_add_right]; first | rfl | skip) dX1_add_47 ?_
    refine J.iconst dX1_add_50 kI_3 ?_
    refine J.imulN dX1_add_51 ?_
    refine J.iconst dX1_add_52 kI_1 ?_
    refine J.iaddN dX1_add_53 ?_
    refine J.il2 dX1_add_54 ?_
    refine J.iast (N := 120) hm1 (by decide) (by decide) (by omega) dX1_add_55 ?_
    refine J.al0 dX1_add_56 ?_
    refine gf_X1_11 rfl (o2 := m + 1) hm rfl dX1_add_57 ?_
    refine J.al0 dX1_add_60 ?_
    refine gf_X1_15 rfl (x := nI 39) hm (by simp only [wr_s, wr_n, ne_eq, Nat.reduceEqDiff, not_false_eq_true, or_true, true_or, Nat.left_eq_add, Nat.succ_ne_self, OfNat.ofNat_ne_zero, one_ne_zero, Nat.add_eq_left, Nat.self_eq_add_right]; first | rfl | skip) dX1_add_61 ?_
    refine J.iconst dX1_add_64 kI_3 ?_
    refine J.imulN dX1_add_65 ?_
    refine J.iconst dX1_add_66 kI_2 ?_
    refine J.iaddN dX1_add_67 ?_
    refine J.il3 dX1_add_68 ?_
    refine J.iast (N := 120) hm1 (by decide) (by decide) (by omega) dX1_add_69 ?_
    refine J.al0 dX1_add_70 ?_
    refine J.dup dX1_add_71 rfl ?_
    refine gf_X1_15 rfl (x := nI 39) hm (by simp only [wr_s, wr_n, ne_eq, Nat.reduceEqDiff, not_false_eq_true, or_true, true_or, Nat.left_eq_add, Nat.succ_ne_self, OfNat.ofNat_ne_zero, one_ne_zero, Nat.add_eq_left, Nat.self_eq_add_right]; first | rfl | skip) dX1_add_72 ?_
    refine J.iconst dX1_add_75 kI_1 ?_
    refine J.iaddN dX1_add_76 ?_
    refine pf_X1_15 rfl hm dX1_add_77 ?_
    refine J.vret rfl (by decide) (by decide) dX1_add_80 ⟨_, rfl, ?_, ?_⟩
    · rfl
    · exact logadd_full hx hx2 hf (by omega)

set_option maxRecDepth 100000 in
set_option maxHeartbeats 4000000 in
theorem c_dropLast {g : GP} {adr : Nat → Nat} (μ : Mem) {m x : Nat} (hm : kt m = 3) (hx : μ m 1 = nI x) (h0 : 0 < x) (hx2 : x ≤ 40) : CT g yX1_dropLast mX1_dropLast (RM 0 0 0) (WM g adr μ) [.ref (adr m)] (PM g adr (.inl none) (fun μ' => μ' = wr μ m 1 (nI (x - 1)))) := by
  refine CT.of (l0 := [some (.ref (adr m))]) (by decide +kernel) rfl (Nat.le_of_ble_eq_true rfl) rfl ?_
  refine J.al0 dX1_dropLast_0 ?_
  refine gf_X1_15 rfl (x := nI x) hm (hx) dX1_dropLast_1 ?_
  refine J.if_leN (tgt := 17) dX1_dropLast_4 (by decide) (by omega) (fun c4 => ?_) (fun c4 => ?_)
  · refine J.vret rfl (by decide) (by decide) dX1_dropLast_17 ⟨_, rfl, ?_, ?_⟩
    · rfl
    · rfl
  · refine J.al0 dX1_dropLast_7 ?_
    refine J.dup dX1_dropLast_8 rfl ?_
    refine gf_X1_15 rfl (x := nI x) hm (hx) dX1_dropLast_9 ?_
    refine J.iconst dX1_dropLast_12 kI_1 ?_
    refine J.isubN dX1_dropLast_13 (by omega) ?_
    refine pf_X1_15 rfl hm dX1_dropLast_14 ?_
    refine J.vret rfl (by decide) (by decide) dX1_dropLast_17 ⟨_, rfl, ?_, ?_⟩
    · rfl
    · rfl

set_option maxRecDepth 100000 in
set_option maxHeartbeats 4000000 in
theorem c_l_clear {g : GP} {adr : Nat → Nat} (μ : Mem) {m : Nat} (hm : kt m = 3) : CT g yX1_clear mX1_clear (RM 0 0 0) (WM g adr μ) [.ref (adr m)] (PM g adr (.inl none) (fun μ' => μ' = wr μ m 1 (nI 0))) := by
  refine CT.of (l0 := [some (.ref (adr m))]) (by decide +kernel) rfl (Nat.le_of_ble_eq_true rfl) rfl ?_
  refine J.al0 dX1_clear_0 ?_
  refine J.iconst dX1_clear_1 kI_0 ?_
  refine pf_X1_15 rfl hm dX1_clear_2 ?_
  refine J.vret rfl (by decide) (by decide) dX1_clear_5 ⟨_, rfl, ?_, ?_⟩
  · rfl
  · rfl

set_option maxRecDepth 100000 in
set_option maxHeartbeats 4000000 in
theorem c_s_size {g : GP} {adr : Nat → Nat} (μ : Mem) {q x : Nat} (hq : kt q = 9) (hx : μ q 1 = nI x) : CT g yX5_size mX5_size (RM 0 0 0) (WM g adr μ) [.ref (adr q)] (PM g adr ((.inl (some (.int nI x)))) (fun μ' => μ' = μ)) := by
  refine CT.of (l0 := [some (.ref (adr q))]) (by decide +kernel) rfl (Nat.le_of_ble_eq_true rfl) rfl ?_
  refine J.al0 dX5_size_0 ?_
  refine gf_X5_17 rfl (x := nI x) hq (hx) dX5_size_1 ?_
  refine J.iret rfl (by decide) (by decide) dX5_size_4 ⟨_, rfl, ?_, ?_⟩
  · rfl
  · rfl

set_option maxRecDepth 100000 in
set_option maxHeartbeats 4000000 in
theorem c_s_clear {g : GP} {adr : Nat → Nat} (μ : Mem) {q : Nat} (hq : kt q = 9) : CT g yX5_clear mX5_clear (RM 0 0 0) (WM g adr μ) [.ref (adr q)] (PM g adr (.inl none) (fun μ' => μ' = wr μ q 1 (nI 0))) := by
  refine CT.of (l0 := [some (.ref (adr q))]) (by decide +kernel) rfl (Nat.le_of_ble_eq_true rfl) rfl ?_
  refine J.al0 dX5_clear_0 ?_
  refine J.iconst dX5_clear_1 kI_0 ?_
  refine pf_X5_17 rfl hq dX5_clear_2 ?_
  refine J.vret rfl (by decide) (by decide) dX5_clear_5 ⟨_, rfl, ?_, ?_⟩
  · rfl
  · rfl

set_option maxRecDepth 100000 in
set_option maxHeartbeats 4000000 in
theorem c_signAt {g : GP} {adr : Nat → Nat} (μ : Mem) {q x i : Nat} {f : Nat → Nat} (hq : kt q = 9) (hx : μ q 1 = nI x) (hx2 : x ≤ 120) (hi : i < x) (hf : ∀ k, k < x → μ (q + 1) k = nI (f k)) : CT g yX5_signAt mX5_signAt (RM 0 0 0) (WM g adr μ) [.ref (adr q), .int (nI i)] (PM g adr ((.inl (some (.int nI (f i))))) (fun μ' => μ' = μ)) := by
  refine CT.of (l0 := [some (.ref (adr q)), some (.int (nI i))]) (by decide +kernel) rfl (Nat.le_of_ble_eq_true rfl) rfl ?_
  have hq1 := kt_sg hq
  refine J.il1 dX5_signAt_0 ?_
  refine J.if_ltN (tgt := 21) dX5_signAt_1 (by decide) (by omega) (fun c1 => absurd c1 (by first | omega | (simp only [not_true_eq_false, not_false_eq_true]; done) | (simp; done))) (fun c1 => ?_)
  refine J.il1 dX5_signAt_4 ?_
  refine J.al0 dX5_signAt_5 ?_
  refine gf_X5_17 rfl (x := nI x) hq (hx) dX5_signAt_6 ?_
  refine J.icmp_geN (tgt := 21) dX5_signAt_9 (by decide) (by omega) (by omega) (fun c9 => absurd c9 (by first | omega | (simp only [not_true_eq_false, not_false_eq_true]; done) | (simp; done))) (fun c9 => ?_)
  refine J.al0 dX5_signAt_12 ?_
  refine gf_X5_13 rfl (o2 := q + 1) hq rfl dX5_signAt_13 ?_
  refine J.il1 dX5_signAt_16 ?_
  refine J.cald (N := 120) (x := nI (f i)) hq1 (by decide) (by omega) (hf i (by omega)) dX5_signAt_17 ?_
  refine J.goto (tgt := 22) dX5_signAt_18 (by decide) ?_
  refine J.iret rfl (by decide) (by decide) dX5_signAt_22 ⟨_, rfl, ?_, ?_⟩
  · rfl
  · rfl

set_option maxRecDepth 100000 in
set_option maxHeartbeats 4000000 in
theorem c_signAtE {g : GP} {adr : Nat → Nat} (μ : Mem) {q x i : Nat} (hq : kt q = 9) (hx : μ q 1 = nI x) (hx2 : x ≤ 120) (hi : x ≤ i) (hi2 : i < 2147483648) : CT g yX5_signAt mX5_signAt (RM 0 0 0) (WM g adr μ) [.ref (adr q), .int (nI i)] (PM g adr ((.inl (some (.int -1)))) (fun μ' => μ' = μ)) := by
  refine CT.of (l0 := [some (.ref (adr q)), some (.int (nI i))]) (by decide +kernel) rfl (Nat.le_of_ble_eq_true rfl) rfl ?_
  have hq1 := kt_sg hq
  refine J.il1 dX5_signAt_0 ?_
  refine J.if_ltN (tgt := 21) dX5_signAt_1 (by decide) (by omega) (fun c1 => absurd c1 (by first | omega | (simp only [not_true_eq_false, not_false_eq_true]; done) | (simp; done))) (fun c1 => ?_)
  refine J.il1 dX5_signAt_4 ?_
  refine J.al0 dX5_signAt_5 ?_
  refine gf_X5_17 rfl (x := nI x) hq (hx) dX5_signAt_6 ?_
  refine J.icmp_geN (tgt := 21) dX5_signAt_9 (by decide) (by omega) (by omega) (fun c9 => ?_) (fun c9 => absurd c9 (by first | omega | (simp only [not_true_eq_false, not_false_eq_true]; done) | (simp; done)))
  refine J.iconst (v := -1) dX5_signAt_21 (by decide) ?_
  refine J.iret rfl (by decide) (by decide) dX5_signAt_22 ⟨_, rfl, ?_, ?_⟩
  · rfl
  · rfl

set_option maxRecDepth 100000 in
set_option maxHeartbeats 4000000 in
theorem c_addSign {g : GP} {adr : Nat → Nat} (μ : Mem) {q x a : Nat} (hq : kt q = 9) (hx : μ q 1 = nI x) (hx2 : x < 120) (ha : a < 65536) : CT g yX5_addSign mX5_addSign (RM 0 0 0) (WM g adr μ) [.ref (adr q), .int (nI a)] (PM g adr (.inl none) (fun μ' => μ' = wr (wr μ (q + 1) x (nI a)) q 1 (nI (x + 1)))) := by
  refine CT.of (l0 := [some (.ref (adr q)), some (.int (nI a))]) (by decide +kernel) rfl (Nat.le_of_ble_eq_true rfl) rfl ?_
  have hq1 := kt_sg hq
  refine J.al0 dX5_addSign_0 ?_
  refine gf_X5_17 rfl (x := nI x) hq (hx) dX5_addSign_1 ?_
  refine J.bipush dX5_addSign_4 kb_120 ?_
  refine J.icmp_geN (tgt := 29) dX5_addSign_6 (by decide) (by omega) (by omega) (fun c6 => absurd c6 (by first | omega | (simp only [not_true_eq_false, not_false_eq_true]; done) | (simp; done))) (fun c6 => ?_)
  refine J.al0 dX5_addSign_9 ?_
  refine gf_X5_13 rfl (o2 := q + 1) hq rfl dX5_addSign_10 ?_
  refine J.al0 dX5_addSign_13 ?_
  refine gf_X5_17 rfl (x := nI x) hq (hx) dX5_addSign_14 ?_
  refine J.il1 dX5_addSign_17 ?_
  refine J.cast (N := 120) hq1 (by decide) (by omega) (nar_c (by omega)) dX5_addSign_18 ?_
  refine J.al0 dX5_addSign_19 ?_
  refine J.dup dX5_addSign_20 rfl ?_
  refine gf_X5_17 rfl (x := nI x) hq (by rw [wr_n (by omega)]; exact hx) dX5_addSign_21 ?_
  refine J.iconst dX5_addSign_24 kI_1 ?_
  refine J.iaddN dX5_addSign_25 ?_
  refine pf_X5_17 rfl hq dX5_addSign_26 ?_
  refine J.vret rfl (by decide) (by decide) dX5_addSign_29 ⟨_, rfl, ?_, ?_⟩
  · rfl
  · rfl

set_option maxRecDepth 100000 in
set_option maxHeartbeats 4000000 in
theorem c_addNumber {g : GP} {adr : Nat → Nat} (μ : Mem) {q x a : Nat} {t : Nat → Nat} (hq : kt q = 9) (hx : SgT μ q x t) (hx2 : x + 2 ≤ 120) (ha : a < 100) : CT g yX5_addNumber mX5_addNumber (RM 1 0 0) (WM g adr μ) [.ref (adr q), .int (nI a)] (PM g adr (.inl none) (fun μ' => SgT μ' q (x + numW a) (numF t x a) ∧ ∀ o, o ≠ q → o ≠ q + 1 → μ' o = μ o)) := by
  refine CT.of (l0 := [some (.ref (adr q)), some (.int (nI a))]) (by decide +kernel) rfl (Nat.le_of_ble_eq_true rfl) rfl ?_
  have hq1 := kt_sg hq
  refine J.il1 dX5_addNumber_0 ?_
  refine J.bipush dX5_addNumber_1 kb_10 ?_
  refine J.icmp_ltN (tgt := 18) dX5_addNumber_3 (by decide) (by omega) (by omega) (fun c3 => ?_) (fun c3 => ?_)
  · refine J.al0 dX5_addNumber_18 ?_
    refine J.bipush dX5_addNumber_19 kb_48 ?_
    refine J.il1 dX5_addNumber_21 ?_
    refine J.bipush dX5_addNumber_22 kb_10 ?_
    refine J.irem dX5_addNumber_24 (by omega) (by omega) (by omega) ?_
    refine J.iaddN dX5_addNumber_25 ?_
    refine J.i2c dX5_addNumber_26 (i2cN (by omega)) ?_
    refine cl_X5_21 rfl hq (k' := 0) (n' := 0) (c_addSign _ hq hx.1 (by omega) (by omega)) ⟨⟨by decide, by decide⟩, ⟨rfl, rfl⟩, by decide, by decide⟩ rfl dX5_addNumber_27 (fun μ3 h3 => ?_)
    refine J.vret rfl (by decide) (by decide) dX5_addNumber_30 ⟨_, rfl, ?_, ?_⟩
    · rfl
    · first
      | exact ⟨numT_2 (by omega) (by rw [h3]; exact hx1.add (by omega)), fun o h8 h9 => by rw [h3, wr_o h8, wr_o h9, h2, wr_o h8, wr_o h9]⟩
      | exact ⟨numT_1 (by omega) (by rw [h3]; exact hx.add (by omega)), fun o h8 h9 => by rw [h3, wr_o h8, wr_o h9]⟩
  · refine J.al0 dX5_addNumber_6 ?_
    refine J.bipush dX5_addNumber_7 kb_48 ?_
    refine J.il1 dX5_addNumber_9 ?_
    refine J.bipush dX5_addNumber_10 kb_10 ?_
    refine J.idiv dX5_addNumber_12 (by omega) (by omega) (by omega) ?_
    refine J.iaddN dX5_addNumber_13 ?_
    refine J.i2c dX5_addNumber_14 (i2cN (by omega)) ?_
    refine cl_X5_21 rfl hq (k' := 0) (n' := 0) (c_addSign _ hq hx.1 (by omega) (by omega)) ⟨⟨by decide, by decide⟩, ⟨rfl, rfl⟩, by decide, by decide⟩ rfl dX5_addNumber_15 (fun μ2 h2 => ?_)
    have hx1 := hx.add (a := 48 + a / 10) (by omega)
    rw [← h2] at hx1
    refine J.al0 dX5_addNumber_18 ?_
    refine J.bipush dX5_addNumber_19 kb_48 ?_
    refine J.il1 dX5_addNumber_21 ?_
    refine J.bipush dX5_addNumber_22 kb_10 ?_
    refine J.irem dX5_addNumber_24 (by omega) (by omega) (by omega) ?_
    refine J.iaddN dX5_addNumber_25 ?_
    refine J.i2c dX5_addNumber_26 (i2cN (by omega)) ?_
    refine cl_X5_21 rfl hq (k' := 0) (n' := 0) (c_addSign _ hq hx1.1 (by omega) (by omega)) ⟨⟨by decide, by decide⟩, ⟨rfl, rfl⟩, by decide, by decide⟩ rfl dX5_addNumber_27 (fun μ3 h3 => ?_)
    refine J.vret rfl (by decide) (by decide) dX5_addNumber_30 ⟨_, rfl, ?_, ?_⟩
    · rfl
    · first
      | exact ⟨numT_2 (by omega) (by rw [h3]; exact hx1.add (by omega)), fun o h8 h9 => by rw [h3, wr_o h8, wr_o h9, h2, wr_o h8, wr_o h9]⟩
      | exact ⟨numT_1 (by omega) (by rw [h3]; exact hx.add (by omega)), fun o h8 h9 => by rw [h3, wr_o h8, wr_o h9]⟩
