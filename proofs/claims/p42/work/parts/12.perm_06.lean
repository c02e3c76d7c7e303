/-! ===== printed: the rows of permutations ===== -/
set_option maxRecDepth 100000 in
set_option maxHeartbeats 4000000 in
theorem c_isInEitherOrder {g : GP} {adr : Nat → Nat} (μ : Mem) {p q : Nat} {f h : Nat → Nat} (hp₉ : kt p = 1) (hq₉ : kt q = 1) (hf₉ : PermR μ (p + 1) f) (hh₉ : PermR μ (q + 1) h) : CT g yX3_isInEitherOrder mX3_isInEitherOrder (RM 2 0 0) (WM g adr μ) [.ref (adr p), .ref (adr q)] (PM g adr ((.inl (some (.int (if allU (fun k => decide (h (f k) = f (h k))) 32 = true then nI 1 else nI 0))))) (fun μ' => μ' = μ)) := by
  refine CT.of (l0 := [some (.ref (adr p)), some (.ref (adr q)), none]) (by decide +kernel) rfl (Nat.le_of_ble_eq_true rfl) rfl ?_
  have hp1₉ := kt_p hp₉
  have hq1₉ := kt_p hq₉
  refine J.iconst dX3_isInEitherOrder_0 kI_0 ?_
  refine J.is2 dX3_isInEitherOrder_1 (by decide) rfl ?_
  have lp2_1 : ∀ (fu : Nat) (i : Nat), 32 < i + fu → i ≤ 32 → (∀ k, k < i → h (f k) = f (h k)) → J g mX3_isInEitherOrder (RM 2 0 0) (MQx g (RM 2 0 0) (PM g adr ((.inl (some (.int (if allU (fun k => decide (h (f k) = f (h k))) 32 = true then nI 1 else nI 0))))) (fun μ' => μ' = μ))) 0 0 (WM g adr μ) 2 [some (.ref (adr p)), some (.ref (adr q)), some (.int (nI i))] [] := by
    intro fu
    induction fu with
    | zero => intro i h9₉ hi₉ hI₉; exact absurd h9₉ (by omega)
    | succ fu ih2 =>
      intro i h9₉ hi₉ hI₉
      refine J.il2 dX3_isInEitherOrder_2 ?_
      refine J.bipush dX3_isInEitherOrder_3 kb_32 ?_
      refine J.icmp_geN (tgt := 38) dX3_isInEitherOrder_5 (by decide) (by omega) (by omega) (fun c5₉ => ?_) (fun c5₉ => ?_)
      · refine J.iconst dX3_isInEitherOrder_38 kI_1 ?_
        refine J.zret (ty := .boolean) rfl (by decide) (by decide) (by decide) dX3_isInEitherOrder_39 ⟨_, rfl, ?_, ?_⟩
        · rw [if_pos (allU_iff.mpr (fun k hk₉ => by simpa using hI₉ k (by omega)))]
        · rfl
      · refine J.al1 dX3_isInEitherOrder_8 ?_
        refine J.al0 dX3_isInEitherOrder_9 ?_
        refine gf_X3_9 rfl (o2 := p + 1) hp₉ rfl dX3_isInEitherOrder_10 ?_
        refine J.il2 dX3_isInEitherOrder_13 ?_
        have hb2₉ := (hf₉ i (by omega)).2
        refine J.iald (N := 32) (x := nI (f i)) hp1₉ (by decide) (by decide) (by omega) ((hf₉ i (by omega)).1) dX3_isInEitherOrder_14 ?_
        refine cl_X3_39 rfl hq₉ (k' := 0) (n' := 0) (c_of _ hq₉ hh₉ (by omega)) ⟨⟨by decide, by decide⟩, ⟨rfl, rfl⟩, by decide, by decide⟩ rfl dX3_isInEitherOrder_15 (fun μ9 h9₉ => ?_)
        rw [h9₉]; clear h9₉
        have hb3₉ := (hh₉ (f i) (by omega)).2
        refine J.al0 dX3_isInEitherOrder_18 ?_
        refine J.al1 dX3_isInEitherOrder_19 ?_
        refine J.il2 dX3_isInEitherOrder_20 ?_
        refine cl_X3_39 rfl hq₉ (k' := 0) (n' := 0) (c_of _ hq₉ hh₉ (by omega)) ⟨⟨by decide, by decide⟩, ⟨rfl, rfl⟩, by decide, by decide⟩ rfl dX3_isInEitherOrder_21 (fun μ9 h9₉ => ?_)
        rw [h9₉]; clear h9₉
        have hb4₉ := (hh₉ i (by omega)).2
        refine cl_X3_39 rfl hp₉ (k' := 0) (n' := 0) (c_of _ hp₉ hf₉ (by omega)) ⟨⟨by decide, by decide⟩, ⟨rfl, rfl⟩, by decide, by decide⟩ rfl dX3_isInEitherOrder_24 (fun μ9 h9₉ => ?_)
        rw [h9₉]; clear h9₉
        have hb5₉ := (hf₉ (h i) (by omega)).2
        refine J.icmp_eqN (tgt := 32) dX3_isInEitherOrder_27 (by decide) (by omega) (by omega) (fun c27₉ => ?_) (fun c27₉ => ?_)
        · refine J.ii2 (z := 1) dX3_isInEitherOrder_32 (by decide) (by decide) rfl ?_
          refine J.goto (tgt := 2) dX3_isInEitherOrder_35 (by decide) ?_
          exact ih2 (i + 1) (by omega) (by omega) (lt_s hI₉ c27₉)
        · refine J.iconst dX3_isInEitherOrder_30 kI_0 ?_
          refine J.zret (ty := .boolean) rfl (by decide) (by decide) (by decide) dX3_isInEitherOrder_31 ⟨_, rfl, ?_, ?_⟩
          · rw [if_neg (by rw [allU_no (k := i) (by omega) (by simpa using c27₉)]; decide)]
          · rfl
  exact lp2_1 (33) 0 (by omega) (by omega) (fun k hk₉ => absurd hk₉ (by omega))
