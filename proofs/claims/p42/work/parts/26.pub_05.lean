/-! ===== printed: the class: lines, texts, accounts, undo ===== -/
set_option maxRecDepth 100000 in
set_option maxHeartbeats 4000000 in
theorem c_seamShare {g : GP} {adr : Nat → Nat} (μ : Mem) {α : A7} (hCR₉ : CR μ α) : CT g yX7_seamShare mX7_seamShare (RM 20 1 6) (WM g adr μ) [.ref (adr 0)] (PM g adr (.inl (some (.float (fM (sumU (seam1 (fun s => aCol (qS α) (aAt (qS α) s))) 32))))) (fun μ' => CR μ' α ∧ FrC μ' μ)) := by
  refine CT.of (l0 := [some (.ref (adr 0))]) (by decide +kernel) rfl (Nat.le_of_ble_eq_true rfl) rfl ?_
  refine J.al0 dX7_seamShare_0 ?_
  refine gf_X7_10 rfl (o2 := 1) (by decide) rfl dX7_seamShare_1 ?_
  refine gf_X7_79 rfl (o2 := 2) (by decide) rfl dX7_seamShare_4 ?_
  refine cl_X7_142 rfl (by decide) (k' := 0) (n' := 0) (c_countSeams _ (by decide) hCR₉.1.1 hCR₉.1.2.2.1) ⟨⟨by decide, by decide⟩, ⟨rfl, rfl⟩, by decide, by decide⟩ rfl dX7_seamShare_7 (fun μ9 h9₉ => ?_)
  rw [h9₉]; clear h9₉
  refine J.i2f dX7_seamShare_10 ?_
  refine J.ldcwF (v := 1115684864) dX7_seamShare_11 t_1063 ?_
  refine J.fdiv dX7_seamShare_14 (f_n32 _ (by have := sumU_le (n := 32) (c := 2) (f := seam1 (fun s => aCol (qS α) (aAt (qS α) s))) (fun k _ => seam1_le _ _); omega)) ?_
  refine J.fret rfl (by decide) (by decide) dX7_seamShare_15 ⟨_, rfl, ?_, ?_⟩
  · rfl
  · exact ⟨hCR₉, FrC.rf⟩
