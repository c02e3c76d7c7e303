/-! ===== printed: the law from its entry ===== -/

set_option maxRecDepth 100000 in
set_option maxHeartbeats 4000000 in
theorem law_start {tb : List (Nat × Nat × Nat × Nat)} {g : GP} {b L : Nat} {xs : Nat → Int32} {Q : QT} (hb : b < g.1) (hL : L ≤ 2048) (KE : ∀ (adr : Nat → Nat) (μ : Mem) (k n : Nat) (l : List (Option Value)), k ≤ 601024 → n ≤ 7293034 → J g (mL_law tb) room_1 (QX b L xs Q) k n (WM g adr μ) 2398 l [.int (nI 1)]) :
    J g (mL_law tb) room_1 (QX b L xs Q) 0 0 [] 0 [some (.ref b), none, none, none, none, none, none, none, none] [] := by
  show J g (mL_law tb) room_1 (QX b L xs Q) 0 0 (([] : va_W) ++ ([] : va_W)) 0 _ _
  refine J.newX (C := RX7) (T := TX7) (N := 11) (ci := 7) (fs := [.null, .null, .null, .int 0, .null, .null, .null, .null, .int 0, .int 0, .int 0]) inB7 tyX7 tyX7_ok rfl t_20 t_21 t_1 dfX7 (by decide) (by decide) dL_law_0 (fun q7 => ?_)
  refine J.dup dL_law_3 rfl ?_
  refine J.ctor (A := ([] : va_W)) cn_X7 rfl t_22 t_23 t_1 t_24 rfl ⟨by decide +kernel, by decide +kernel, by decide +kernel⟩ rfl ⟨by decide, by decide⟩ rfl dL_law_4 ⟨by decide, by decide⟩ (fun blk7 h7 => ?_)
  show J g (mL_law tb) room_1 (QX b L xs Q) 237 4900 (([] : va_W) ++ blk7) 7 _ _
  refine J.as1 dL_law_7 (Nat.le_of_ble_eq_true rfl) rfl ?_
  refine J.newX (C := RX8) (T := TX8) (N := 20) (ci := 8) (fs := [.null, .null, .null, .int 0, .null, .int 0, .int 0, .int 0, .int 0, .null, .null, .int 0, .null, .null, .int 0, .int 0, .int 0, .int 0, .null, .int 0]) inB8 tyX8 tyX8_ok rfl t_972 t_973 t_9 dfX8 (by decide) (by decide) dL_law_8 (fun q8 => ?_)
  refine J.dup dL_law_11 rfl ?_
  refine J.ctor (A := blk7) cn_X8 rfl t_974 t_975 t_9 t_976 rfl ⟨by decide +kernel, by decide +kernel, by decide +kernel⟩ rfl ⟨by decide, by decide⟩ rfl dL_law_12 ⟨by decide, by decide⟩ (fun blk8 h8 => ?_)
  refine J.as2 dL_law_15 (Nat.le_of_ble_eq_true rfl) rfl ?_
  refine J.iconst dL_law_16 kI_1 ?_
  refine J.newA (ty := .long) (t := 3) (N := 1) (a0 := (1, .inr (.inl (fun _ => 0)))) rfl rfl t_1359 (fun _ => rfl) (by decide) (by decide) (by decide) (by decide) dL_law_17 (fun qo => ?_)
  refine J.as3 dL_law_19 (Nat.le_of_ble_eq_true rfl) rfl ?_
  refine J.iconst dL_law_20 kI_0 ?_
  refine J.is4 dL_law_21 (Nat.le_of_ble_eq_true rfl) rfl ?_
  rw [List.append_assoc, List.nil_append]
  generalize hW : blk7 ++ (blk8 ++ [(qo, .inl (g.2.2 3, 1, .inr (.inl (fun _ => 0))))]) = W
  obtain ⟨hc, a0, a1, a2, hC, hM⟩ := start_world h7 h8 hW.symm
  refine J.weq hc ?_
  have h := law_head (tb := tb) (adr := adrW W) hb hL (KE (adrW W)) (L + 1) 0 248 15685 (memW W) α0 (by omega) (by omega) (by omega) (by omega) hC hM
  rw [a0, a1, a2] at h
  exact h
