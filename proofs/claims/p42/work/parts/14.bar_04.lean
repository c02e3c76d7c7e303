/-! ===== printed: the barrel, the log, the signs ===== -/
set_option maxRecDepth 100000 in
set_option maxHeartbeats 4000000 in
theorem c_l_size {g : GP} {adr : Nat → Nat} (μ : Mem) {m x : Nat} (hm₉ : kt m = 3) (hx₉ : μ m 1 = nI x) : CT g yX1_size mX1_size (RM 0 0 0) (WM g adr μ) [.ref (adr m)] (PM g adr ((.inl (some (.int (nI x))))) (fun μ' => μ' = μ)) := by
  refine CT.of (l0 := [some (.ref (adr m))]) (by decide +kernel) rfl (Nat.le_of_ble_eq_true rfl) rfl ?_
  refine J.al0 dX1_size_0 ?_
  refine gf_X1_15 rfl (x := nI x) hm₉ (hx₉) dX1_size_1 ?_
  refine J.iret rfl (by decide) (by decide) dX1_size_4 ⟨_, rfl, ?_, ?_⟩
  · rfl
  · rfl

set_option maxRecDepth 100000 in
set_option maxHeartbeats 4000000 in
theorem c_part {g : GP} {adr : Nat → Nat} (μ : Mem) {m x a c : Nat} {f : Nat → Nat} (hm₉ : kt m = 3) (hx₉ : μ m 1 = nI x) (hx2₉ : x ≤ 40) (ha₉ : a < x) (hc₉ : c < 3) (hf₉ : ∀ k, k < 3 * x → μ (m + 1) k = nI (f k)) : CT g yX1_part mX1_part (RM 1 0 0) (WM g adr μ) [.ref (adr m), .int (nI a), .int (nI c)] (PM g adr ((.inl (some (.int (nI (f (a * 3 + c))))))) (fun μ' => μ' = μ)) := by
  refine CT.of (l0 := [some (.ref (adr m)), some (.int (nI a)), some (.int (nI c)), none]) (by decide +kernel) rfl (Nat.le_of_ble_eq_true rfl) rfl ?_
  have hm1₉ := kt_m hm₉
  refine J.il1 dX1_part_0 ?_
  refine J.bipush dX1_part_1 kb_40 ?_
  refine cl_X1_25 rfl (k' := 0) (n' := 0) (isIndexT (by omega) (by omega)) ⟨⟨by decide, by decide⟩, ⟨rfl, rfl⟩, by decide, by decide⟩ rfl dX1_part_3 (fun μ9 h9₉ => ?_)
  rw [h9₉]; clear h9₉
  refine J.if_eqN (tgt := 29) dX1_part_6 (by decide) (by omega) (fun c6₉ => absurd c6₉ (by first | omega | (simp only [not_true_eq_false, not_false_eq_true]; done) | (simp; done))) (fun c6₉ => ?_)
  refine J.il1 dX1_part_9 ?_
  refine J.al0 dX1_part_10 ?_
  refine gf_X1_15 rfl (x := nI x) hm₉ (hx₉) dX1_part_11 ?_
  refine J.icmp_geN (tgt := 29) dX1_part_14 (by decide) (by omega) (by omega) (fun c14₉ => absurd c14₉ (by first | omega | (simp only [not_true_eq_false, not_false_eq_true]; done) | (simp; done))) (fun c14₉ => ?_)
  refine J.il2 dX1_part_17 ?_
  refine J.iconst dX1_part_18 kI_3 ?_
  refine cl_X1_25 rfl (k' := 0) (n' := 0) (isIndexT (by omega) (by omega)) ⟨⟨by decide, by decide⟩, ⟨rfl, rfl⟩, by decide, by decide⟩ rfl dX1_part_19 (fun μ9 h9₉ => ?_)
  rw [h9₉]; clear h9₉
  refine J.if_eqN (tgt := 29) dX1_part_22 (by decide) (by omega) (fun c22₉ => absurd c22₉ (by first | omega | (simp only [not_true_eq_false, not_false_eq_true]; done) | (simp; done))) (fun c22₉ => ?_)
  refine J.iconst dX1_part_25 kI_1 ?_
  refine J.goto (tgt := 30) dX1_part_26 (by decide) ?_
  refine J.is3 dX1_part_30 (by decide) rfl ?_
  refine J.il3 dX1_part_31 ?_
  refine J.if_eqN (tgt := 48) dX1_part_32 (by decide) (by omega) (fun c32₉ => absurd c32₉ (by first | omega | (simp only [not_true_eq_false, not_false_eq_true]; done) | (simp; done))) (fun c32₉ => ?_)
  refine J.al0 dX1_part_35 ?_
  refine gf_X1_11 rfl (o2 := m + 1) hm₉ rfl dX1_part_36 ?_
  refine J.il1 dX1_part_39 ?_
  refine J.iconst dX1_part_40 kI_3 ?_
  refine J.imulN dX1_part_41 ?_
  refine J.il2 dX1_part_42 ?_
  refine J.iaddN dX1_part_43 ?_
  refine J.iald (N := 120) (x := nI (f ((a * 3) + c))) hm1₉ (by decide) (by decide) (by omega) (hf₉ ((a * 3) + c) (by omega)) dX1_part_44 ?_
  refine J.goto (tgt := 49) dX1_part_45 (by decide) ?_
  refine J.iret rfl (by decide) (by decide) dX1_part_49 ⟨_, rfl, ?_, ?_⟩
  · rfl
  · rfl

set_option maxRecDepth 100000 in
set_option maxHeartbeats 4000000 in
theorem c_l_add {g : GP} {adr : Nat → Nat} (μ : Mem) {m x a c e : Nat} {f : Nat → Nat} (hm₉ : kt m = 3) (hx₉ : μ m 1 = nI x) (hx2₉ : x ≤ 40) (hf₉ : ∀ k, k < 3 * x → μ (m + 1) k = nI (f k)) : CT g yX1_add mX1_add (RM 1 0 0) (WM g adr μ) [.ref (adr m), .int (nI a), .int (nI c), .int (nI e)] (PM g adr (.inl none) (fun μ' => μ' m 1 = nI (logN x) ∧ (∀ k, k < 3 * logN x → μ' (m + 1) k = nI (logF x f a c e k)) ∧ (∀ o k, o ≠ m + 1 → (o ≠ m ∨ k ≠ 1) → μ' o k = μ o k))) := by
  refine CT.of (l0 := [some (.ref (adr m)), some (.int (nI a)), some (.int (nI c)), some (.int (nI e))]) (by decide +kernel) rfl (Nat.le_of_ble_eq_true rfl) rfl ?_
  have hm1₉ := kt_m hm₉
  refine J.al0 dX1_add_0 ?_
  refine gf_X1_15 rfl (x := nI x) hm₉ hx₉ dX1_add_1 ?_
  refine J.bipush dX1_add_4 kb_40 ?_
  refine J.icmp_ltN (tgt := 30) dX1_add_6 (by decide) (by omega) (by omega) (fun c6₉ => ?_) (fun c6₉ => ?_)
  · refine J.al0 dX1_add_30 ?_
    refine gf_X1_15 rfl (x := nI x) hm₉ hx₉ dX1_add_31 ?_
    refine J.bipush dX1_add_34 kb_40 ?_
    refine cl_X1_25 rfl (k' := 0) (n' := 0) (isIndexT (by omega) (by omega)) ⟨⟨by decide, by decide⟩, ⟨rfl, rfl⟩, by decide, by decide⟩ rfl dX1_add_36 (fun μ9 h9₉ => ?_)
    rw [h9₉]; clear h9₉
    refine J.if_eqN (tgt := 92) dX1_add_39 (by decide) (by omega) (fun c39₉ => absurd c39₉ (by first | omega | (simp only [not_true_eq_false, not_false_eq_true]; done) | (simp; done))) (fun c39₉ => ?_)
    refine J.al0 dX1_add_42 ?_
    refine gf_X1_11 rfl (o2 := m + 1) hm₉ rfl dX1_add_43 ?_
    refine J.al0 dX1_add_46 ?_
    refine gf_X1_15 rfl (x := nI x) hm₉ hx₉ dX1_add_47 ?_
    refine J.iconst dX1_add_50 kI_3 ?_
    refine J.imulN dX1_add_51 ?_
    refine J.il1 dX1_add_52 ?_
    refine J.iast (N := 120) hm1₉ (by decide) (by decide) (by omega) dX1_add_53 ?_
    refine J.al0 dX1_add_54 ?_
    refine gf_X1_11 rfl (o2 := m + 1) hm₉ rfl dX1_add_55 ?_
    refine J.al0 dX1_add_58 ?_
    refine gf_X1_15 rfl (x := nI x) hm₉ (by rw [wr_n (by omega)]; exact hx₉) dX1_add_59 ?_
    refine J.iconst dX1_add_62 kI_3 ?_
    refine J.imulN dX1_add_63 ?_
    refine J.iconst dX1_add_64 kI_1 ?_
    refine J.iaddN dX1_add_65 ?_
    refine J.il2 dX1_add_66 ?_
    refine J.iast (N := 120) hm1₉ (by decide) (by decide) (by omega) dX1_add_67 ?_
    refine J.al0 dX1_add_68 ?_
    refine gf_X1_11 rfl (o2 := m + 1) hm₉ rfl dX1_add_69 ?_
    refine J.al0 dX1_add_72 ?_
    refine gf_X1_15 rfl (x := nI x) hm₉ (by rw [wr_n (by omega)]; rw [wr_n (by omega)]; exact hx₉) dX1_add_73 ?_
    refine J.iconst dX1_add_76 kI_3 ?_
    refine J.imulN dX1_add_77 ?_
    refine J.iconst dX1_add_78 kI_2 ?_
    refine J.iaddN dX1_add_79 ?_
    refine J.il3 dX1_add_80 ?_
    refine J.iast (N := 120) hm1₉ (by decide) (by decide) (by omega) dX1_add_81 ?_
    refine J.al0 dX1_add_82 ?_
    refine J.dup dX1_add_83 rfl ?_
    refine gf_X1_15 rfl (x := nI x) hm₉ (by rw [wr_n (by omega)]; rw [wr_n (by omega)]; rw [wr_n (by omega)]; exact hx₉) dX1_add_84 ?_
    refine J.iconst dX1_add_87 kI_1 ?_
    refine J.iaddN dX1_add_88 ?_
    refine pf_X1_15 rfl hm₉ dX1_add_89 ?_
    refine J.vret rfl (by decide) (by decide) dX1_add_92 ⟨_, rfl, ?_, ?_⟩
    · rfl
    · exact logadd_part hx₉ hf₉ (by omega)
  · refine J.al0 dX1_add_9 ?_
    refine gf_X1_11 rfl (o2 := m + 1) hm₉ rfl dX1_add_10 ?_
    refine J.iconst dX1_add_13 kI_3 ?_
    refine J.al0 dX1_add_14 ?_
    refine gf_X1_11 rfl (o2 := m + 1) hm₉ rfl dX1_add_15 ?_
    refine J.iconst dX1_add_18 kI_0 ?_
    refine J.bipush dX1_add_19 kb_117 ?_
    refine J.copy (N1 := 120) (N2 := 120) t_338 t_333 t_332 t_14 hm1₉ hm1₉ (by omega) (by omega) (by decide) (by decide) (by decide) (by decide) (by decide) (by decide) dX1_add_21 ?_
    refine J.al0 dX1_add_24 ?_
    refine J.bipush dX1_add_25 kb_39 ?_
    refine pf_X1_15 rfl hm₉ dX1_add_27 ?_
    refine J.al0 dX1_add_30 ?_
    refine gf_X1_15 rfl (x := nI 39) hm₉ wr_s dX1_add_31 ?_
    refine J.bipush dX1_add_34 kb_40 ?_
    refine cl_X1_25 rfl (k' := 0) (n' := 0) (isIndexT (by omega) (by omega)) ⟨⟨by decide, by decide⟩, ⟨rfl, rfl⟩, by decide, by decide⟩ rfl dX1_add_36 (fun μ9 h9₉ => ?_)
    rw [h9₉]; clear h9₉
    refine J.if_eqN (tgt := 92) dX1_add_39 (by decide) (by omega) (fun c39₉ => absurd c39₉ (by first | omega | (simp only [not_true_eq_false, not_false_eq_true]; done) | (simp; done))) (fun c39₉ => ?_)
    refine J.al0 dX1_add_42 ?_
    refine gf_X1_11 rfl (o2 := m + 1) hm₉ rfl dX1_add_43 ?_
    refine J.al0 dX1_add_46 ?_
    refine gf_X1_15 rfl (x := nI 39) hm₉ wr_s dX1_add_47 ?_
    refine J.iconst dX1_add_50 kI_3 ?_
    refine J.imulN dX1_add_51 ?_
    refine J.il1 dX1_add_52 ?_
    refine J.iast (N := 120) hm1₉ (by decide) (by decide) (by omega) dX1_add_53 ?_
    refine J.al0 dX1_add_54 ?_
    refine gf_X1_11 rfl (o2 := m + 1) hm₉ rfl dX1_add_55 ?_
    refine J.al0 dX1_add_58 ?_
    refine gf_X1_15 rfl (x := nI 39) hm₉ (by rw [wr_n (by omega)]; exact wr_s) dX1_add_59 ?_
    refine J.iconst dX1_add_62 kI_3 ?_
    refine J.imulN dX1_add_63 ?_
    refine J.iconst dX1_add_64 kI_1 ?_
    refine J.iaddN dX1_add_65 ?_
    refine J.il2 dX1_add_66 ?_
    refine J.iast (N := 120) hm1₉ (by decide) (by decide) (by omega) dX1_add_67 ?_
    refine J.al0 dX1_add_68 ?_
    refine gf_X1_11 rfl (o2 := m + 1) hm₉ rfl dX1_add_69 ?_
    refine J.al0 dX1_add_72 ?_
    refine gf_X1_15 rfl (x := nI 39) hm₉ (by rw [wr_n (by omega)]; rw [wr_n (by omega)]; exact wr_s) dX1_add_73 ?_
    refine J.iconst dX1_add_76 kI_3 ?_
    refine J.imulN dX1_add_77 ?_
    refine J.iconst dX1_add_78 kI_2 ?_
    refine J.iaddN dX1_add_79 ?_
    refine J.il3 dX1_add_80 ?_
    refine J.iast (N := 120) hm1₉ (by decide) (by decide) (by omega) dX1_add_81 ?_
    refine J.al0 dX1_add_82 ?_
    refine J.dup dX1_add_83 rfl ?_
    refine gf_X1_15 rfl (x := nI 39) hm₉ (by rw [wr_n (by omega)]; rw [wr_n (by omega)]; rw [wr_n (by omega)]; exact wr_s) dX1_add_84 ?_
    refine J.iconst dX1_add_87 kI_1 ?_
    refine J.iaddN dX1_add_88 ?_
    refine pf_X1_15 rfl hm₉ dX1_add_89 ?_
    refine J.vret rfl (by decide) (by decide) dX1_add_92 ⟨_, rfl, ?_, ?_⟩
    · rfl
    · exact logadd_full hx₉ hx2₉ hf₉ (by omega)

set_option maxRecDepth 100000 in
set_option maxHeartbeats 4000000 in
theorem c_dropLast {g : GP} {adr : Nat → Nat} (μ : Mem) {m x : Nat} (hm₉ : kt m = 3) (hx₉ : μ m 1 = nI x) (h0₉ : 0 < x) (hx2₉ : x ≤ 40) : CT g yX1_dropLast mX1_dropLast (RM 0 0 0) (WM g adr μ) [.ref (adr m)] (PM g adr (.inl none) (fun μ' => μ' = wr μ m 1 (nI (x - 1)))) := by
  refine CT.of (l0 := [some (.ref (adr m))]) (by decide +kernel) rfl (Nat.le_of_ble_eq_true rfl) rfl ?_
  refine J.al0 dX1_dropLast_0 ?_
  refine gf_X1_15 rfl (x := nI x) hm₉ (hx₉) dX1_dropLast_1 ?_
  refine J.if_leN (tgt := 17) dX1_dropLast_4 (by decide) (by omega) (fun c4₉ => absurd c4₉ (by first | omega | (simp only [not_true_eq_false, not_false_eq_true]; done) | (simp; done))) (fun c4₉ => ?_)
  refine J.al0 dX1_dropLast_7 ?_
  refine J.dup dX1_dropLast_8 rfl ?_
  refine gf_X1_15 rfl (x := nI x) hm₉ (hx₉) dX1_dropLast_9 ?_
  refine J.iconst dX1_dropLast_12 kI_1 ?_
  refine J.isubN dX1_dropLast_13 (by omega) ?_
  refine pf_X1_15 rfl hm₉ dX1_dropLast_14 ?_
  refine J.vret rfl (by decide) (by decide) dX1_dropLast_17 ⟨_, rfl, ?_, ?_⟩
  · rfl
  · rfl

set_option maxRecDepth 100000 in
set_option maxHeartbeats 4000000 in
theorem c_l_clear {g : GP} {adr : Nat → Nat} (μ : Mem) {m : Nat} (hm₉ : kt m = 3) : CT g yX1_clear mX1_clear (RM 0 0 0) (WM g adr μ) [.ref (adr m)] (PM g adr (.inl none) (fun μ' => μ' = wr μ m 1 (nI 0))) := by
  refine CT.of (l0 := [some (.ref (adr m))]) (by decide +kernel) rfl (Nat.le_of_ble_eq_true rfl) rfl ?_
  refine J.al0 dX1_clear_0 ?_
  refine J.iconst dX1_clear_1 kI_0 ?_
  refine pf_X1_15 rfl hm₉ dX1_clear_2 ?_
  refine J.vret rfl (by decide) (by decide) dX1_clear_5 ⟨_, rfl, ?_, ?_⟩
  · rfl
  · rfl
