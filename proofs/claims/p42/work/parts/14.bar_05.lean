/-! ===== printed: the barrel, the log, the signs ===== -/
set_option maxRecDepth 100000 in
set_option maxHeartbeats 4000000 in
theorem c_s_size {g : GP} {adr : Nat → Nat} (μ : Mem) {q x : Nat} (hq₉ : kt q = 9) (hx₉ : μ q 1 = nI x) : CT g yX5_size mX5_size (RM 0 0 0) (WM g adr μ) [.ref (adr q)] (PM g adr ((.inl (some (.int (nI x))))) (fun μ' => μ' = μ)) := by
  refine CT.of (l0 := [some (.ref (adr q))]) (by decide +kernel) rfl (Nat.le_of_ble_eq_true rfl) rfl ?_
  refine J.al0 dX5_size_0 ?_
  refine gf_X5_17 rfl (x := nI x) hq₉ (hx₉) dX5_size_1 ?_
  refine J.iret rfl (by decide) (by decide) dX5_size_4 ⟨_, rfl, ?_, ?_⟩
  · rfl
  · rfl

set_option maxRecDepth 100000 in
set_option maxHeartbeats 4000000 in
theorem c_s_clear {g : GP} {adr : Nat → Nat} (μ : Mem) {q : Nat} (hq₉ : kt q = 9) : CT g yX5_clear mX5_clear (RM 0 0 0) (WM g adr μ) [.ref (adr q)] (PM g adr (.inl none) (fun μ' => μ' = wr μ q 1 (nI 0))) := by
  refine CT.of (l0 := [some (.ref (adr q))]) (by decide +kernel) rfl (Nat.le_of_ble_eq_true rfl) rfl ?_
  refine J.al0 dX5_clear_0 ?_
  refine J.iconst dX5_clear_1 kI_0 ?_
  refine pf_X5_17 rfl hq₉ dX5_clear_2 ?_
  refine J.vret rfl (by decide) (by decide) dX5_clear_5 ⟨_, rfl, ?_, ?_⟩
  · rfl
  · rfl

set_option maxRecDepth 100000 in
set_option maxHeartbeats 4000000 in
theorem c_signAt {g : GP} {adr : Nat → Nat} (μ : Mem) {q x i : Nat} {f : Nat → Nat} (hq₉ : kt q = 9) (hx₉ : μ q 1 = nI x) (hx2₉ : x ≤ 120) (hi₉ : i < x) (hf₉ : ∀ k, k < x → μ (q + 1) k = nI (f k)) : CT g yX5_signAt mX5_signAt (RM 0 0 0) (WM g adr μ) [.ref (adr q), .int (nI i)] (PM g adr ((.inl (some (.int (nI (f i)))))) (fun μ' => μ' = μ)) := by
  refine CT.of (l0 := [some (.ref (adr q)), some (.int (nI i))]) (by decide +kernel) rfl (Nat.le_of_ble_eq_true rfl) rfl ?_
  have hq1₉ := kt_sg hq₉
  refine J.il1 dX5_signAt_0 ?_
  refine J.if_ltN (tgt := 27) dX5_signAt_1 (by decide) (by omega) (fun c1₉ => absurd c1₉ (by first | omega | (simp only [not_true_eq_false, not_false_eq_true]; done) | (simp; done))) (fun c1₉ => ?_)
  refine J.il1 dX5_signAt_4 ?_
  refine J.al0 dX5_signAt_5 ?_
  refine gf_X5_17 rfl (x := nI x) hq₉ (hx₉) dX5_signAt_6 ?_
  refine J.icmp_geN (tgt := 27) dX5_signAt_9 (by decide) (by omega) (by omega) (fun c9₉ => absurd c9₉ (by first | omega | (simp only [not_true_eq_false, not_false_eq_true]; done) | (simp; done))) (fun c9₉ => ?_)
  refine J.il1 dX5_signAt_12 ?_
  refine J.bipush dX5_signAt_13 kb_120 ?_
  refine J.icmp_geN (tgt := 27) dX5_signAt_15 (by decide) (by omega) (by omega) (fun c15₉ => absurd c15₉ (by first | omega | (simp only [not_true_eq_false, not_false_eq_true]; done) | (simp; done))) (fun c15₉ => ?_)
  refine J.al0 dX5_signAt_18 ?_
  refine gf_X5_13 rfl (o2 := q + 1) hq₉ rfl dX5_signAt_19 ?_
  refine J.il1 dX5_signAt_22 ?_
  refine J.cald (N := 120) (x := nI (f i)) hq1₉ (by decide) (by omega) (hf₉ i (by omega)) dX5_signAt_23 ?_
  refine J.goto (tgt := 28) dX5_signAt_24 (by decide) ?_
  refine J.iret rfl (by decide) (by decide) dX5_signAt_28 ⟨_, rfl, ?_, ?_⟩
  · rfl
  · rfl

set_option maxRecDepth 100000 in
set_option maxHeartbeats 4000000 in
theorem c_signAtE {g : GP} {adr : Nat → Nat} (μ : Mem) {q x i : Nat} (hq₉ : kt q = 9) (hx₉ : μ q 1 = nI x) (hx2₉ : x ≤ 120) (hi₉ : x ≤ i) (hi2₉ : i < 2147483648) : CT g yX5_signAt mX5_signAt (RM 0 0 0) (WM g adr μ) [.ref (adr q), .int (nI i)] (PM g adr ((.inl (some (.int (-1))))) (fun μ' => μ' = μ)) := by
  refine CT.of (l0 := [some (.ref (adr q)), some (.int (nI i))]) (by decide +kernel) rfl (Nat.le_of_ble_eq_true rfl) rfl ?_
  have hq1₉ := kt_sg hq₉
  refine J.il1 dX5_signAt_0 ?_
  refine J.if_ltN (tgt := 27) dX5_signAt_1 (by decide) (by omega) (fun c1₉ => absurd c1₉ (by first | omega | (simp only [not_true_eq_false, not_false_eq_true]; done) | (simp; done))) (fun c1₉ => ?_)
  refine J.il1 dX5_signAt_4 ?_
  refine J.al0 dX5_signAt_5 ?_
  refine gf_X5_17 rfl (x := nI x) hq₉ (hx₉) dX5_signAt_6 ?_
  refine J.icmp_geN (tgt := 27) dX5_signAt_9 (by decide) (by omega) (by omega) (fun c9₉ => ?_) (fun c9₉ => absurd c9₉ (by first | omega | (simp only [not_true_eq_false, not_false_eq_true]; done) | (simp; done)))
  refine J.iconst (v := -1) dX5_signAt_27 (by decide) ?_
  refine J.iret rfl (by decide) (by decide) dX5_signAt_28 ⟨_, rfl, ?_, ?_⟩
  · rfl
  · rfl

set_option maxRecDepth 100000 in
set_option maxHeartbeats 4000000 in
theorem c_addSign {g : GP} {adr : Nat → Nat} (μ : Mem) {q x a : Nat} (hq₉ : kt q = 9) (hx₉ : μ q 1 = nI x) (hx2₉ : x < 120) (ha₉ : a < 65536) : CT g yX5_addSign mX5_addSign (RM 1 0 0) (WM g adr μ) [.ref (adr q), .int (nI a)] (PM g adr (.inl none) (fun μ' => μ' = wr (wr μ (q + 1) x (nI a)) q 1 (nI (x + 1)))) := by
  refine CT.of (l0 := [some (.ref (adr q)), some (.int (nI a))]) (by decide +kernel) rfl (Nat.le_of_ble_eq_true rfl) rfl ?_
  have hq1₉ := kt_sg hq₉
  refine J.al0 dX5_addSign_0 ?_
  refine gf_X5_17 rfl (x := nI x) hq₉ (hx₉) dX5_addSign_1 ?_
  refine J.bipush dX5_addSign_4 kb_120 ?_
  refine cl_X5_21 rfl (k' := 0) (n' := 0) (isIndexT (by omega) (by omega)) ⟨⟨by decide, by decide⟩, ⟨rfl, rfl⟩, by decide, by decide⟩ rfl dX5_addSign_6 (fun μ9 h9₉ => ?_)
  rw [h9₉]; clear h9₉
  refine J.if_eqN (tgt := 32) dX5_addSign_9 (by decide) (by omega) (fun c9₉ => absurd c9₉ (by first | omega | (simp only [not_true_eq_false, not_false_eq_true]; done) | (simp; done))) (fun c9₉ => ?_)
  refine J.al0 dX5_addSign_12 ?_
  refine gf_X5_13 rfl (o2 := q + 1) hq₉ rfl dX5_addSign_13 ?_
  refine J.al0 dX5_addSign_16 ?_
  refine gf_X5_17 rfl (x := nI x) hq₉ (hx₉) dX5_addSign_17 ?_
  refine J.il1 dX5_addSign_20 ?_
  refine J.cast (N := 120) hq1₉ (by decide) (by omega) (nar_c (by omega)) dX5_addSign_21 ?_
  refine J.al0 dX5_addSign_22 ?_
  refine J.dup dX5_addSign_23 rfl ?_
  refine gf_X5_17 rfl (x := nI x) hq₉ (by rw [wr_n (by omega)]; exact hx₉) dX5_addSign_24 ?_
  refine J.iconst dX5_addSign_27 kI_1 ?_
  refine J.iaddN dX5_addSign_28 ?_
  refine pf_X5_17 rfl hq₉ dX5_addSign_29 ?_
  refine J.vret rfl (by decide) (by decide) dX5_addSign_32 ⟨_, rfl, ?_, ?_⟩
  · rfl
  · rfl
