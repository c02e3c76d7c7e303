/-! ===== printed: the model: its helpers ===== -/
set_option maxRecDepth 100000 in
set_option maxHeartbeats 4000000 in
theorem c_m_thrown {g : GP} {adr : Nat → Nat} (μ : Mem) {x : Int32} (hx₉ : μ 237 6 = x) : CT g yX8_thrown mX8_thrown (RM 0 0 0) (WM g adr μ) [.ref (adr 237)] (PM g adr (.inl (some (.int x))) (fun μ' => μ' = μ)) := by
  refine CT.of (l0 := [some (.ref (adr 237))]) (by decide +kernel) rfl (Nat.le_of_ble_eq_true rfl) rfl ?_
  refine J.al0 dX8_thrown_0 ?_
  refine gf_X8_42 rfl (x := x) (by decide) hx₉ dX8_thrown_1 ?_
  refine J.iret rfl (by decide) (by decide) dX8_thrown_4 ⟨_, rfl, ?_, ?_⟩
  · rfl
  · rfl

set_option maxRecDepth 100000 in
set_option maxHeartbeats 4000000 in
theorem c_m_keep {g : GP} {adr : Nat → Nat} (μ : Mem)  : CT g yX8_keep mX8_keep (RM 0 0 0) (WM g adr μ) [.ref (adr 237)] (PM g adr (.inl none) (fun μ' => KP μ' μ ∧ μ' 237 6 = nI 0 ∧ μ' 238 = μ 238 ∧ ∀ o k, o ≠ 239 → (o ≠ 237 ∨ k ≠ 6) → μ' o k = μ o k)) := by
  refine CT.of (l0 := [some (.ref (adr 237))]) (by decide +kernel) rfl (Nat.le_of_ble_eq_true rfl) rfl ?_
  refine J.al0 dX8_keep_0 ?_
  refine J.iconst dX8_keep_1 kI_0 ?_
  refine pf_X8_42 rfl (by decide) dX8_keep_2 ?_
  refine J.al0 dX8_keep_5 ?_
  refine gf_X8_9 rfl (o2 := 238) (by decide) rfl dX8_keep_6 ?_
  refine J.iconst dX8_keep_9 kI_0 ?_
  refine J.al0 dX8_keep_10 ?_
  refine gf_X8_13 rfl (o2 := 239) (by decide) rfl dX8_keep_11 ?_
  refine J.iconst dX8_keep_14 kI_0 ?_
  refine J.sipush dX8_keep_15 kc_352 ?_
  refine J.copy (N1 := 352) (N2 := 352) t_1055 t_317 t_316 t_15 (by decide) (by decide) (by omega) (by omega) (by decide) (by decide) (by decide) (by decide) (by decide) (by decide) dX8_keep_18 ?_
  refine J.vret rfl (by decide) (by decide) dX8_keep_21 ⟨_, rfl, ?_, ?_⟩
  · rfl
  · refine ⟨⟨fun k hk₉ => ?_, fun o k a b c d e q => ?_⟩, ?_, ?_, fun o k h1₉ h2₉ => ?_⟩
    · rw [cpy_in (by omega) (by omega), wr_o (by decide), show 0 + (k - 0) = k by omega]
    · rw [cpy_o b, wr_n (by omega)]
    · rw [cpy_o (by decide), wr_s]
    · rw [cpy_o (by decide), wr_o (by decide)]
    · rw [cpy_o h1₉, wr_n h2₉]

set_option maxRecDepth 100000 in
set_option maxHeartbeats 4000000 in
theorem c_m_endsX {g : GP} {adr : Nat → Nat} (μ : Mem) {x : Int32} {j : Nat} (hT₉ : μ 237 6 = nI j) (hj₉ : 1 ≤ j) (hj2₉ : j < 2147483648) : CT g yX8_ends mX8_ends (RM 0 0 0) (WM g adr μ) [.ref (adr 237), .int x] (PM g adr ((.inl (some (.int (nI 0))))) (fun μ' => (∀ k, k < 352 → μ' 238 k = μ 239 k) ∧ ∀ o, o ≠ 238 → μ' o = μ o)) := by
  refine CT.of (l0 := [some (.ref (adr 237)), some (.int x)]) (by decide +kernel) rfl (Nat.le_of_ble_eq_true rfl) rfl ?_
  refine J.al0 dX8_ends_0 ?_
  refine gf_X8_42 rfl (x := nI j) (by decide) hT₉ dX8_ends_1 ?_
  refine J.if_leN (tgt := 25) dX8_ends_4 (by decide) (by omega) (fun c4₉ => absurd c4₉ (by first | omega | (simp only [not_true_eq_false, not_false_eq_true]; done) | (simp; done))) (fun c4₉ => ?_)
  refine J.al0 dX8_ends_7 ?_
  refine gf_X8_13 rfl (o2 := 239) (by decide) rfl dX8_ends_8 ?_
  refine J.iconst dX8_ends_11 kI_0 ?_
  refine J.al0 dX8_ends_12 ?_
  refine gf_X8_9 rfl (o2 := 238) (by decide) rfl dX8_ends_13 ?_
  refine J.iconst dX8_ends_16 kI_0 ?_
  refine J.sipush dX8_ends_17 kc_352 ?_
  refine J.copy (N1 := 352) (N2 := 352) t_1055 t_317 t_316 t_15 (by decide) (by decide) (by omega) (by omega) (by decide) (by decide) (by decide) (by decide) (by decide) (by decide) dX8_ends_20 ?_
  refine J.iconst dX8_ends_23 kI_0 ?_
  refine J.iret rfl (by decide) (by decide) dX8_ends_24 ⟨_, rfl, ?_, ?_⟩
  · rfl
  · exact ⟨fun k hk₉ => by rw [cpy_in (by omega) (by omega), show 0 + (k - 0) = k by omega], fun o ho₉ => cpy_o ho₉⟩

set_option maxRecDepth 100000 in
set_option maxHeartbeats 4000000 in
theorem c_m_ends {g : GP} {adr : Nat → Nat} (μ : Mem) {x : Int32} {n : Nat} (hT₉ : μ 237 6 = nI 0) (hn₉ : μ 237 5 = nI n) (hn8₉ : n ≤ 8) : CT g yX8_ends mX8_ends (RM 0 0 0) (WM g adr μ) [.ref (adr 237), .int x] (PM g adr (.inl (some (.int x))) (fun μ' => EndP μ' μ n)) := by
  refine CT.of (l0 := [some (.ref (adr 237)), some (.int x)]) (by decide +kernel) rfl (Nat.le_of_ble_eq_true rfl) rfl ?_
  refine J.al0 dX8_ends_0 ?_
  refine gf_X8_42 rfl (x := nI 0) (by decide) hT₉ dX8_ends_1 ?_
  refine J.if_leN (tgt := 25) dX8_ends_4 (by decide) (by omega) (fun c4₉ => ?_) (fun c4₉ => absurd c4₉ (by first | omega | (simp only [not_true_eq_false, not_false_eq_true]; done) | (simp; done)))
  refine J.al0 dX8_ends_25 ?_
  refine gf_X8_51 rfl (x := nI n) (by decide) hn₉ dX8_ends_26 ?_
  refine J.bipush dX8_ends_29 kb_8 ?_
  refine J.icmp_neN (tgt := 62) dX8_ends_31 (by decide) (by omega) (by omega) (fun c31₉ => ?_) (fun c31₉ => ?_)
  · refine J.al0 dX8_ends_62 ?_
    refine gf_X8_13 rfl (o2 := 239) (by decide) rfl dX8_ends_63 ?_
    refine J.iconst dX8_ends_66 kI_0 ?_
    refine J.al0 dX8_ends_67 ?_
    refine gf_X8_19 rfl (o2 := 241) (by decide) rfl dX8_ends_68 ?_
    refine J.sipush dX8_ends_71 kc_352 ?_
    refine J.al0 dX8_ends_74 ?_
    refine gf_X8_51 rfl (x := nI n) (by decide) hn₉ dX8_ends_75 ?_
    refine J.imulN dX8_ends_78 ?_
    refine J.sipush dX8_ends_79 kc_352 ?_
    refine J.copy (N1 := 352) (N2 := 2816) t_1055 t_317 t_316 t_15 (by decide) (by decide) (by omega) (by omega) (by decide) (by decide) (by decide) (by decide) (by decide) (by decide) dX8_ends_82 ?_
    refine J.al0 dX8_ends_85 ?_
    refine J.dup dX8_ends_86 rfl ?_
    refine gf_X8_51 rfl (x := nI n) (by decide) (by rw [cpy_o (by decide)]; exact hn₉) dX8_ends_87 ?_
    refine J.iconst dX8_ends_90 kI_1 ?_
    refine J.iaddN dX8_ends_91 ?_
    refine pf_X8_51 rfl (by decide) dX8_ends_92 ?_
    refine J.il1 dX8_ends_95 ?_
    refine J.iret rfl (by decide) (by decide) dX8_ends_96 ⟨_, rfl, ?_, ?_⟩
    · rfl
    · first | exact endP_full (by assumption) | exact endP_part (by omega)
  · refine J.al0 dX8_ends_34 ?_
    refine gf_X8_19 rfl (o2 := 241) (by decide) rfl dX8_ends_35 ?_
    refine J.sipush dX8_ends_38 kc_352 ?_
    refine J.al0 dX8_ends_41 ?_
    refine gf_X8_19 rfl (o2 := 241) (by decide) rfl dX8_ends_42 ?_
    refine J.iconst dX8_ends_45 kI_0 ?_
    refine J.sipush dX8_ends_46 kc_2464 ?_
    refine J.copy (N1 := 2816) (N2 := 2816) t_1055 t_317 t_316 t_15 (by decide) (by decide) (by omega) (by omega) (by decide) (by decide) (by decide) (by decide) (by decide) (by decide) dX8_ends_49 ?_
    refine J.al0 dX8_ends_52 ?_
    refine J.dup dX8_ends_53 rfl ?_
    refine gf_X8_51 rfl (x := nI n) (by decide) (by rw [cpy_o (by decide)]; exact hn₉) dX8_ends_54 ?_
    refine J.iconst dX8_ends_57 kI_1 ?_
    refine J.isubN dX8_ends_58 (by omega) ?_
    refine pf_X8_51 rfl (by decide) dX8_ends_59 ?_
    refine J.al0 dX8_ends_62 ?_
    refine gf_X8_13 rfl (o2 := 239) (by decide) rfl dX8_ends_63 ?_
    refine J.iconst dX8_ends_66 kI_0 ?_
    refine J.al0 dX8_ends_67 ?_
    refine gf_X8_19 rfl (o2 := 241) (by decide) rfl dX8_ends_68 ?_
    refine J.sipush dX8_ends_71 kc_352 ?_
    refine J.al0 dX8_ends_74 ?_
    refine gf_X8_51 rfl (x := nI (n - 1)) (by decide) wr_s dX8_ends_75 ?_
    refine J.imulN dX8_ends_78 ?_
    refine J.sipush dX8_ends_79 kc_352 ?_
    refine J.copy (N1 := 352) (N2 := 2816) t_1055 t_317 t_316 t_15 (by decide) (by decide) (by omega) (by omega) (by decide) (by decide) (by decide) (by decide) (by decide) (by decide) dX8_ends_82 ?_
    refine J.al0 dX8_ends_85 ?_
    refine J.dup dX8_ends_86 rfl ?_
    refine gf_X8_51 rfl (x := nI (n - 1)) (by decide) (by rw [cpy_o (by decide)]; exact wr_s) dX8_ends_87 ?_
    refine J.iconst dX8_ends_90 kI_1 ?_
    refine J.iaddN dX8_ends_91 ?_
    refine pf_X8_51 rfl (by decide) dX8_ends_92 ?_
    refine J.il1 dX8_ends_95 ?_
    refine J.iret rfl (by decide) (by decide) dX8_ends_96 ⟨_, rfl, ?_, ?_⟩
    · rfl
    · first | exact endP_full (by assumption) | exact endP_part (by omega)

set_option maxRecDepth 100000 in
set_option maxHeartbeats 4000000 in
theorem c_m_fails {g : GP} {adr : Nat → Nat} (μ : Mem) {j : Nat} : CT g yX8_fails mX8_fails (RM 0 0 0) (WM g adr μ) [.ref (adr 237), .int (nI j)] (PM g adr ((.inl (some (.int (nI 0))))) (fun μ' => μ' = wr μ 237 6 (nI j))) := by
  refine CT.of (l0 := [some (.ref (adr 237)), some (.int (nI j))]) (by decide +kernel) rfl (Nat.le_of_ble_eq_true rfl) rfl ?_
  refine J.al0 dX8_fails_0 ?_
  refine J.il1 dX8_fails_1 ?_
  refine pf_X8_42 rfl (by decide) dX8_fails_2 ?_
  refine J.iconst dX8_fails_5 kI_0 ?_
  refine J.iret rfl (by decide) (by decide) dX8_fails_6 ⟨_, rfl, ?_, ?_⟩
  · rfl
  · rfl

set_option maxRecDepth 100000 in
set_option maxHeartbeats 4000000 in
theorem c_m_refuse {g : GP} {adr : Nat → Nat} (μ : Mem) {p a d : Nat} : CT g yX8_refuse mX8_refuse (RM 0 0 0) (WM g adr μ) [.ref (adr 237), .int (nI p), .int (nI a), .int (nI d)] (PM g adr ((.inl (some (.int (nI 0))))) (fun μ' => μ' = wr (wr (wr μ 237 6 (nI p)) 237 7 (nI a)) 237 8 (nI d))) := by
  refine CT.of (l0 := [some (.ref (adr 237)), some (.int (nI p)), some (.int (nI a)), some (.int (nI d))]) (by decide +kernel) rfl (Nat.le_of_ble_eq_true rfl) rfl ?_
  refine J.al0 dX8_refuse_0 ?_
  refine J.il1 dX8_refuse_1 ?_
  refine pf_X8_42 rfl (by decide) dX8_refuse_2 ?_
  refine J.al0 dX8_refuse_5 ?_
  refine J.il2 dX8_refuse_6 ?_
  refine pf_X8_54 rfl (by decide) dX8_refuse_7 ?_
  refine J.al0 dX8_refuse_10 ?_
  refine J.il3 dX8_refuse_11 ?_
  refine pf_X8_57 rfl (by decide) dX8_refuse_12 ?_
  refine J.iconst dX8_refuse_15 kI_0 ?_
  refine J.iret rfl (by decide) (by decide) dX8_refuse_16 ⟨_, rfl, ?_, ?_⟩
  · rfl
  · rfl
