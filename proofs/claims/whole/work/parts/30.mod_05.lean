/-! ===== printed: the model: its helpers ===== -/
set_option maxRecDepth 100000 in
set_option maxHeartbeats 4000000 in
theorem c_m_puts {g : GP} {adr : Nat → Nat} (μ : Mem) {a i : Nat} {F : Nat → Nat} {σ : AS} (ha₉ : a < 200) (hi₉ : i < 5) (hF₉ : PoolR μ a F) (hBF₉ : Bij F) (hS₉ : MS μ 238 0 σ) : CT g yX8_puts mX8_puts (RM 1 0 0) (WM g adr μ) [.ref (adr 237), .int (nI a), .int (nI i)] (PM g adr ((.inl (some (.int (nI (cnt (fun k => decide (F k ≠ k)) 32)))))) (fun μ' => MS μ' 238 0 (sPut i F σ) ∧ ∀ o, o ≠ 238 → μ' o = μ o)) := by
  refine CT.of (l0 := [some (.ref (adr 237)), some (.int (nI a)), some (.int (nI i))]) (by decide +kernel) rfl (Nat.le_of_ble_eq_true rfl) rfl ?_
  refine J.al0 dX8_puts_0 ?_
  refine gf_X8_9 rfl (o2 := 238) (by decide) rfl dX8_puts_1 ?_
  refine J.iconst dX8_puts_4 kI_3 ?_
  refine J.il2 dX8_puts_5 ?_
  refine J.iaddN dX8_puts_6 ?_
  refine J.iconst dX8_puts_7 kI_1 ?_
  refine J.iast (N := 352) (by decide) (by decide) (by decide) (by omega) dX8_puts_8 ?_
  refine J.al0 dX8_puts_9 ?_
  refine gf_X8_22 rfl (o2 := 242) (by decide) rfl dX8_puts_10 ?_
  refine J.bipush dX8_puts_13 kb_32 ?_
  refine J.il1 dX8_puts_15 ?_
  refine J.imulN dX8_puts_16 ?_
  refine J.al0 dX8_puts_17 ?_
  refine gf_X8_9 rfl (o2 := 238) (by decide) rfl dX8_puts_18 ?_
  refine J.sipush dX8_puts_21 kc_192 ?_
  refine J.bipush dX8_puts_24 kb_32 ?_
  refine J.il2 dX8_puts_26 ?_
  refine J.imulN dX8_puts_27 ?_
  refine J.iaddN dX8_puts_28 ?_
  refine J.bipush dX8_puts_29 kb_32 ?_
  refine J.copy (N1 := 6400) (N2 := 352) t_1055 t_317 t_316 t_15 (by decide) (by decide) (by omega) (by omega) (by decide) (by decide) (by decide) (by decide) (by decide) (by decide) dX8_puts_31 ?_
  refine J.al0 dX8_puts_34 ?_
  refine J.il1 dX8_puts_35 ?_
  refine cl_X8_79 rfl (by decide) (k' := 0) (n' := 0) (c_m_movedBy _ ha₉ (fun k hk₉ => by rw [cpy_o (by decide), wr_o (by decide)]; exact hF₉ k hk₉)) ⟨⟨by decide, by decide⟩, ⟨rfl, rfl⟩, by decide, by decide⟩ rfl dX8_puts_36 (fun μ9 h9₉ => ?_)
  rw [h9₉]; clear h9₉
  refine J.iret rfl (by decide) (by decide) dX8_puts_39 ⟨_, rfl, ?_, ?_⟩
  · rfl
  · refine ⟨hS₉.sPut hi₉ hBF₉ ?_ (fun k hk₉ => ?_) (fun k h1₉ h2₉ => ?_), fun o ho₉ => by rw [cpy_o ho₉, wr_o ho₉]⟩
    · rw [cpy_out (by omega)]; exact wr_s
    · rw [cpy_in (by omega) (by omega), wr_o (by decide), show 32 * a + (192 + 32 * i + k - (192 + 32 * i)) = 32 * a + k by omega]; exact (hF₉ k hk₉).1
    · rw [cpy_out (by omega), wr_n (Or.inr h1₉)]

set_option maxRecDepth 100000 in
set_option maxHeartbeats 4000000 in
theorem c_m_moves0 {g : GP} {adr : Nat → Nat} (μ : Mem) {w b : Nat} {σ : AS} (hm₉ : mvOK 0 w b) (hS₉ : MS μ 238 0 σ) : CT g yX8_moves mX8_moves (RM 2 0 0) (WM g adr μ) [.ref (adr 237), .int (nI 0), .int (nI w), .int (nI b)] (PM g adr (.inl none) (fun μ' => MS μ' 238 0 (mvS 0 w b σ) ∧ KT μ' μ)) := by
  refine CT.of (l0 := [some (.ref (adr 237)), some (.int (nI 0)), some (.int (nI w)), some (.int (nI b)), none]) (by decide +kernel) rfl (Nat.le_of_ble_eq_true rfl) rfl ?_
  have hBF₉ : Bij (moveF 0 w b) := moveF_bij (mv_lt hm₉)
  have hln₉ := hS₉.ln
  refine J.al0 dX8_moves_0 ?_
  refine J.iconst dX8_moves_1 kI_0 ?_
  refine pf_X8_60 rfl (by decide) dX8_moves_2 ?_
  refine J.al0 dX8_moves_5 ?_
  refine J.al0 dX8_moves_6 ?_
  refine J.il1 dX8_moves_7 ?_
  refine J.il2 dX8_moves_8 ?_
  refine J.il3 dX8_moves_9 ?_
  refine cl_X8_82 rfl (by decide) (k' := 0) (n' := 0) (c_m_move0 _ (r := 0) wr_s (by decide) hm₉) ⟨⟨by decide, by decide⟩, ⟨rfl, rfl⟩, by decide, by decide⟩ rfl dX8_moves_10 (fun μ2 ⟨hP2₉, hc2₉, hr3₉, hF2₉⟩ => ?_)
  refine cl_X8_86 rfl (by decide) (k' := 0) (n' := 0) (c_m_does _ (by decide) hP2₉ hBF₉ (f := aAt σ) (fun k hk₉ => by rw [hF2₉.s, wr_o (by decide)]; exact hS₉.rAt hk₉)) ⟨⟨by decide, by decide⟩, ⟨rfl, rfl⟩, by decide, by decide⟩ rfl dX8_moves_13 (fun μ3 ⟨hA3₉, hK3₉, hO3₉⟩ => ?_)
  have hM2₉ : MS μ2 238 0 σ := hS₉.off (by rw [hF2₉.s, wr_o (by decide)])
  have hM3₉ : MS μ3 238 0 (sDo (moveF 0 w b) σ) := hM2₉.sDo hBF₉ hA3₉ hK3₉
  have hKT3₉ : KT μ3 μ := fun o k a b c d e => by rw [hO3₉ o a d, hF2₉.2.2 o k b c e, wr_n e]
  refine J.al0 dX8_moves_16 ?_
  refine gf_X8_9 rfl (o2 := 238) (by decide) rfl dX8_moves_17 ?_
  refine J.iconst dX8_moves_20 kI_1 ?_
  refine J.dup2 dX8_moves_21 rfl rfl ?_
  refine J.iald (N := 352) (x := nI (aMv σ)) (by decide) (by decide) (by decide) (by omega) hM3₉.rMv dX8_moves_22 ?_
  refine J.iconst dX8_moves_23 kI_1 ?_
  refine J.iaddN dX8_moves_24 ?_
  refine J.iast (N := 352) (by decide) (by decide) (by decide) (by omega) dX8_moves_25 ?_
  have hM4₉ : MS (wr μ3 238 1 (nI (aMv σ + 1))) 238 0 (sMv (sDo (moveF 0 w b) σ)) := hM3₉.sMv wr_s (fun k hk₉ => wr_n (Or.inr hk₉))
  refine J.al0 dX8_moves_26 ?_
  refine gf_X8_9 rfl (o2 := 238) (by decide) rfl dX8_moves_27 ?_
  refine J.iconst dX8_moves_30 kI_0 ?_
  refine J.iald (N := 352) (x := nI (aLn σ)) (by decide) (by decide) (by decide) (by omega) (by rw [wr_n (by omega)]; exact hM3₉.rLn) dX8_moves_31 ?_
  refine J.bipush dX8_moves_32 kb_40 ?_
  refine J.icmp_neN (tgt := 64) dX8_moves_34 (by decide) (by omega) (by omega) (fun c34₉ => ?_) (fun c34₉ => ?_)
  · refine J.bipush dX8_moves_64 kb_72 ?_
    refine J.iconst dX8_moves_66 kI_3 ?_
    refine J.al0 dX8_moves_67 ?_
    refine gf_X8_9 rfl (o2 := 238) (by decide) rfl dX8_moves_68 ?_
    refine J.iconst dX8_moves_71 kI_0 ?_
    refine J.iald (N := 352) (x := nI (aLn σ)) (by decide) (by decide) (by decide) (by omega) (by rw [wr_n (by omega)]; exact hM3₉.rLn) dX8_moves_72 ?_
    refine J.imulN dX8_moves_73 ?_
    refine J.iaddN dX8_moves_74 ?_
    refine J.is4 dX8_moves_75 (by decide) rfl ?_
    refine J.al0 dX8_moves_77 ?_
    refine gf_X8_9 rfl (o2 := 238) (by decide) rfl dX8_moves_78 ?_
    refine J.il4 dX8_moves_81 ?_
    refine J.il1 dX8_moves_83 ?_
    refine J.if_eqN (tgt := 91) dX8_moves_84 (by decide) (by omega) (fun c84₉ => ?_) (fun c84₉ => absurd c84₉ (by first | omega | (simp only [not_true_eq_false, not_false_eq_true]; done) | (simp; done)))
    refine J.iconst dX8_moves_91 kI_0 ?_
    refine J.iast (N := 352) (by decide) (by decide) (by decide) (by omega) dX8_moves_92 ?_
    refine J.al0 dX8_moves_93 ?_
    refine gf_X8_9 rfl (o2 := 238) (by decide) rfl dX8_moves_94 ?_
    refine J.il4 dX8_moves_97 ?_
    refine J.iconst dX8_moves_99 kI_1 ?_
    refine J.iaddN dX8_moves_100 ?_
    refine J.il2 dX8_moves_101 ?_
    refine J.iast (N := 352) (by decide) (by decide) (by decide) (by omega) dX8_moves_102 ?_
    refine J.al0 dX8_moves_103 ?_
    refine gf_X8_9 rfl (o2 := 238) (by decide) rfl dX8_moves_104 ?_
    refine J.il4 dX8_moves_107 ?_
    refine J.iconst dX8_moves_109 kI_2 ?_
    refine J.iaddN dX8_moves_110 ?_
    refine J.il3 dX8_moves_111 ?_
    refine J.iast (N := 352) (by decide) (by decide) (by decide) (by omega) dX8_moves_112 ?_
    refine J.al0 dX8_moves_113 ?_
    refine gf_X8_9 rfl (o2 := 238) (by decide) rfl dX8_moves_114 ?_
    refine J.iconst dX8_moves_117 kI_0 ?_
    refine J.dup2 dX8_moves_118 rfl rfl ?_
    refine J.iald (N := 352) (x := nI (aLn σ)) (by decide) (by decide) (by decide) (by omega) (by rw [wr_n (by omega)]; rw [wr_n (by omega)]; rw [wr_n (by omega)]; rw [wr_n (by omega)]; exact hM3₉.rLn) dX8_moves_119 ?_
    refine J.iconst dX8_moves_120 kI_1 ?_
    refine J.iaddN dX8_moves_121 ?_
    refine J.iast (N := 352) (by decide) (by decide) (by decide) (by omega) dX8_moves_122 ?_
    refine J.vret rfl (by decide) (by decide) dX8_moves_123 ⟨_, rfl, ?_, ?_⟩
    · rfl
    · obtain ⟨e1, e2, e3⟩ := mlog_part (a := 0) (w := w) (b := b) (f := aLg σ) (x := aLn σ) hM4₉.2.2.2.2.2.2.1 (by omega)
      exact ⟨hM4₉.sLog hm₉ e1 e2 e3, fun o k a b c d e => by simp only [wr_o a, cpy_o a]; exact hKT3₉ o k a b c d e⟩
  · refine J.al0 dX8_moves_37 ?_
    refine gf_X8_9 rfl (o2 := 238) (by decide) rfl dX8_moves_38 ?_
    refine J.bipush dX8_moves_41 kb_75 ?_
    refine J.al0 dX8_moves_43 ?_
    refine gf_X8_9 rfl (o2 := 238) (by decide) rfl dX8_moves_44 ?_
    refine J.bipush dX8_moves_47 kb_72 ?_
    refine J.bipush dX8_moves_49 kb_117 ?_
    refine J.copy (N1 := 352) (N2 := 352) t_1055 t_317 t_316 t_15 (by decide) (by decide) (by omega) (by omega) (by decide) (by decide) (by decide) (by decide) (by decide) (by decide) dX8_moves_51 ?_
    refine J.al0 dX8_moves_54 ?_
    refine gf_X8_9 rfl (o2 := 238) (by decide) rfl dX8_moves_55 ?_
    refine J.iconst dX8_moves_58 kI_0 ?_
    refine J.dup2 dX8_moves_59 rfl rfl ?_
    refine J.iald (N := 352) (x := nI (aLn σ)) (by decide) (by decide) (by decide) (by omega) (by rw [cpy_out (by omega), wr_n (by omega)]; exact hM3₉.rLn) dX8_moves_60 ?_
    refine J.iconst dX8_moves_61 kI_1 ?_
    refine J.isubN dX8_moves_62 (by omega) ?_
    refine J.iast (N := 352) (by decide) (by decide) (by decide) (by omega) dX8_moves_63 ?_
    refine J.bipush dX8_moves_64 kb_72 ?_
    refine J.iconst dX8_moves_66 kI_3 ?_
    refine J.al0 dX8_moves_67 ?_
    refine gf_X8_9 rfl (o2 := 238) (by decide) rfl dX8_moves_68 ?_
    refine J.iconst dX8_moves_71 kI_0 ?_
    refine J.iald (N := 352) (x := nI ((aLn σ) - 1)) (by decide) (by decide) (by decide) (by omega) wr_s dX8_moves_72 ?_
    refine J.imulN dX8_moves_73 ?_
    refine J.iaddN dX8_moves_74 ?_
    refine J.is4 dX8_moves_75 (by decide) rfl ?_
    refine J.al0 dX8_moves_77 ?_
    refine gf_X8_9 rfl (o2 := 238) (by decide) rfl dX8_moves_78 ?_
    refine J.il4 dX8_moves_81 ?_
    refine J.il1 dX8_moves_83 ?_
    refine J.if_eqN (tgt := 91) dX8_moves_84 (by decide) (by omega) (fun c84₉ => ?_) (fun c84₉ => absurd c84₉ (by first | omega | (simp only [not_true_eq_false, not_false_eq_true]; done) | (simp; done)))
    refine J.iconst dX8_moves_91 kI_0 ?_
    refine J.iast (N := 352) (by decide) (by decide) (by decide) (by omega) dX8_moves_92 ?_
    refine J.al0 dX8_moves_93 ?_
    refine gf_X8_9 rfl (o2 := 238) (by decide) rfl dX8_moves_94 ?_
    refine J.il4 dX8_moves_97 ?_
    refine J.iconst dX8_moves_99 kI_1 ?_
    refine J.iaddN dX8_moves_100 ?_
    refine J.il2 dX8_moves_101 ?_
    refine J.iast (N := 352) (by decide) (by decide) (by decide) (by omega) dX8_moves_102 ?_
    refine J.al0 dX8_moves_103 ?_
    refine gf_X8_9 rfl (o2 := 238) (by decide) rfl dX8_moves_104 ?_
    refine J.il4 dX8_moves_107 ?_
    refine J.iconst dX8_moves_109 kI_2 ?_
    refine J.iaddN dX8_moves_110 ?_
    refine J.il3 dX8_moves_111 ?_
    refine J.iast (N := 352) (by decide) (by decide) (by decide) (by omega) dX8_moves_112 ?_
    refine J.al0 dX8_moves_113 ?_
    refine gf_X8_9 rfl (o2 := 238) (by decide) rfl dX8_moves_114 ?_
    refine J.iconst dX8_moves_117 kI_0 ?_
    refine J.dup2 dX8_moves_118 rfl rfl ?_
    refine J.iald (N := 352) (x := nI ((aLn σ) - 1)) (by decide) (by decide) (by decide) (by omega) (by rw [wr_n (by omega)]; rw [wr_n (by omega)]; rw [wr_n (by omega)]; exact wr_s) dX8_moves_119 ?_
    refine J.iconst dX8_moves_120 kI_1 ?_
    refine J.iaddN dX8_moves_121 ?_
    refine J.iast (N := 352) (by decide) (by decide) (by decide) (by omega) dX8_moves_122 ?_
    refine J.vret rfl (by decide) (by decide) dX8_moves_123 ⟨_, rfl, ?_, ?_⟩
    · rfl
    · obtain ⟨e1, e2, e3⟩ := mlog_full (a := 0) (w := w) (b := b) (f := aLg σ) (x := aLn σ) hM4₉.2.2.2.2.2.2.1 c34₉
      exact ⟨hM4₉.sLog hm₉ e1 e2 e3, fun o k a b c d e => by simp only [wr_o a, cpy_o a]; exact hKT3₉ o k a b c d e⟩

set_option maxRecDepth 100000 in
set_option maxHeartbeats 4000000 in
theorem c_m_moves1 {g : GP} {adr : Nat → Nat} (μ : Mem) {w b : Nat} {σ : AS} (hm₉ : mvOK 1 w b) (hS₉ : MS μ 238 0 σ) : CT g yX8_moves mX8_moves (RM 2 0 0) (WM g adr μ) [.ref (adr 237), .int (nI 1), .int (nI w), .int (nI b)] (PM g adr (.inl none) (fun μ' => MS μ' 238 0 (mvS 1 w b σ) ∧ KT μ' μ)) := by
  refine CT.of (l0 := [some (.ref (adr 237)), some (.int (nI 1)), some (.int (nI w)), some (.int (nI b)), none]) (by decide +kernel) rfl (Nat.le_of_ble_eq_true rfl) rfl ?_
  have hBF₉ : Bij (moveF 1 w b) := moveF_bij (mv_lt hm₉)
  have hln₉ := hS₉.ln
  refine J.al0 dX8_moves_0 ?_
  refine J.iconst dX8_moves_1 kI_0 ?_
  refine pf_X8_60 rfl (by decide) dX8_moves_2 ?_
  refine J.al0 dX8_moves_5 ?_
  refine J.al0 dX8_moves_6 ?_
  refine J.il1 dX8_moves_7 ?_
  refine J.il2 dX8_moves_8 ?_
  refine J.il3 dX8_moves_9 ?_
  refine cl_X8_82 rfl (by decide) (k' := 0) (n' := 0) (c_m_move1 _ (r := 0) wr_s (by decide) hm₉) ⟨⟨by decide, by decide⟩, ⟨rfl, rfl⟩, by decide, by decide⟩ rfl dX8_moves_10 (fun μ2 ⟨hP2₉, hc2₉, hr3₉, hF2₉⟩ => ?_)
  refine cl_X8_86 rfl (by decide) (k' := 0) (n' := 0) (c_m_does _ (by decide) hP2₉ hBF₉ (f := aAt σ) (fun k hk₉ => by rw [hF2₉.s, wr_o (by decide)]; exact hS₉.rAt hk₉)) ⟨⟨by decide, by decide⟩, ⟨rfl, rfl⟩, by decide, by decide⟩ rfl dX8_moves_13 (fun μ3 ⟨hA3₉, hK3₉, hO3₉⟩ => ?_)
  have hM2₉ : MS μ2 238 0 σ := hS₉.off (by rw [hF2₉.s, wr_o (by decide)])
  have hM3₉ : MS μ3 238 0 (sDo (moveF 1 w b) σ) := hM2₉.sDo hBF₉ hA3₉ hK3₉
  have hKT3₉ : KT μ3 μ := fun o k a b c d e => by rw [hO3₉ o a d, hF2₉.2.2 o k b c e, wr_n e]
  refine J.al0 dX8_moves_16 ?_
  refine gf_X8_9 rfl (o2 := 238) (by decide) rfl dX8_moves_17 ?_
  refine J.iconst dX8_moves_20 kI_1 ?_
  refine J.dup2 dX8_moves_21 rfl rfl ?_
  refine J.iald (N := 352) (x := nI (aMv σ)) (by decide) (by decide) (by decide) (by omega) hM3₉.rMv dX8_moves_22 ?_
  refine J.iconst dX8_moves_23 kI_1 ?_
  refine J.iaddN dX8_moves_24 ?_
  refine J.iast (N := 352) (by decide) (by decide) (by decide) (by omega) dX8_moves_25 ?_
  have hM4₉ : MS (wr μ3 238 1 (nI (aMv σ + 1))) 238 0 (sMv (sDo (moveF 1 w b) σ)) := hM3₉.sMv wr_s (fun k hk₉ => wr_n (Or.inr hk₉))
  refine J.al0 dX8_moves_26 ?_
  refine gf_X8_9 rfl (o2 := 238) (by decide) rfl dX8_moves_27 ?_
  refine J.iconst dX8_moves_30 kI_0 ?_
  refine J.iald (N := 352) (x := nI (aLn σ)) (by decide) (by decide) (by decide) (by omega) (by rw [wr_n (by omega)]; exact hM3₉.rLn) dX8_moves_31 ?_
  refine J.bipush dX8_moves_32 kb_40 ?_
  refine J.icmp_neN (tgt := 64) dX8_moves_34 (by decide) (by omega) (by omega) (fun c34₉ => ?_) (fun c34₉ => ?_)
  · refine J.bipush dX8_moves_64 kb_72 ?_
    refine J.iconst dX8_moves_66 kI_3 ?_
    refine J.al0 dX8_moves_67 ?_
    refine gf_X8_9 rfl (o2 := 238) (by decide) rfl dX8_moves_68 ?_
    refine J.iconst dX8_moves_71 kI_0 ?_
    refine J.iald (N := 352) (x := nI (aLn σ)) (by decide) (by decide) (by decide) (by omega) (by rw [wr_n (by omega)]; exact hM3₉.rLn) dX8_moves_72 ?_
    refine J.imulN dX8_moves_73 ?_
    refine J.iaddN dX8_moves_74 ?_
    refine J.is4 dX8_moves_75 (by decide) rfl ?_
    refine J.al0 dX8_moves_77 ?_
    refine gf_X8_9 rfl (o2 := 238) (by decide) rfl dX8_moves_78 ?_
    refine J.il4 dX8_moves_81 ?_
    refine J.il1 dX8_moves_83 ?_
    refine J.if_eqN (tgt := 91) dX8_moves_84 (by decide) (by omega) (fun c84₉ => absurd c84₉ (by first | omega | (simp only [not_true_eq_false, not_false_eq_true]; done) | (simp; done))) (fun c84₉ => ?_)
    refine J.iconst dX8_moves_87 kI_1 ?_
    refine J.goto (tgt := 92) dX8_moves_88 (by decide) ?_
    refine J.iast (N := 352) (by decide) (by decide) (by decide) (by omega) dX8_moves_92 ?_
    refine J.al0 dX8_moves_93 ?_
    refine gf_X8_9 rfl (o2 := 238) (by decide) rfl dX8_moves_94 ?_
    refine J.il4 dX8_moves_97 ?_
    refine J.iconst dX8_moves_99 kI_1 ?_
    refine J.iaddN dX8_moves_100 ?_
    refine J.il2 dX8_moves_101 ?_
    refine J.iast (N := 352) (by decide) (by decide) (by decide) (by omega) dX8_moves_102 ?_
    refine J.al0 dX8_moves_103 ?_
    refine gf_X8_9 rfl (o2 := 238) (by decide) rfl dX8_moves_104 ?_
    refine J.il4 dX8_moves_107 ?_
    refine J.iconst dX8_moves_109 kI_2 ?_
    refine J.iaddN dX8_moves_110 ?_
    refine J.il3 dX8_moves_111 ?_
    refine J.iast (N := 352) (by decide) (by decide) (by decide) (by omega) dX8_moves_112 ?_
    refine J.al0 dX8_moves_113 ?_
    refine gf_X8_9 rfl (o2 := 238) (by decide) rfl dX8_moves_114 ?_
    refine J.iconst dX8_moves_117 kI_0 ?_
    refine J.dup2 dX8_moves_118 rfl rfl ?_
    refine J.iald (N := 352) (x := nI (aLn σ)) (by decide) (by decide) (by decide) (by omega) (by rw [wr_n (by omega)]; rw [wr_n (by omega)]; rw [wr_n (by omega)]; rw [wr_n (by omega)]; exact hM3₉.rLn) dX8_moves_119 ?_
    refine J.iconst dX8_moves_120 kI_1 ?_
    refine J.iaddN dX8_moves_121 ?_
    refine J.iast (N := 352) (by decide) (by decide) (by decide) (by omega) dX8_moves_122 ?_
    refine J.vret rfl (by decide) (by decide) dX8_moves_123 ⟨_, rfl, ?_, ?_⟩
    · rfl
    · obtain ⟨e1, e2, e3⟩ := mlog_part (a := 1) (w := w) (b := b) (f := aLg σ) (x := aLn σ) hM4₉.2.2.2.2.2.2.1 (by omega)
      exact ⟨hM4₉.sLog hm₉ e1 e2 e3, fun o k a b c d e => by simp only [wr_o a, cpy_o a]; exact hKT3₉ o k a b c d e⟩
  · refine J.al0 dX8_moves_37 ?_
    refine gf_X8_9 rfl (o2 := 238) (by decide) rfl dX8_moves_38 ?_
    refine J.bipush dX8_moves_41 kb_75 ?_
    refine J.al0 dX8_moves_43 ?_
    refine gf_X8_9 rfl (o2 := 238) (by decide) rfl dX8_moves_44 ?_
    refine J.bipush dX8_moves_47 kb_72 ?_
    refine J.bipush dX8_moves_49 kb_117 ?_
    refine J.copy (N1 := 352) (N2 := 352) t_1055 t_317 t_316 t_15 (by decide) (by decide) (by omega) (by omega) (by decide) (by decide) (by decide) (by decide) (by decide) (by decide) dX8_moves_51 ?_
    refine J.al0 dX8_moves_54 ?_
    refine gf_X8_9 rfl (o2 := 238) (by decide) rfl dX8_moves_55 ?_
    refine J.iconst dX8_moves_58 kI_0 ?_
    refine J.dup2 dX8_moves_59 rfl rfl ?_
    refine J.iald (N := 352) (x := nI (aLn σ)) (by decide) (by decide) (by decide) (by omega) (by rw [cpy_out (by omega), wr_n (by omega)]; exact hM3₉.rLn) dX8_moves_60 ?_
    refine J.iconst dX8_moves_61 kI_1 ?_
    refine J.isubN dX8_moves_62 (by omega) ?_
    refine J.iast (N := 352) (by decide) (by decide) (by decide) (by omega) dX8_moves_63 ?_
    refine J.bipush dX8_moves_64 kb_72 ?_
    refine J.iconst dX8_moves_66 kI_3 ?_
    refine J.al0 dX8_moves_67 ?_
    refine gf_X8_9 rfl (o2 := 238) (by decide) rfl dX8_moves_68 ?_
    refine J.iconst dX8_moves_71 kI_0 ?_
    refine J.iald (N := 352) (x := nI ((aLn σ) - 1)) (by decide) (by decide) (by decide) (by omega) wr_s dX8_moves_72 ?_
    refine J.imulN dX8_moves_73 ?_
    refine J.iaddN dX8_moves_74 ?_
    refine J.is4 dX8_moves_75 (by decide) rfl ?_
    refine J.al0 dX8_moves_77 ?_
    refine gf_X8_9 rfl (o2 := 238) (by decide) rfl dX8_moves_78 ?_
    refine J.il4 dX8_moves_81 ?_
    refine J.il1 dX8_moves_83 ?_
    refine J.if_eqN (tgt := 91) dX8_moves_84 (by decide) (by omega) (fun c84₉ => absurd c84₉ (by first | omega | (simp only [not_true_eq_false, not_false_eq_true]; done) | (simp; done))) (fun c84₉ => ?_)
    refine J.iconst dX8_moves_87 kI_1 ?_
    refine J.goto (tgt := 92) dX8_moves_88 (by decide) ?_
    refine J.iast (N := 352) (by decide) (by decide) (by decide) (by omega) dX8_moves_92 ?_
    refine J.al0 dX8_moves_93 ?_
    refine gf_X8_9 rfl (o2 := 238) (by decide) rfl dX8_moves_94 ?_
    refine J.il4 dX8_moves_97 ?_
    refine J.iconst dX8_moves_99 kI_1 ?_
    refine J.iaddN dX8_moves_100 ?_
    refine J.il2 dX8_moves_101 ?_
    refine J.iast (N := 352) (by decide) (by decide) (by decide) (by omega) dX8_moves_102 ?_
    refine J.al0 dX8_moves_103 ?_
    refine gf_X8_9 rfl (o2 := 238) (by decide) rfl dX8_moves_104 ?_
    refine J.il4 dX8_moves_107 ?_
    refine J.iconst dX8_moves_109 kI_2 ?_
    refine J.iaddN dX8_moves_110 ?_
    refine J.il3 dX8_moves_111 ?_
    refine J.iast (N := 352) (by decide) (by decide) (by decide) (by omega) dX8_moves_112 ?_
    refine J.al0 dX8_moves_113 ?_
    refine gf_X8_9 rfl (o2 := 238) (by decide) rfl dX8_moves_114 ?_
    refine J.iconst dX8_moves_117 kI_0 ?_
    refine J.dup2 dX8_moves_118 rfl rfl ?_
    refine J.iald (N := 352) (x := nI ((aLn σ) - 1)) (by decide) (by decide) (by decide) (by omega) (by rw [wr_n (by omega)]; rw [wr_n (by omega)]; rw [wr_n (by omega)]; exact wr_s) dX8_moves_119 ?_
    refine J.iconst dX8_moves_120 kI_1 ?_
    refine J.iaddN dX8_moves_121 ?_
    refine J.iast (N := 352) (by decide) (by decide) (by decide) (by omega) dX8_moves_122 ?_
    refine J.vret rfl (by decide) (by decide) dX8_moves_123 ⟨_, rfl, ?_, ?_⟩
    · rfl
    · obtain ⟨e1, e2, e3⟩ := mlog_full (a := 1) (w := w) (b := b) (f := aLg σ) (x := aLn σ) hM4₉.2.2.2.2.2.2.1 c34₉
      exact ⟨hM4₉.sLog hm₉ e1 e2 e3, fun o k a b c d e => by simp only [wr_o a, cpy_o a]; exact hKT3₉ o k a b c d e⟩
