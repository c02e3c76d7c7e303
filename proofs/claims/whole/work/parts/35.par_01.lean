/-! ===== printed: the model: its reader, sequences ===== -/
section PT9
variable {g : GP} {M : MI} {R : Room} {Q : QT} {k n pc : Nat} {w : va_W} {st : List Value} {t : List (Option Value)}
theorem J.il9 {x0 x1 x2 x3 x4 x5 x6 x7 x8 : Option Value} {v : Int32} (d : decode M.2.1 pc = .ok (.iload 9, 2)) (K : J g M R Q k n w (pc + 2) (x0 :: x1 :: x2 :: x3 :: x4 :: x5 :: x6 :: x7 :: x8 :: some (.int v) :: t) (.int v :: st)) : J g M R Q k n w pc (x0 :: x1 :: x2 :: x3 :: x4 :: x5 :: x6 :: x7 :: x8 :: some (.int v) :: t) st := J.iload (i := 9) d rfl K
theorem J.is9 {x0 x1 x2 x3 x4 x5 x6 x7 x8 : Option Value} {y : Option Value} {v : Int32} (d : decode M.2.1 pc = .ok (.istore 9, 2)) (hn₉ : 9 < M.2.2.1) (hc₉ : cat1 (some x8) = true) (K : J g M R Q k n w (pc + 2) (x0 :: x1 :: x2 :: x3 :: x4 :: x5 :: x6 :: x7 :: x8 :: some (.int v) :: t) st) : J g M R Q k n w pc (x0 :: x1 :: x2 :: x3 :: x4 :: x5 :: x6 :: x7 :: x8 :: y :: t) (.int v :: st) := J.istore (i := 9) d hn₉ (Or.inr hc₉) rfl K
theorem J.il10 {x0 x1 x2 x3 x4 x5 x6 x7 x8 x9 : Option Value} {v : Int32} (d : decode M.2.1 pc = .ok (.iload 10, 2)) (K : J g M R Q k n w (pc + 2) (x0 :: x1 :: x2 :: x3 :: x4 :: x5 :: x6 :: x7 :: x8 :: x9 :: some (.int v) :: t) (.int v :: st)) : J g M R Q k n w pc (x0 :: x1 :: x2 :: x3 :: x4 :: x5 :: x6 :: x7 :: x8 :: x9 :: some (.int v) :: t) st := J.iload (i := 10) d rfl K
theorem J.is10 {x0 x1 x2 x3 x4 x5 x6 x7 x8 x9 : Option Value} {y : Option Value} {v : Int32} (d : decode M.2.1 pc = .ok (.istore 10, 2)) (hn₉ : 10 < M.2.2.1) (hc₉ : cat1 (some x9) = true) (K : J g M R Q k n w (pc + 2) (x0 :: x1 :: x2 :: x3 :: x4 :: x5 :: x6 :: x7 :: x8 :: x9 :: some (.int v) :: t) st) : J g M R Q k n w pc (x0 :: x1 :: x2 :: x3 :: x4 :: x5 :: x6 :: x7 :: x8 :: x9 :: y :: t) (.int v :: st) := J.istore (i := 10) d hn₉ (Or.inr hc₉) rfl K
theorem J.il11 {x0 x1 x2 x3 x4 x5 x6 x7 x8 x9 x10 : Option Value} {v : Int32} (d : decode M.2.1 pc = .ok (.iload 11, 2)) (K : J g M R Q k n w (pc + 2) (x0 :: x1 :: x2 :: x3 :: x4 :: x5 :: x6 :: x7 :: x8 :: x9 :: x10 :: some (.int v) :: t) (.int v :: st)) : J g M R Q k n w pc (x0 :: x1 :: x2 :: x3 :: x4 :: x5 :: x6 :: x7 :: x8 :: x9 :: x10 :: some (.int v) :: t) st := J.iload (i := 11) d rfl K
theorem J.is11 {x0 x1 x2 x3 x4 x5 x6 x7 x8 x9 x10 : Option Value} {y : Option Value} {v : Int32} (d : decode M.2.1 pc = .ok (.istore 11, 2)) (hn₉ : 11 < M.2.2.1) (hc₉ : cat1 (some x10) = true) (K : J g M R Q k n w (pc + 2) (x0 :: x1 :: x2 :: x3 :: x4 :: x5 :: x6 :: x7 :: x8 :: x9 :: x10 :: some (.int v) :: t) st) : J g M R Q k n w pc (x0 :: x1 :: x2 :: x3 :: x4 :: x5 :: x6 :: x7 :: x8 :: x9 :: x10 :: y :: t) (.int v :: st) := J.istore (i := 11) d hn₉ (Or.inr hc₉) rfl K
end PT9
set_option maxRecDepth 100000 in
set_option maxHeartbeats 4000000 in
theorem c_m_itemp {g : GP} {adr : Nat → Nat} (μ : Mem) {t : Nat → Nat} {x p r d n : Nat} {σ : AS} {res : PRes} (hT₉ : TxM μ 245 14 (x, t)) (hx₉ : x ≤ 60) (hS₉ : MS μ 238 0 σ) (hp₉ : μ 237 15 = nI p) (hpl₉ : p < x) (hw₉ : μ 237 16 = nI 0) (hr₉ : μ 237 11 = nI r) (hr0₉ : 0 < r) (hV₉ : PoolV μ r) (hro₉ : r + 2 * (x - p) ≤ 200) (hdn₉ : d + n = 4) (hin₉ : SeqM g adr t x σ n (d + 1)) (hk₉ : hr t x p 40 40 = true) (hr0x : pRep t x (pSq t x σ n) p = res) : CT g yX8_item mX8_item (RM (4 * n + 4) 0 0) (WM g adr μ) [.ref (adr 237), .int (nI d)] (PMx g adr (fun it μ' => IP μ' μ x r p it res)) := by
  refine CT.of (l0 := [some (.ref (adr 237)), some (.int (nI d)), none, none, none, none, none, none, none, none, none, none]) (by decide +kernel) rfl (Nat.le_of_ble_eq_true rfl) rfl ?_
  have hk1₉ := hr_one.mp hk₉
  have hk0₉ : μ 245 p = nI 40 := by rw [(hT₉.2 p hk1₉.1).1]; exact congrArg nI hk1₉.2
  refine J.al0 dX8_item_0 ?_
  refine gf_X8_31 rfl (o2 := 245) (by decide) rfl dX8_item_1 ?_
  refine J.al0 dX8_item_4 ?_
  refine gf_X8_141 rfl (x := nI p) (by decide) hp₉ dX8_item_5 ?_
  refine J.cald (N := 60) (x := nI 40) (by decide) (by decide) (by omega) hk0₉ dX8_item_8 ?_
  refine J.is2 dX8_item_9 (by decide) rfl ?_
  refine J.il2 dX8_item_10 ?_
  refine J.bipush dX8_item_11 kb_40 ?_
  refine J.icmp_eqN (tgt := 22) dX8_item_13 (by decide) (by omega) (by omega) (fun c13₉ => ?_) (fun c13₉ => absurd c13₉ (by first | omega | (simp only [not_true_eq_false, not_false_eq_true]; done) | (simp; done)))
  refine J.il1 dX8_item_22 ?_
  refine J.iconst dX8_item_23 kI_3 ?_
  refine J.icmp_leN (tgt := 34) dX8_item_24 (by decide) (by omega) (by omega) (fun c24₉ => ?_) (fun c24₉ => ?_)
  · refine J.al0 dX8_item_34 ?_
    refine J.dup dX8_item_35 rfl ?_
    refine gf_X8_141 rfl (x := nI p) (by decide) hp₉ dX8_item_36 ?_
    refine J.iconst dX8_item_39 kI_1 ?_
    refine J.iaddN dX8_item_40 ?_
    refine pf_X8_141 rfl (by decide) dX8_item_41 ?_
    refine J.il2 dX8_item_44 ?_
    refine J.lookup (tgt := 271) dX8_item_45 (by decide) (show _ = _ from rfl) (by decide) ?_
    refine J.al0 dX8_item_271 ?_
    refine J.il1 dX8_item_272 ?_
    refine J.iconst dX8_item_273 kI_1 ?_
    refine J.iaddN dX8_item_274 ?_
    rcases k1₉ : pSq t x σ n (p + 1) with e1 | ⟨q1₉, f1, F1⟩
    · refine cl_X8_162 rfl (by decide) (k' := 0) (n' := 0) (hin₉ _ (p + 1) r (hT₉.rf (RF.w (RF.rf (r := 0)) (by decide))) (hS₉.off (by simp only [wr_o (show (238 : Nat) ≠ 237 by decide)])) wr_s (by omega) (by rw [wr_n (by omega)]; exact hw₉) (by rw [wr_n (by omega)]; exact hr₉) (PoolV.w hV₉) (by omega) (by omega) _ k1₉) (roomR (by omega) (by omega)) rfl dX8_item_275 (fun μ2 ⟨hP2₉, hW2₉, ⟨r2, hg2₉, hl2₉, hr2₉, hV2₉⟩, hF2₉⟩ => ?_)
      have hA2₉ : RF μ2 μ r := RF.trans hF2₉ (RF.w RF.rf (by decide)) (Nat.le_refl r) (by omega)
      refine J.is6 dX8_item_278 (by decide) rfl ?_
      refine J.al0 dX8_item_280 ?_
      refine gf_X8_137 rfl (x := nI 1) (by decide) hW2₉ dX8_item_281 ?_
      refine J.if_eqN (tgt := 291) dX8_item_284 (by decide) (by omega) (fun c284₉ => absurd c284₉ (by first | omega | (simp only [not_true_eq_false, not_false_eq_true]; done) | (simp; done))) (fun c284₉ => ?_)
      refine J.iconst dX8_item_287 kI_0 ?_
      refine J.goto (tgt := 299) dX8_item_288 (by decide) ?_
      refine J.is7 dX8_item_299 (by decide) rfl ?_
      refine J.al0 dX8_item_301 ?_
      refine gf_X8_137 rfl (x := nI 1) (by decide) hW2₉ dX8_item_302 ?_
      refine J.if_eqN (tgt := 312) dX8_item_305 (by decide) (by omega) (fun c305₉ => absurd c305₉ (by first | omega | (simp only [not_true_eq_false, not_false_eq_true]; done) | (simp; done))) (fun c305₉ => ?_)
      refine J.iconst dX8_item_308 kI_0 ?_
      refine J.goto (tgt := 322) dX8_item_309 (by decide) ?_
      refine J.is4 dX8_item_322 (by decide) rfl ?_
      refine J.al0 dX8_item_324 ?_
      refine gf_X8_137 rfl (x := nI 1) (by decide) hW2₉ dX8_item_325 ?_
      refine J.if_eqN (tgt := 335) dX8_item_328 (by decide) (by omega) (fun c328₉ => absurd c328₉ (by first | omega | (simp only [not_true_eq_false, not_false_eq_true]; done) | (simp; done))) (fun c328₉ => ?_)
      refine J.iconst dX8_item_331 kI_0 ?_
      refine J.goto (tgt := 343) dX8_item_332 (by decide) ?_
      obtain rfl : res = .inl e1 := by rw [← hr0x]; exact pRep_1 k1₉
      refine J.iret rfl (Nat.zero_le _) (Nat.zero_le _) dX8_item_343 ⟨0, _, rfl, rfl, ?_⟩
      exact ⟨hP2₉, hW2₉, ⟨r2, by omega, by omega, hr2₉, hV2₉⟩, hA2₉, rfl⟩
    · refine cl_X8_162 rfl (by decide) (k' := 0) (n' := 0) (hin₉ _ (p + 1) r (hT₉.rf (RF.w (RF.rf (r := 0)) (by decide))) (hS₉.off (by simp only [wr_o (show (238 : Nat) ≠ 237 by decide)])) wr_s (by omega) (by rw [wr_n (by omega)]; exact hw₉) (by rw [wr_n (by omega)]; exact hr₉) (PoolV.w hV₉) (by omega) (by omega) _ k1₉) (roomR (by omega) (by omega)) rfl dX8_item_275 (fun μ2 ⟨hP2₉, hW2₉, ⟨r2, hg2₉, hl2₉, hr2₉, hV2₉⟩, hF2₉, hR2₉, hc2₉⟩ => ?_)
      have hA2₉ : RF μ2 μ r := RF.trans hF2₉ (RF.w RF.rf (by decide)) (Nat.le_refl r) (by omega)
      have hT2₉ := hT₉.rf (RF.trans hF2₉ (RF.w (RF.rf (r := 0)) (by decide)) (Nat.zero_le _) (Nat.zero_le _))
      have hS2₉ : MS μ2 238 0 σ := hS₉.off hA2₉.s
      obtain ⟨u21, u22, u23, u24⟩ := pSq_few hS₉.vs.2.2.2.2 hx₉ (by omega) (by omega) k1₉
      refine J.is6 dX8_item_278 (by decide) rfl ?_
      refine J.al0 dX8_item_280 ?_
      refine gf_X8_137 rfl (x := nI 0) (by decide) hW2₉ dX8_item_281 ?_
      refine J.if_eqN (tgt := 291) dX8_item_284 (by decide) (by omega) (fun c284₉ => ?_) (fun c284₉ => absurd c284₉ (by first | omega | (simp only [not_true_eq_false, not_false_eq_true]; done) | (simp; done)))
      refine J.al0 dX8_item_291 ?_
      refine J.bipush dX8_item_292 kb_41 ?_
      refine J.bipush dX8_item_294 kb_41 ?_
      by_cases k2₉ : hr t x q1₉ 41 41 = true
      · refine cl_X8_155 rfl (by decide) (k' := 0) (n' := 0) (c_m_sign1 _ hT2₉ hx₉ hP2₉ hW2₉ k2₉ (by decide)) (roomR (by omega) (by omega)) rfl dX8_item_296 (fun μ3 h3₉ => ?_)
        subst h3₉
        have g3 := hr_one.mp k2₉
        refine J.is7 dX8_item_299 (by decide) rfl ?_
        refine J.al0 dX8_item_301 ?_
        refine gf_X8_137 rfl (x := nI 0) (by decide) (by rw [wr_n (by omega)]; exact wr_s) dX8_item_302 ?_
        refine J.if_eqN (tgt := 312) dX8_item_305 (by decide) (by omega) (fun c305₉ => ?_) (fun c305₉ => absurd c305₉ (by first | omega | (simp only [not_true_eq_false, not_false_eq_true]; done) | (simp; done)))
        refine J.iconst dX8_item_312 kI_2 ?_
        refine J.al0 dX8_item_313 ?_
        refine J.bipush dX8_item_314 kb_50 ?_
        refine J.bipush dX8_item_316 kb_57 ?_
        rcases k3₉ : pDig t x (q1₉ + 1) 2 9 with _ | w
        · refine cl_X8_155 rfl (by decide) (k' := 0) (n' := 0) (c_m_signF _ (hT2₉.rf (RF.w (RF.w (RF.rf (r := 0)) (by decide)) (by decide))) hx₉ wr_s (by omega) (by rw [wr_n (by omega)]; exact wr_s) (by decide) (by decide) (sgF k3₉)) (roomR (by omega) (by omega)) rfl dX8_item_318 (fun μ5 h5₉ => ?_)
          subst h5₉
          refine J.iaddN dX8_item_321 ?_
          refine J.is4 dX8_item_322 (by decide) rfl ?_
          refine J.al0 dX8_item_324 ?_
          refine gf_X8_137 rfl (x := nI 1) (by decide) wr_s dX8_item_325 ?_
          refine J.if_eqN (tgt := 335) dX8_item_328 (by decide) (by omega) (fun c328₉ => absurd c328₉ (by first | omega | (simp only [not_true_eq_false, not_false_eq_true]; done) | (simp; done))) (fun c328₉ => ?_)
          refine J.iconst dX8_item_331 kI_0 ?_
          refine J.goto (tgt := 343) dX8_item_332 (by decide) ?_
          obtain rfl : res = .inl (q1₉ + 1) := by rw [← hr0x]; exact pRep_3 k1₉ k2₉ k3₉
          refine J.iret rfl (Nat.zero_le _) (Nat.zero_le _) dX8_item_343 ⟨0, _, rfl, rfl, ?_⟩
          exact ⟨(by rw [wr_n (by omega)]; exact wr_s), wr_s, ⟨r2, by omega, by omega, (by rw [wr_n (by omega)]; rw [wr_n (by omega)]; rw [wr_n (by omega)]; exact hr2₉), (PoolV.w (PoolV.w (PoolV.w hV2₉)))⟩, (RF.w (RF.w (RF.w hA2₉ (by decide)) (by decide)) (by decide)), rfl⟩
        · refine cl_X8_155 rfl (by decide) (k' := 0) (n' := 0) (c_m_signT _ (hT2₉.rf (RF.w (RF.w (RF.rf (r := 0)) (by decide)) (by decide))) hx₉ wr_s (by rw [wr_n (by omega)]; exact wr_s) k3₉ (by decide) (by decide)) (roomR (by omega) (by omega)) rfl dX8_item_318 (fun μ5 h5₉ => ?_)
          subst h5₉
          have g5 := pDig_some k3₉
          refine J.iaddN dX8_item_321 ?_
          rw [show 2 + (w - 2) = w by omega]
          refine J.is4 dX8_item_322 (by decide) rfl ?_
          refine J.al0 dX8_item_324 ?_
          refine gf_X8_137 rfl (x := nI 0) (by decide) (by rw [wr_n (by omega)]; exact wr_s) dX8_item_325 ?_
          refine J.if_eqN (tgt := 335) dX8_item_328 (by decide) (by omega) (fun c328₉ => ?_) (fun c328₉ => absurd c328₉ (by first | omega | (simp only [not_true_eq_false, not_false_eq_true]; done) | (simp; done)))
          refine J.al0 dX8_item_335 ?_
          refine J.il6 dX8_item_336 ?_
          refine J.il4 dX8_item_338 ?_
          refine cl_X8_71 rfl (by decide) (k' := 0) (n' := 0) (c_m_times _ (r := r2) (by rw [wr_n (by omega)]; rw [wr_n (by omega)]; rw [wr_n (by omega)]; rw [wr_n (by omega)]; exact hr2₉) (by omega) (a := r) (c := f1) (by omega) (by omega) (PoolR.w (PoolR.w (PoolR.w (PoolR.w hR2₉ (Or.inl (by decide))) (Or.inl (by decide))) (Or.inl (by decide))) (Or.inl (by decide))) (by simp only [wr_o (show (243 : Nat) ≠ 237 by decide)]; exact hc2₉)) (roomR (by omega) (by omega)) rfl dX8_item_340 (fun μ7 ⟨hP7₉, hc7₉, hr7₉, hF7₉⟩ => ?_)
          obtain rfl : res = .inr (q1₉ + 2, f1 * w, iter F1 w) := by rw [← hr0x]; exact pRep_4 k1₉ k2₉ k3₉
          refine J.iret rfl (Nat.zero_le _) (Nat.zero_le _) dX8_item_343 ⟨r2, _, rfl, rfl, ?_⟩
          exact ⟨(hF7₉.2.2 237 15 (by decide) (by decide) (by decide)).trans wr_s, (hF7₉.2.2 237 16 (by decide) (by decide) (by decide)).trans ((wr_n (by decide)).trans wr_s), ⟨r2 + 1, by omega, by omega, by omega, hr7₉, PoolV.push (PoolV.rf (PoolV.w (PoolV.w (PoolV.w (PoolV.w hV2₉)))) hF7₉.rf9 (Nat.le_refl _)) hP7₉.sl⟩, RF.trans hF7₉.rf9 (RF.w (RF.w (RF.w (RF.w hA2₉ (by decide)) (by decide)) (by decide)) (by decide)) (Nat.le_refl r) (by omega), hP7₉, hc7₉.trans (congrArg nI (Nat.mul_comm w f1))⟩
      · refine cl_X8_155 rfl (by decide) (k' := 0) (n' := 0) (c_m_signF _ hT2₉ hx₉ hP2₉ (by omega) hW2₉ (by decide) (by decide) k2₉) (roomR (by omega) (by omega)) rfl dX8_item_296 (fun μ3 h3₉ => ?_)
        subst h3₉
        refine J.is7 dX8_item_299 (by decide) rfl ?_
        refine J.al0 dX8_item_301 ?_
        refine gf_X8_137 rfl (x := nI 1) (by decide) wr_s dX8_item_302 ?_
        refine J.if_eqN (tgt := 312) dX8_item_305 (by decide) (by omega) (fun c305₉ => absurd c305₉ (by first | omega | (simp only [not_true_eq_false, not_false_eq_true]; done) | (simp; done))) (fun c305₉ => ?_)
        refine J.iconst dX8_item_308 kI_0 ?_
        refine J.goto (tgt := 322) dX8_item_309 (by decide) ?_
        refine J.is4 dX8_item_322 (by decide) rfl ?_
        refine J.al0 dX8_item_324 ?_
        refine gf_X8_137 rfl (x := nI 1) (by decide) wr_s dX8_item_325 ?_
        refine J.if_eqN (tgt := 335) dX8_item_328 (by decide) (by omega) (fun c328₉ => absurd c328₉ (by first | omega | (simp only [not_true_eq_false, not_false_eq_true]; done) | (simp; done))) (fun c328₉ => ?_)
        refine J.iconst dX8_item_331 kI_0 ?_
        refine J.goto (tgt := 343) dX8_item_332 (by decide) ?_
        obtain rfl : res = .inl q1₉ := by rw [← hr0x]; exact pRep_2 k1₉ k2₉
        refine J.iret rfl (Nat.zero_le _) (Nat.zero_le _) dX8_item_343 ⟨0, _, rfl, rfl, ?_⟩
        exact ⟨(by rw [wr_n (by omega)]; exact hP2₉), wr_s, ⟨r2, by omega, by omega, (by rw [wr_n (by omega)]; exact hr2₉), (PoolV.w hV2₉)⟩, (RF.w hA2₉ (by decide)), rfl⟩
  · refine J.al0 dX8_item_27 ?_
    refine J.iconst dX8_item_28 kI_1 ?_
    refine pf_X8_137 rfl (by decide) (Or.inr (by decide)) dX8_item_29 ?_
    refine J.iconst dX8_item_32 kI_0 ?_
    obtain rfl : n = 0 := by omega
    obtain rfl : res = .inl p := by rw [← hr0x]; exact pRep_1 rfl
    refine J.iret rfl (Nat.zero_le _) (Nat.zero_le _) dX8_item_33 ⟨0, _, rfl, rfl, ?_⟩
    exact ⟨(by rw [wr_n (by omega)]; exact hp₉), wr_s, ⟨r, by omega, by omega, (by rw [wr_n (by omega)]; exact hr₉), (PoolV.w hV₉)⟩, (RF.w RF.rf (by decide)), rfl⟩

set_option maxRecDepth 100000 in
set_option maxHeartbeats 4000000 in
theorem c_m_itemb {g : GP} {adr : Nat → Nat} (μ : Mem) {t : Nat → Nat} {x p r d n : Nat} {σ : AS} {res : PRes} (hT₉ : TxM μ 245 14 (x, t)) (hx₉ : x ≤ 60) (hS₉ : MS μ 238 0 σ) (hp₉ : μ 237 15 = nI p) (hpl₉ : p < x) (hw₉ : μ 237 16 = nI 0) (hr₉ : μ 237 11 = nI r) (hr0₉ : 0 < r) (hV₉ : PoolV μ r) (hro₉ : r + 2 * (x - p) ≤ 200) (hdn₉ : d + n = 4) (hin₉ : SeqM g adr t x σ n (d + 1)) (hk₉ : hr t x p 91 91 = true) (hr0x : pCom t x (pSq t x σ n) p = res) : CT g yX8_item mX8_item (RM (4 * n + 4) 0 0) (WM g adr μ) [.ref (adr 237), .int (nI d)] (PMx g adr (fun it μ' => IP μ' μ x r p it res)) := by
  refine CT.of (l0 := [some (.ref (adr 237)), some (.int (nI d)), none, none, none, none, none, none, none, none, none, none]) (by decide +kernel) rfl (Nat.le_of_ble_eq_true rfl) rfl ?_
  have hk1₉ := hr_one.mp hk₉
  have hk0₉ : μ 245 p = nI 91 := by rw [(hT₉.2 p hk1₉.1).1]; exact congrArg nI hk1₉.2
  refine J.al0 dX8_item_0 ?_
  refine gf_X8_31 rfl (o2 := 245) (by decide) rfl dX8_item_1 ?_
  refine J.al0 dX8_item_4 ?_
  refine gf_X8_141 rfl (x := nI p) (by decide) hp₉ dX8_item_5 ?_
  refine J.cald (N := 60) (x := nI 91) (by decide) (by decide) (by omega) hk0₉ dX8_item_8 ?_
  refine J.is2 dX8_item_9 (by decide) rfl ?_
  refine J.il2 dX8_item_10 ?_
  refine J.bipush dX8_item_11 kb_40 ?_
  refine J.icmp_eqN (tgt := 22) dX8_item_13 (by decide) (by omega) (by omega) (fun c13₉ => absurd c13₉ (by first | omega | (simp only [not_true_eq_false, not_false_eq_true]; done) | (simp; done))) (fun c13₉ => ?_)
  refine J.il2 dX8_item_16 ?_
  refine J.bipush dX8_item_17 kb_91 ?_
  refine J.icmp_neN (tgt := 34) dX8_item_19 (by decide) (by omega) (by omega) (fun c19₉ => absurd c19₉ (by first | omega | (simp only [not_true_eq_false, not_false_eq_true]; done) | (simp; done))) (fun c19₉ => ?_)
  refine J.il1 dX8_item_22 ?_
  refine J.iconst dX8_item_23 kI_3 ?_
  refine J.icmp_leN (tgt := 34) dX8_item_24 (by decide) (by omega) (by omega) (fun c24₉ => ?_) (fun c24₉ => ?_)
  · refine J.al0 dX8_item_34 ?_
    refine J.dup dX8_item_35 rfl ?_
    refine gf_X8_141 rfl (x := nI p) (by decide) hp₉ dX8_item_36 ?_
    refine J.iconst dX8_item_39 kI_1 ?_
    refine J.iaddN dX8_item_40 ?_
    refine pf_X8_141 rfl (by decide) dX8_item_41 ?_
    refine J.il2 dX8_item_44 ?_
    refine J.lookup (tgt := 344) dX8_item_45 (by decide) (show _ = _ from rfl) (by decide) ?_
    refine J.al0 dX8_item_344 ?_
    refine J.il1 dX8_item_345 ?_
    refine J.iconst dX8_item_346 kI_1 ?_
    refine J.iaddN dX8_item_347 ?_
    rcases k1₉ : pSq t x σ n (p + 1) with e1 | ⟨q1₉, f1, F1⟩
    · refine cl_X8_162 rfl (by decide) (k' := 0) (n' := 0) (hin₉ _ (p + 1) r (hT₉.rf (RF.w (RF.rf (r := 0)) (by decide))) (hS₉.off (by simp only [wr_o (show (238 : Nat) ≠ 237 by decide)])) wr_s (by omega) (by rw [wr_n (by omega)]; exact hw₉) (by rw [wr_n (by omega)]; exact hr₉) (PoolV.w hV₉) (by omega) (by omega) _ k1₉) (roomR (by omega) (by omega)) rfl dX8_item_348 (fun μ2 ⟨hP2₉, hW2₉, ⟨r2, hg2₉, hl2₉, hr2₉, hV2₉⟩, hF2₉⟩ => ?_)
      have hA2₉ : RF μ2 μ r := RF.trans hF2₉ (RF.w RF.rf (by decide)) (Nat.le_refl r) (by omega)
      refine J.is8 dX8_item_351 (by decide) rfl ?_
      refine J.al0 dX8_item_353 ?_
      refine gf_X8_137 rfl (x := nI 1) (by decide) hW2₉ dX8_item_354 ?_
      refine J.if_eqN (tgt := 364) dX8_item_357 (by decide) (by omega) (fun c357₉ => absurd c357₉ (by first | omega | (simp only [not_true_eq_false, not_false_eq_true]; done) | (simp; done))) (fun c357₉ => ?_)
      refine J.iconst dX8_item_360 kI_0 ?_
      refine J.goto (tgt := 372) dX8_item_361 (by decide) ?_
      refine J.is9 dX8_item_372 (by decide) rfl ?_
      refine J.al0 dX8_item_374 ?_
      refine gf_X8_137 rfl (x := nI 1) (by decide) hW2₉ dX8_item_375 ?_
      refine J.if_eqN (tgt := 385) dX8_item_378 (by decide) (by omega) (fun c378₉ => absurd c378₉ (by first | omega | (simp only [not_true_eq_false, not_false_eq_true]; done) | (simp; done))) (fun c378₉ => ?_)
      refine J.iconst dX8_item_381 kI_0 ?_
      refine J.goto (tgt := 392) dX8_item_382 (by decide) ?_
      refine J.is10 dX8_item_392 (by decide) rfl ?_
      refine J.al0 dX8_item_394 ?_
      refine gf_X8_137 rfl (x := nI 1) (by decide) hW2₉ dX8_item_395 ?_
      refine J.if_eqN (tgt := 405) dX8_item_398 (by decide) (by omega) (fun c398₉ => absurd c398₉ (by first | omega | (simp only [not_true_eq_false, not_false_eq_true]; done) | (simp; done))) (fun c398₉ => ?_)
      refine J.iconst dX8_item_401 kI_0 ?_
      refine J.goto (tgt := 413) dX8_item_402 (by decide) ?_
      refine J.is11 dX8_item_413 (by decide) rfl ?_
      refine J.al0 dX8_item_415 ?_
      refine gf_X8_137 rfl (x := nI 1) (by decide) hW2₉ dX8_item_416 ?_
      refine J.if_eqN (tgt := 426) dX8_item_419 (by decide) (by omega) (fun c419₉ => absurd c419₉ (by first | omega | (simp only [not_true_eq_false, not_false_eq_true]; done) | (simp; done))) (fun c419₉ => ?_)
      refine J.iconst dX8_item_422 kI_0 ?_
      refine J.goto (tgt := 434) dX8_item_423 (by decide) ?_
      obtain rfl : res = .inl e1 := by rw [← hr0x]; exact pCom_1 k1₉
      refine J.iret rfl (Nat.zero_le _) (Nat.zero_le _) dX8_item_434 ⟨0, _, rfl, rfl, ?_⟩
      exact ⟨hP2₉, hW2₉, ⟨r2, by omega, by omega, hr2₉, hV2₉⟩, hA2₉, rfl⟩
    · refine cl_X8_162 rfl (by decide) (k' := 0) (n' := 0) (hin₉ _ (p + 1) r (hT₉.rf (RF.w (RF.rf (r := 0)) (by decide))) (hS₉.off (by simp only [wr_o (show (238 : Nat) ≠ 237 by decide)])) wr_s (by omega) (by rw [wr_n (by omega)]; exact hw₉) (by rw [wr_n (by omega)]; exact hr₉) (PoolV.w hV₉) (by omega) (by omega) _ k1₉) (roomR (by omega) (by omega)) rfl dX8_item_348 (fun μ2 ⟨hP2₉, hW2₉, ⟨r2, hg2₉, hl2₉, hr2₉, hV2₉⟩, hF2₉, hR2₉, hc2₉⟩ => ?_)
      have hA2₉ : RF μ2 μ r := RF.trans hF2₉ (RF.w RF.rf (by decide)) (Nat.le_refl r) (by omega)
      have hT2₉ := hT₉.rf (RF.trans hF2₉ (RF.w (RF.rf (r := 0)) (by decide)) (Nat.zero_le _) (Nat.zero_le _))
      have hS2₉ : MS μ2 238 0 σ := hS₉.off hA2₉.s
      obtain ⟨u21, u22, u23, u24⟩ := pSq_few hS₉.vs.2.2.2.2 hx₉ (by omega) (by omega) k1₉
      refine J.is8 dX8_item_351 (by decide) rfl ?_
      refine J.al0 dX8_item_353 ?_
      refine gf_X8_137 rfl (x := nI 0) (by decide) hW2₉ dX8_item_354 ?_
      refine J.if_eqN (tgt := 364) dX8_item_357 (by decide) (by omega) (fun c357₉ => ?_) (fun c357₉ => absurd c357₉ (by first | omega | (simp only [not_true_eq_false, not_false_eq_true]; done) | (simp; done)))
      refine J.al0 dX8_item_364 ?_
      refine J.bipush dX8_item_365 kb_44 ?_
      refine J.bipush dX8_item_367 kb_44 ?_
      by_cases k2₉ : hr t x q1₉ 44 44 = true
      · refine cl_X8_155 rfl (by decide) (k' := 0) (n' := 0) (c_m_sign1 _ hT2₉ hx₉ hP2₉ hW2₉ k2₉ (by decide)) (roomR (by omega) (by omega)) rfl dX8_item_369 (fun μ3 h3₉ => ?_)
        subst h3₉
        have g3 := hr_one.mp k2₉
        refine J.is9 dX8_item_372 (by decide) rfl ?_
        refine J.al0 dX8_item_374 ?_
        refine gf_X8_137 rfl (x := nI 0) (by decide) (by rw [wr_n (by omega)]; exact wr_s) dX8_item_375 ?_
        refine J.if_eqN (tgt := 385) dX8_item_378 (by decide) (by omega) (fun c378₉ => ?_) (fun c378₉ => absurd c378₉ (by first | omega | (simp only [not_true_eq_false, not_false_eq_true]; done) | (simp; done)))
        refine J.al0 dX8_item_385 ?_
        refine J.il1 dX8_item_386 ?_
        refine J.iconst dX8_item_387 kI_1 ?_
        refine J.iaddN dX8_item_388 ?_
        have hR2x : PoolR ((wr (wr μ2 237 16 (nI 0)) 237 15 (nI (q1₉ + 1)))) r F1 := (PoolR.w (PoolR.w hR2₉ (Or.inl (by decide))) (Or.inl (by decide)))
        have hc2x : ((wr (wr μ2 237 16 (nI 0)) 237 15 (nI (q1₉ + 1)))) 243 r = nI f1 := (by simp only [wr_o (show (243 : Nat) ≠ 237 by decide)]; exact hc2₉)
        rcases k3₉ : pSq t x σ n (q1₉ + 1) with e5 | ⟨q5₉, f5, F5⟩
        · refine cl_X8_162 rfl (by decide) (k' := 0) (n' := 0) (hin₉ _ (q1₉ + 1) r2 (hT2₉.rf (RF.w (RF.w (RF.rf (r := 0)) (by decide)) (by decide))) (hS2₉.off (by simp only [wr_o (show (238 : Nat) ≠ 237 by decide)])) wr_s (by omega) (by rw [wr_n (by omega)]; exact wr_s) (by rw [wr_n (by omega)]; rw [wr_n (by omega)]; exact hr2₉) (PoolV.w (PoolV.w hV2₉)) (by omega) (by omega) _ k3₉) (roomR (by omega) (by omega)) rfl dX8_item_389 (fun μ5 ⟨hP5₉, hW5₉, ⟨r5, hg5₉, hl5₉, hr5₉, hV5₉⟩, hF5₉⟩ => ?_)
          have hA5₉ : RF μ5 μ r := RF.trans hF5₉ (RF.w (RF.w hA2₉ (by decide)) (by decide)) (Nat.le_refl r) (by omega)
          refine J.is10 dX8_item_392 (by decide) rfl ?_
          refine J.al0 dX8_item_394 ?_
          refine gf_X8_137 rfl (x := nI 1) (by decide) hW5₉ dX8_item_395 ?_
          refine J.if_eqN (tgt := 405) dX8_item_398 (by decide) (by omega) (fun c398₉ => absurd c398₉ (by first | omega | (simp only [not_true_eq_false, not_false_eq_true]; done) | (simp; done))) (fun c398₉ => ?_)
          refine J.iconst dX8_item_401 kI_0 ?_
          refine J.goto (tgt := 413) dX8_item_402 (by decide) ?_
          refine J.is11 dX8_item_413 (by decide) rfl ?_
          refine J.al0 dX8_item_415 ?_
          refine gf_X8_137 rfl (x := nI 1) (by decide) hW5₉ dX8_item_416 ?_
          refine J.if_eqN (tgt := 426) dX8_item_419 (by decide) (by omega) (fun c419₉ => absurd c419₉ (by first | omega | (simp only [not_true_eq_false, not_false_eq_true]; done) | (simp; done))) (fun c419₉ => ?_)
          refine J.iconst dX8_item_422 kI_0 ?_
          refine J.goto (tgt := 434) dX8_item_423 (by decide) ?_
          obtain rfl : res = .inl e5 := by rw [← hr0x]; exact pCom_3 k1₉ k2₉ k3₉
          refine J.iret rfl (Nat.zero_le _) (Nat.zero_le _) dX8_item_434 ⟨0, _, rfl, rfl, ?_⟩
          exact ⟨hP5₉, hW5₉, ⟨r5, by omega, by omega, hr5₉, hV5₉⟩, hA5₉, rfl⟩
        · refine cl_X8_162 rfl (by decide) (k' := 0) (n' := 0) (hin₉ _ (q1₉ + 1) r2 (hT2₉.rf (RF.w (RF.w (RF.rf (r := 0)) (by decide)) (by decide))) (hS2₉.off (by simp only [wr_o (show (238 : Nat) ≠ 237 by decide)])) wr_s (by omega) (by rw [wr_n (by omega)]; exact wr_s) (by rw [wr_n (by omega)]; rw [wr_n (by omega)]; exact hr2₉) (PoolV.w (PoolV.w hV2₉)) (by omega) (by omega) _ k3₉) (roomR (by omega) (by omega)) rfl dX8_item_389 (fun μ5 ⟨hP5₉, hW5₉, ⟨r5, hg5₉, hl5₉, hr5₉, hV5₉⟩, hF5₉, hR5₉, hc5₉⟩ => ?_)
          have hA5₉ : RF μ5 μ r := RF.trans hF5₉ (RF.w (RF.w hA2₉ (by decide)) (by decide)) (Nat.le_refl r) (by omega)
          have hT5₉ := hT2₉.rf (RF.trans hF5₉ (RF.w (RF.w (RF.rf (r := 0)) (by decide)) (by decide)) (Nat.zero_le _) (Nat.zero_le _))
          have hS5₉ : MS μ5 238 0 σ := hS₉.off hA5₉.s
          obtain ⟨u51, u52, u53, u54⟩ := pSq_few hS₉.vs.2.2.2.2 hx₉ (by omega) (by omega) k3₉
          refine J.is10 dX8_item_392 (by decide) rfl ?_
          refine J.al0 dX8_item_394 ?_
          refine gf_X8_137 rfl (x := nI 0) (by decide) hW5₉ dX8_item_395 ?_
          refine J.if_eqN (tgt := 405) dX8_item_398 (by decide) (by omega) (fun c398₉ => ?_) (fun c398₉ => absurd c398₉ (by first | omega | (simp only [not_true_eq_false, not_false_eq_true]; done) | (simp; done)))
          refine J.al0 dX8_item_405 ?_
          refine J.bipush dX8_item_406 kb_93 ?_
          refine J.bipush dX8_item_408 kb_93 ?_
          by_cases k4₉ : hr t x q5₉ 93 93 = true
          · refine cl_X8_155 rfl (by decide) (k' := 0) (n' := 0) (c_m_sign1 _ hT5₉ hx₉ hP5₉ hW5₉ k4₉ (by decide)) (roomR (by omega) (by omega)) rfl dX8_item_410 (fun μ6 h6₉ => ?_)
            subst h6₉
            have g6 := hr_one.mp k4₉
            refine J.is11 dX8_item_413 (by decide) rfl ?_
            refine J.al0 dX8_item_415 ?_
            refine gf_X8_137 rfl (x := nI 0) (by decide) (by rw [wr_n (by omega)]; exact wr_s) dX8_item_416 ?_
            refine J.if_eqN (tgt := 426) dX8_item_419 (by decide) (by omega) (fun c419₉ => ?_) (fun c419₉ => absurd c419₉ (by first | omega | (simp only [not_true_eq_false, not_false_eq_true]; done) | (simp; done)))
            refine J.al0 dX8_item_426 ?_
            refine J.il8 dX8_item_427 ?_
            refine J.il10 dX8_item_429 ?_
            refine cl_X8_165 rfl (by decide) (k' := 0) (n' := 0) (c_m_comm _ (r := r5) (by rw [wr_n (by omega)]; rw [wr_n (by omega)]; exact hr5₉) (by omega) (a := r) (b := r2) (c := f1) (d := f5) (by omega) (by omega) (PoolR.w (PoolR.w (hR2x.rf hF5₉ (by omega)) (Or.inl (by decide))) (Or.inl (by decide))) (PoolR.w (PoolR.w hR5₉ (Or.inl (by decide))) (Or.inl (by decide))) u23 u53 (by simp only [wr_o (show (243 : Nat) ≠ 237 by decide)]; exact ((hF5₉.2.1 r (by omega)).trans hc2x)) (by simp only [wr_o (show (243 : Nat) ≠ 237 by decide)]; exact hc5₉)) (roomR (by omega) (by omega)) rfl dX8_item_431 (fun μ7 ⟨hP7₉, hc7₉, hr7₉, hF7₉, hs71₉, hs72₉⟩ => ?_)
            obtain rfl : res = .inr (q5₉ + 1, 2 * (f1 + f5), comF F1 F5) := by rw [← hr0x]; exact pCom_5 k1₉ k2₉ k3₉ k4₉
            refine J.iret rfl (Nat.zero_le _) (Nat.zero_le _) dX8_item_434 ⟨r5, _, rfl, rfl, ?_⟩
            exact ⟨(hF7₉.2.2 237 15 (by decide) (by decide) (by decide)).trans wr_s, (hF7₉.2.2 237 16 (by decide) (by decide) (by decide)).trans ((wr_n (by decide)).trans wr_s), ⟨r5 + 3, by omega, by omega, by omega, hr7₉, PoolV.push (PoolV.push (PoolV.push (PoolV.rf (PoolV.w (PoolV.w hV5₉)) hF7₉.rf9 (Nat.le_refl _)) hP7₉.sl) hs71₉) hs72₉⟩, RF.trans hF7₉.rf9 (RF.w (RF.w hA5₉ (by decide)) (by decide)) (Nat.le_refl r) (by omega), hP7₉, hc7₉⟩
          · refine cl_X8_155 rfl (by decide) (k' := 0) (n' := 0) (c_m_signF _ hT5₉ hx₉ hP5₉ (by omega) hW5₉ (by decide) (by decide) k4₉) (roomR (by omega) (by omega)) rfl dX8_item_410 (fun μ6 h6₉ => ?_)
            subst h6₉
            refine J.is11 dX8_item_413 (by decide) rfl ?_
            refine J.al0 dX8_item_415 ?_
            refine gf_X8_137 rfl (x := nI 1) (by decide) wr_s dX8_item_416 ?_
            refine J.if_eqN (tgt := 426) dX8_item_419 (by decide) (by omega) (fun c419₉ => absurd c419₉ (by first | omega | (simp only [not_true_eq_false, not_false_eq_true]; done) | (simp; done))) (fun c419₉ => ?_)
            refine J.iconst dX8_item_422 kI_0 ?_
            refine J.goto (tgt := 434) dX8_item_423 (by decide) ?_
            obtain rfl : res = .inl q5₉ := by rw [← hr0x]; exact pCom_4 k1₉ k2₉ k3₉ k4₉
            refine J.iret rfl (Nat.zero_le _) (Nat.zero_le _) dX8_item_434 ⟨0, _, rfl, rfl, ?_⟩
            exact ⟨(by rw [wr_n (by omega)]; exact hP5₉), wr_s, ⟨r5, by omega, by omega, (by rw [wr_n (by omega)]; exact hr5₉), (PoolV.w hV5₉)⟩, (RF.w hA5₉ (by decide)), rfl⟩
      · refine cl_X8_155 rfl (by decide) (k' := 0) (n' := 0) (c_m_signF _ hT2₉ hx₉ hP2₉ (by omega) hW2₉ (by decide) (by decide) k2₉) (roomR (by omega) (by omega)) rfl dX8_item_369 (fun μ3 h3₉ => ?_)
        subst h3₉
        refine J.is9 dX8_item_372 (by decide) rfl ?_
        refine J.al0 dX8_item_374 ?_
        refine gf_X8_137 rfl (x := nI 1) (by decide) wr_s dX8_item_375 ?_
        refine J.if_eqN (tgt := 385) dX8_item_378 (by decide) (by omega) (fun c378₉ => absurd c378₉ (by first | omega | (simp only [not_true_eq_false, not_false_eq_true]; done) | (simp; done))) (fun c378₉ => ?_)
        refine J.iconst dX8_item_381 kI_0 ?_
        refine J.goto (tgt := 392) dX8_item_382 (by decide) ?_
        refine J.is10 dX8_item_392 (by decide) rfl ?_
        refine J.al0 dX8_item_394 ?_
        refine gf_X8_137 rfl (x := nI 1) (by decide) wr_s dX8_item_395 ?_
        refine J.if_eqN (tgt := 405) dX8_item_398 (by decide) (by omega) (fun c398₉ => absurd c398₉ (by first | omega | (simp only [not_true_eq_false, not_false_eq_true]; done) | (simp; done))) (fun c398₉ => ?_)
        refine J.iconst dX8_item_401 kI_0 ?_
        refine J.goto (tgt := 413) dX8_item_402 (by decide) ?_
        refine J.is11 dX8_item_413 (by decide) rfl ?_
        refine J.al0 dX8_item_415 ?_
        refine gf_X8_137 rfl (x := nI 1) (by decide) wr_s dX8_item_416 ?_
        refine J.if_eqN (tgt := 426) dX8_item_419 (by decide) (by omega) (fun c419₉ => absurd c419₉ (by first | omega | (simp only [not_true_eq_false, not_false_eq_true]; done) | (simp; done))) (fun c419₉ => ?_)
        refine J.iconst dX8_item_422 kI_0 ?_
        refine J.goto (tgt := 434) dX8_item_423 (by decide) ?_
        obtain rfl : res = .inl q1₉ := by rw [← hr0x]; exact pCom_2 k1₉ k2₉
        refine J.iret rfl (Nat.zero_le _) (Nat.zero_le _) dX8_item_434 ⟨0, _, rfl, rfl, ?_⟩
        exact ⟨(by rw [wr_n (by omega)]; exact hP2₉), wr_s, ⟨r2, by omega, by omega, (by rw [wr_n (by omega)]; exact hr2₉), (PoolV.w hV2₉)⟩, (RF.w hA2₉ (by decide)), rfl⟩
  · refine J.al0 dX8_item_27 ?_
    refine J.iconst dX8_item_28 kI_1 ?_
    refine pf_X8_137 rfl (by decide) (Or.inr (by decide)) dX8_item_29 ?_
    refine J.iconst dX8_item_32 kI_0 ?_
    obtain rfl : n = 0 := by omega
    obtain rfl : res = .inl p := by rw [← hr0x]; exact pCom_1 rfl
    refine J.iret rfl (Nat.zero_le _) (Nat.zero_le _) dX8_item_33 ⟨0, _, rfl, rfl, ?_⟩
    exact ⟨(by rw [wr_n (by omega)]; exact hp₉), wr_s, ⟨r, by omega, by omega, (by rw [wr_n (by omega)]; exact hr₉), (PoolV.w hV₉)⟩, (RF.w RF.rf (by decide)), rfl⟩
