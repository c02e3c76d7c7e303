/-! ===== printed: the model: its reader ===== -/
set_option maxRecDepth 100000 in
set_option maxHeartbeats 4000000 in
theorem c_m_isItem {g : GP} {adr : Nat → Nat} (μ : Mem) {t : Nat → Nat} {x p : Nat} (hT₉ : TxM μ 245 14 (x, t)) (hx₉ : x ≤ 60) (hp₉ : μ 237 15 = nI p) (hpx₉ : p ≤ x) (hw₉ : μ 237 16 = nI 0) : CT g yX8_isItem mX8_isItem (RM 2 0 0) (WM g adr μ) [.ref (adr 237)] (PM g adr ((.inl (some (.int (if isIt t x p = true then nI 1 else nI 0))))) (fun μ' => μ' = μ)) := by
  refine CT.of (l0 := [some (.ref (adr 237)), none]) (by decide +kernel) rfl (Nat.le_of_ble_eq_true rfl) rfl ?_
  refine J.al0 dX8_isItem_0 ?_
  refine J.bipush dX8_isItem_1 kb_114 ?_
  refine J.bipush dX8_isItem_3 kb_115 ?_
  refine cl_X8_144 rfl (by decide) (k' := 0) (n' := 0) (c_m_isHere _ hT₉ hx₉ hp₉ hpx₉ hw₉ (by decide) (by decide)) ⟨⟨by decide, by decide⟩, ⟨rfl, rfl⟩, by decide, by decide⟩ rfl dX8_isItem_5 (fun μ9 h9₉ => ?_)
  rw [h9₉]; clear h9₉
  refine J.if_neB (tgt := 22) dX8_isItem_8 (by decide) (fun c8₉ => ?_) (fun c8₉ => ?_)
  · refine J.iconst dX8_isItem_22 kI_1 ?_
    refine J.goto (tgt := 27) dX8_isItem_23 (by decide) ?_
    refine J.is1 dX8_isItem_27 (by decide) rfl ?_
    refine J.il1 dX8_isItem_28 ?_
    refine J.if_neN (tgt := 54) dX8_isItem_29 (by decide) (by omega) (fun c29₉ => ?_) (fun c29₉ => absurd c29₉ (by first | omega | (simp only [not_true_eq_false, not_false_eq_true]; done) | (simp; done)))
    refine J.iconst dX8_isItem_54 kI_1 ?_
    refine J.goto (tgt := 59) dX8_isItem_55 (by decide) ?_
    refine J.zret (ty := .boolean) rfl (by decide) (by decide) (by decide) dX8_isItem_59 ⟨_, rfl, ?_, ?_⟩
    · rw [if_pos (isIt_m.mpr (by first | exact Or.inl c8₉ | exact Or.inr (Or.inl c19₉) | exact Or.inr (Or.inr (Or.inl c40₉)) | exact Or.inr (Or.inr (Or.inr c51₉))))]
    · rfl
  · refine J.al0 dX8_isItem_11 ?_
    refine J.bipush dX8_isItem_12 kb_99 ?_
    refine J.bipush dX8_isItem_14 kb_99 ?_
    refine cl_X8_144 rfl (by decide) (k' := 0) (n' := 0) (c_m_isHere _ hT₉ hx₉ hp₉ hpx₉ hw₉ (by decide) (by decide)) ⟨⟨by decide, by decide⟩, ⟨rfl, rfl⟩, by decide, by decide⟩ rfl dX8_isItem_16 (fun μ9 h9₉ => ?_)
    rw [h9₉]; clear h9₉
    refine J.if_eqB (tgt := 26) dX8_isItem_19 (by decide) (fun c19₉ => ?_) (fun c19₉ => ?_)
    · refine J.iconst dX8_isItem_26 kI_0 ?_
      refine J.is1 dX8_isItem_27 (by decide) rfl ?_
      refine J.il1 dX8_isItem_28 ?_
      refine J.if_neN (tgt := 54) dX8_isItem_29 (by decide) (by omega) (fun c29₉ => absurd c29₉ (by first | omega | (simp only [not_true_eq_false, not_false_eq_true]; done) | (simp; done))) (fun c29₉ => ?_)
      refine J.al0 dX8_isItem_32 ?_
      refine J.bipush dX8_isItem_33 kb_40 ?_
      refine J.bipush dX8_isItem_35 kb_40 ?_
      refine cl_X8_144 rfl (by decide) (k' := 0) (n' := 0) (c_m_isHere _ hT₉ hx₉ hp₉ hpx₉ hw₉ (by decide) (by decide)) ⟨⟨by decide, by decide⟩, ⟨rfl, rfl⟩, by decide, by decide⟩ rfl dX8_isItem_37 (fun μ9 h9₉ => ?_)
      rw [h9₉]; clear h9₉
      refine J.if_neB (tgt := 54) dX8_isItem_40 (by decide) (fun c40₉ => ?_) (fun c40₉ => ?_)
      · refine J.iconst dX8_isItem_54 kI_1 ?_
        refine J.goto (tgt := 59) dX8_isItem_55 (by decide) ?_
        refine J.zret (ty := .boolean) rfl (by decide) (by decide) (by decide) dX8_isItem_59 ⟨_, rfl, ?_, ?_⟩
        · rw [if_pos (isIt_m.mpr (by first | exact Or.inl c8₉ | exact Or.inr (Or.inl c19₉) | exact Or.inr (Or.inr (Or.inl c40₉)) | exact Or.inr (Or.inr (Or.inr c51₉))))]
        · rfl
      · refine J.al0 dX8_isItem_43 ?_
        refine J.bipush dX8_isItem_44 kb_91 ?_
        refine J.bipush dX8_isItem_46 kb_91 ?_
        refine cl_X8_144 rfl (by decide) (k' := 0) (n' := 0) (c_m_isHere _ hT₉ hx₉ hp₉ hpx₉ hw₉ (by decide) (by decide)) ⟨⟨by decide, by decide⟩, ⟨rfl, rfl⟩, by decide, by decide⟩ rfl dX8_isItem_48 (fun μ9 h9₉ => ?_)
        rw [h9₉]; clear h9₉
        refine J.if_eqB (tgt := 58) dX8_isItem_51 (by decide) (fun c51₉ => ?_) (fun c51₉ => ?_)
        · refine J.iconst dX8_isItem_58 kI_0 ?_
          refine J.zret (ty := .boolean) rfl (by decide) (by decide) (by decide) dX8_isItem_59 ⟨_, rfl, ?_, ?_⟩
          · rw [if_neg (fun q => by rcases isIt_m.mp q with q | q | q | q <;> contradiction)]
          · rfl
        · refine J.iconst dX8_isItem_54 kI_1 ?_
          refine J.goto (tgt := 59) dX8_isItem_55 (by decide) ?_
          refine J.zret (ty := .boolean) rfl (by decide) (by decide) (by decide) dX8_isItem_59 ⟨_, rfl, ?_, ?_⟩
          · rw [if_pos (isIt_m.mpr (by first | exact Or.inl c8₉ | exact Or.inr (Or.inl c19₉) | exact Or.inr (Or.inr (Or.inl c40₉)) | exact Or.inr (Or.inr (Or.inr c51₉))))]
          · rfl
    · refine J.iconst dX8_isItem_22 kI_1 ?_
      refine J.goto (tgt := 27) dX8_isItem_23 (by decide) ?_
      refine J.is1 dX8_isItem_27 (by decide) rfl ?_
      refine J.il1 dX8_isItem_28 ?_
      refine J.if_neN (tgt := 54) dX8_isItem_29 (by decide) (by omega) (fun c29₉ => ?_) (fun c29₉ => absurd c29₉ (by first | omega | (simp only [not_true_eq_false, not_false_eq_true]; done) | (simp; done)))
      refine J.iconst dX8_isItem_54 kI_1 ?_
      refine J.goto (tgt := 59) dX8_isItem_55 (by decide) ?_
      refine J.zret (ty := .boolean) rfl (by decide) (by decide) (by decide) dX8_isItem_59 ⟨_, rfl, ?_, ?_⟩
      · rw [if_pos (isIt_m.mpr (by first | exact Or.inl c8₉ | exact Or.inr (Or.inl c19₉) | exact Or.inr (Or.inr (Or.inl c40₉)) | exact Or.inr (Or.inr (Or.inr c51₉))))]
      · rfl

set_option maxRecDepth 100000 in
set_option maxHeartbeats 4000000 in
theorem c_m_isItemW {g : GP} {adr : Nat → Nat} (μ : Mem) (hw₉ : μ 237 16 = nI 1) : CT g yX8_isItem mX8_isItem (RM 2 0 0) (WM g adr μ) [.ref (adr 237)] (PM g adr ((.inl (some (.int (nI 0))))) (fun μ' => μ' = μ)) := by
  refine CT.of (l0 := [some (.ref (adr 237)), none]) (by decide +kernel) rfl (Nat.le_of_ble_eq_true rfl) rfl ?_
  refine J.al0 dX8_isItem_0 ?_
  refine J.bipush dX8_isItem_1 kb_114 ?_
  refine J.bipush dX8_isItem_3 kb_115 ?_
  refine cl_X8_144 rfl (by decide) (k' := 0) (n' := 0) (c_m_isHereW _ hw₉) ⟨⟨by decide, by decide⟩, ⟨rfl, rfl⟩, by decide, by decide⟩ rfl dX8_isItem_5 (fun μ9 h9₉ => ?_)
  rw [h9₉]; clear h9₉
  refine J.if_neN (tgt := 22) dX8_isItem_8 (by decide) (by omega) (fun c8₉ => absurd c8₉ (by first | omega | (simp only [not_true_eq_false, not_false_eq_true]; done) | (simp; done))) (fun c8₉ => ?_)
  refine J.al0 dX8_isItem_11 ?_
  refine J.bipush dX8_isItem_12 kb_99 ?_
  refine J.bipush dX8_isItem_14 kb_99 ?_
  refine cl_X8_144 rfl (by decide) (k' := 0) (n' := 0) (c_m_isHereW _ hw₉) ⟨⟨by decide, by decide⟩, ⟨rfl, rfl⟩, by decide, by decide⟩ rfl dX8_isItem_16 (fun μ9 h9₉ => ?_)
  rw [h9₉]; clear h9₉
  refine J.if_eqN (tgt := 26) dX8_isItem_19 (by decide) (by omega) (fun c19₉ => ?_) (fun c19₉ => absurd c19₉ (by first | omega | (simp only [not_true_eq_false, not_false_eq_true]; done) | (simp; done)))
  refine J.iconst dX8_isItem_26 kI_0 ?_
  refine J.is1 dX8_isItem_27 (by decide) rfl ?_
  refine J.il1 dX8_isItem_28 ?_
  refine J.if_neN (tgt := 54) dX8_isItem_29 (by decide) (by omega) (fun c29₉ => absurd c29₉ (by first | omega | (simp only [not_true_eq_false, not_false_eq_true]; done) | (simp; done))) (fun c29₉ => ?_)
  refine J.al0 dX8_isItem_32 ?_
  refine J.bipush dX8_isItem_33 kb_40 ?_
  refine J.bipush dX8_isItem_35 kb_40 ?_
  refine cl_X8_144 rfl (by decide) (k' := 0) (n' := 0) (c_m_isHereW _ hw₉) ⟨⟨by decide, by decide⟩, ⟨rfl, rfl⟩, by decide, by decide⟩ rfl dX8_isItem_37 (fun μ9 h9₉ => ?_)
  rw [h9₉]; clear h9₉
  refine J.if_neN (tgt := 54) dX8_isItem_40 (by decide) (by omega) (fun c40₉ => absurd c40₉ (by first | omega | (simp only [not_true_eq_false, not_false_eq_true]; done) | (simp; done))) (fun c40₉ => ?_)
  refine J.al0 dX8_isItem_43 ?_
  refine J.bipush dX8_isItem_44 kb_91 ?_
  refine J.bipush dX8_isItem_46 kb_91 ?_
  refine cl_X8_144 rfl (by decide) (k' := 0) (n' := 0) (c_m_isHereW _ hw₉) ⟨⟨by decide, by decide⟩, ⟨rfl, rfl⟩, by decide, by decide⟩ rfl dX8_isItem_48 (fun μ9 h9₉ => ?_)
  rw [h9₉]; clear h9₉
  refine J.if_eqN (tgt := 58) dX8_isItem_51 (by decide) (by omega) (fun c51₉ => ?_) (fun c51₉ => absurd c51₉ (by first | omega | (simp only [not_true_eq_false, not_false_eq_true]; done) | (simp; done)))
  refine J.iconst dX8_isItem_58 kI_0 ?_
  refine J.zret (ty := .boolean) rfl (by decide) (by decide) (by decide) dX8_isItem_59 ⟨_, rfl, ?_, ?_⟩
  · rfl
  · rfl

set_option maxRecDepth 100000 in
set_option maxHeartbeats 4000000 in
theorem c_m_itemr {g : GP} {adr : Nat → Nat} (μ : Mem) {t : Nat → Nat} {x p r d n : Nat} {σ : AS} {res : PRes} (hT₉ : TxM μ 245 14 (x, t)) (hx₉ : x ≤ 60) (hS₉ : MS μ 238 0 σ) (hp₉ : μ 237 15 = nI p) (hpl₉ : p < x) (hw₉ : μ 237 16 = nI 0) (hr₉ : μ 237 11 = nI r) (hr0₉ : 0 < r) (hV₉ : PoolV μ r) (hro₉ : r + 2 * (x - p) ≤ 200) (hk₉ : hr t x p 114 114 = true) (hr0x : pMove t x 0 p = res) : CT g yX8_item mX8_item (RM (4 * n + 4) 0 0) (WM g adr μ) [.ref (adr 237), .int (nI d)] (PMx g adr (fun it μ' => IP μ' μ x r p it res)) := by
  refine CT.of (l0 := [some (.ref (adr 237)), some (.int (nI d)), none, none, none, none, none, none, none, none, none, none]) (by decide +kernel) rfl (Nat.le_of_ble_eq_true rfl) rfl ?_
  have hk1₉ := hr_one.mp hk₉
  have hk0₉ : μ 245 p = nI 114 := by rw [(hT₉.2 p hk1₉.1).1]; exact congrArg nI hk1₉.2
  refine J.al0 dX8_item_0 ?_
  refine gf_X8_31 rfl (o2 := 245) (by decide) rfl dX8_item_1 ?_
  refine J.al0 dX8_item_4 ?_
  refine gf_X8_141 rfl (x := nI p) (by decide) hp₉ dX8_item_5 ?_
  refine J.cald (N := 60) (x := nI 114) (by decide) (by decide) (by omega) hk0₉ dX8_item_8 ?_
  refine J.is2 dX8_item_9 (by decide) rfl ?_
  refine J.il2 dX8_item_10 ?_
  refine J.bipush dX8_item_11 kb_40 ?_
  refine J.icmp_eqN (tgt := 22) dX8_item_13 (by decide) (by omega) (by omega) (fun c13₉ => absurd c13₉ (by first | omega | (simp only [not_true_eq_false, not_false_eq_true]; done) | (simp; done))) (fun c13₉ => ?_)
  refine J.il2 dX8_item_16 ?_
  refine J.bipush dX8_item_17 kb_91 ?_
  refine J.icmp_neN (tgt := 34) dX8_item_19 (by decide) (by omega) (by omega) (fun c19₉ => ?_) (fun c19₉ => absurd c19₉ (by first | omega | (simp only [not_true_eq_false, not_false_eq_true]; done) | (simp; done)))
  refine J.al0 dX8_item_34 ?_
  refine J.dup dX8_item_35 rfl ?_
  refine gf_X8_141 rfl (x := nI p) (by decide) hp₉ dX8_item_36 ?_
  refine J.iconst dX8_item_39 kI_1 ?_
  refine J.iaddN dX8_item_40 ?_
  refine pf_X8_141 rfl (by decide) dX8_item_41 ?_
  refine J.il2 dX8_item_44 ?_
  refine J.lookup (tgt := 88) dX8_item_45 (by decide) (show _ = _ from rfl) (by decide) ?_
  refine J.al0 dX8_item_88 ?_
  refine J.bipush dX8_item_89 kb_48 ?_
  refine J.bipush dX8_item_91 kb_51 ?_
  rcases k1₉ : pDig t x (p + 1) 0 3 with _ | w
  · refine cl_X8_155 rfl (by decide) (k' := 0) (n' := 0) (c_m_signF _ (hT₉.rf (RF.w (RF.rf (r := 0)) (by decide))) hx₉ wr_s (by omega) (by rw [wr_n (by omega)]; exact hw₉) (by decide) (by decide) (sgF k1₉)) (roomR (by omega) (by omega)) rfl dX8_item_93 (fun μ2 h2₉ => ?_)
    subst h2₉
    refine J.is3 dX8_item_96 (by decide) rfl ?_
    refine J.al0 dX8_item_97 ?_
    refine gf_X8_137 rfl (x := nI 1) (by decide) wr_s dX8_item_98 ?_
    refine J.if_eqN (tgt := 108) dX8_item_101 (by decide) (by omega) (fun c101₉ => absurd c101₉ (by first | omega | (simp only [not_true_eq_false, not_false_eq_true]; done) | (simp; done))) (fun c101₉ => ?_)
    refine J.iconst dX8_item_104 kI_0 ?_
    refine J.goto (tgt := 118) dX8_item_105 (by decide) ?_
    refine J.is4 dX8_item_118 (by decide) rfl ?_
    refine J.al0 dX8_item_120 ?_
    refine gf_X8_137 rfl (x := nI 1) (by decide) wr_s dX8_item_121 ?_
    refine J.if_eqN (tgt := 131) dX8_item_124 (by decide) (by omega) (fun c124₉ => absurd c124₉ (by first | omega | (simp only [not_true_eq_false, not_false_eq_true]; done) | (simp; done))) (fun c124₉ => ?_)
    refine J.iconst dX8_item_127 kI_0 ?_
    refine J.goto (tgt := 139) dX8_item_128 (by decide) ?_
    obtain rfl : res = .inl (p + 1) := by rw [← hr0x]; exact pMove_1 (a := 0) k1₉
    refine J.iret rfl (Nat.zero_le _) (Nat.zero_le _) dX8_item_139 ⟨0, _, rfl, rfl, ?_⟩
    exact ⟨(by rw [wr_n (by omega)]; exact wr_s), wr_s, ⟨r, Nat.le_refl r, by omega, (by rw [wr_n (by omega)]; rw [wr_n (by omega)]; exact hr₉), (PoolV.w (PoolV.w hV₉))⟩, (RF.w (RF.w RF.rf (by decide)) (by decide)), rfl⟩
  · refine cl_X8_155 rfl (by decide) (k' := 0) (n' := 0) (c_m_signT _ (hT₉.rf (RF.w (RF.rf (r := 0)) (by decide))) hx₉ wr_s (by rw [wr_n (by omega)]; exact hw₉) k1₉ (by decide) (by decide)) (roomR (by omega) (by omega)) rfl dX8_item_93 (fun μ2 h2₉ => ?_)
    subst h2₉
    have g2 := pDig_some k1₉
    refine J.is3 dX8_item_96 (by decide) rfl ?_
    refine J.al0 dX8_item_97 ?_
    refine gf_X8_137 rfl (x := nI 0) (by decide) (by rw [wr_n (by omega)]; exact wr_s) dX8_item_98 ?_
    refine J.if_eqN (tgt := 108) dX8_item_101 (by decide) (by omega) (fun c101₉ => ?_) (fun c101₉ => absurd c101₉ (by first | omega | (simp only [not_true_eq_false, not_false_eq_true]; done) | (simp; done)))
    refine J.iconst dX8_item_108 kI_1 ?_
    refine J.al0 dX8_item_109 ?_
    refine J.bipush dX8_item_110 kb_49 ?_
    refine J.bipush dX8_item_112 kb_55 ?_
    rcases k2₉ : pDig t x (p + 2) 1 7 with _ | b
    · refine cl_X8_155 rfl (by decide) (k' := 0) (n' := 0) (c_m_signF _ (hT₉.rf (RF.w (RF.w (RF.w (RF.rf (r := 0)) (by decide)) (by decide)) (by decide))) hx₉ wr_s (by omega) (by rw [wr_n (by omega)]; exact wr_s) (by decide) (by decide) (sgF k2₉)) (roomR (by omega) (by omega)) rfl dX8_item_114 (fun μ3 h3₉ => ?_)
      subst h3₉
      refine J.iaddN dX8_item_117 ?_
      refine J.is4 dX8_item_118 (by decide) rfl ?_
      refine J.al0 dX8_item_120 ?_
      refine gf_X8_137 rfl (x := nI 1) (by decide) wr_s dX8_item_121 ?_
      refine J.if_eqN (tgt := 131) dX8_item_124 (by decide) (by omega) (fun c124₉ => absurd c124₉ (by first | omega | (simp only [not_true_eq_false, not_false_eq_true]; done) | (simp; done))) (fun c124₉ => ?_)
      refine J.iconst dX8_item_127 kI_0 ?_
      refine J.goto (tgt := 139) dX8_item_128 (by decide) ?_
      obtain rfl : res = .inl (p + 2) := by rw [← hr0x]; exact pMove_2 (a := 0) k1₉ k2₉
      refine J.iret rfl (Nat.zero_le _) (Nat.zero_le _) dX8_item_139 ⟨0, _, rfl, rfl, ?_⟩
      exact ⟨(by rw [wr_n (by omega)]; exact wr_s), wr_s, ⟨r, Nat.le_refl r, by omega, (by rw [wr_n (by omega)]; rw [wr_n (by omega)]; rw [wr_n (by omega)]; rw [wr_n (by omega)]; exact hr₉), (PoolV.w (PoolV.w (PoolV.w (PoolV.w hV₉))))⟩, (RF.w (RF.w (RF.w (RF.w RF.rf (by decide)) (by decide)) (by decide)) (by decide)), rfl⟩
    · refine cl_X8_155 rfl (by decide) (k' := 0) (n' := 0) (c_m_signT _ (hT₉.rf (RF.w (RF.w (RF.w (RF.rf (r := 0)) (by decide)) (by decide)) (by decide))) hx₉ wr_s (by rw [wr_n (by omega)]; exact wr_s) k2₉ (by decide) (by decide)) (roomR (by omega) (by omega)) rfl dX8_item_114 (fun μ3 h3₉ => ?_)
      subst h3₉
      have g3 := pDig_some k2₉
      refine J.iaddN dX8_item_117 ?_
      rw [show 1 + (b - 1) = b by omega]
      refine J.is4 dX8_item_118 (by decide) rfl ?_
      refine J.al0 dX8_item_120 ?_
      refine gf_X8_137 rfl (x := nI 0) (by decide) (by rw [wr_n (by omega)]; exact wr_s) dX8_item_121 ?_
      refine J.if_eqN (tgt := 131) dX8_item_124 (by decide) (by omega) (fun c124₉ => ?_) (fun c124₉ => absurd c124₉ (by first | omega | (simp only [not_true_eq_false, not_false_eq_true]; done) | (simp; done)))
      refine J.al0 dX8_item_131 ?_
      refine J.iconst dX8_item_132 kI_0 ?_
      refine J.il3 dX8_item_133 ?_
      refine J.il4 dX8_item_134 ?_
      refine cl_X8_82 rfl (by decide) (k' := 0) (n' := 0) (c_m_move0 _ (r := r) (by rw [wr_n (by omega)]; rw [wr_n (by omega)]; rw [wr_n (by omega)]; rw [wr_n (by omega)]; rw [wr_n (by omega)]; exact hr₉) (by omega) (show mvOK 0 w b by unfold mvOK; omega)) (roomR (by omega) (by omega)) rfl dX8_item_136 (fun μ4 ⟨hP4₉, hc4₉, hr4₉, hF4₉⟩ => ?_)
      obtain rfl : res = .inr (p + 3, 1, moveF 0 w b) := by rw [← hr0x]; exact pMove_3 (a := 0) k1₉ k2₉
      refine J.iret rfl (Nat.zero_le _) (Nat.zero_le _) dX8_item_139 ⟨r, _, rfl, rfl, ?_⟩
      exact ⟨(hF4₉.2.2 237 15 (by decide) (by decide) (by decide)).trans wr_s, (hF4₉.2.2 237 16 (by decide) (by decide) (by decide)).trans ((wr_n (by decide)).trans wr_s), ⟨r + 1, Nat.le_refl r, Nat.lt_succ_self r, by omega, hr4₉, PoolV.push (PoolV.rf (PoolV.w (PoolV.w (PoolV.w (PoolV.w (PoolV.w hV₉))))) hF4₉.rf9 (Nat.le_refl r)) hP4₉.sl⟩, RF.trans hF4₉.rf9 (RF.w (RF.w (RF.w (RF.w (RF.w RF.rf (by decide)) (by decide)) (by decide)) (by decide)) (by decide)) (Nat.le_refl r) (Nat.le_refl r), hP4₉, hc4₉⟩

set_option maxRecDepth 100000 in
set_option maxHeartbeats 4000000 in
theorem c_m_itemc {g : GP} {adr : Nat → Nat} (μ : Mem) {t : Nat → Nat} {x p r d n : Nat} {σ : AS} {res : PRes} (hT₉ : TxM μ 245 14 (x, t)) (hx₉ : x ≤ 60) (hS₉ : MS μ 238 0 σ) (hp₉ : μ 237 15 = nI p) (hpl₉ : p < x) (hw₉ : μ 237 16 = nI 0) (hr₉ : μ 237 11 = nI r) (hr0₉ : 0 < r) (hV₉ : PoolV μ r) (hro₉ : r + 2 * (x - p) ≤ 200) (hk₉ : hr t x p 99 99 = true) (hr0x : pMove t x 1 p = res) : CT g yX8_item mX8_item (RM (4 * n + 4) 0 0) (WM g adr μ) [.ref (adr 237), .int (nI d)] (PMx g adr (fun it μ' => IP μ' μ x r p it res)) := by
  refine CT.of (l0 := [some (.ref (adr 237)), some (.int (nI d)), none, none, none, none, none, none, none, none, none, none]) (by decide +kernel) rfl (Nat.le_of_ble_eq_true rfl) rfl ?_
  have hk1₉ := hr_one.mp hk₉
  have hk0₉ : μ 245 p = nI 99 := by rw [(hT₉.2 p hk1₉.1).1]; exact congrArg nI hk1₉.2
  refine J.al0 dX8_item_0 ?_
  refine gf_X8_31 rfl (o2 := 245) (by decide) rfl dX8_item_1 ?_
  refine J.al0 dX8_item_4 ?_
  refine gf_X8_141 rfl (x := nI p) (by decide) hp₉ dX8_item_5 ?_
  refine J.cald (N := 60) (x := nI 99) (by decide) (by decide) (by omega) hk0₉ dX8_item_8 ?_
  refine J.is2 dX8_item_9 (by decide) rfl ?_
  refine J.il2 dX8_item_10 ?_
  refine J.bipush dX8_item_11 kb_40 ?_
  refine J.icmp_eqN (tgt := 22) dX8_item_13 (by decide) (by omega) (by omega) (fun c13₉ => absurd c13₉ (by first | omega | (simp only [not_true_eq_false, not_false_eq_true]; done) | (simp; done))) (fun c13₉ => ?_)
  refine J.il2 dX8_item_16 ?_
  refine J.bipush dX8_item_17 kb_91 ?_
  refine J.icmp_neN (tgt := 34) dX8_item_19 (by decide) (by omega) (by omega) (fun c19₉ => ?_) (fun c19₉ => absurd c19₉ (by first | omega | (simp only [not_true_eq_false, not_false_eq_true]; done) | (simp; done)))
  refine J.al0 dX8_item_34 ?_
  refine J.dup dX8_item_35 rfl ?_
  refine gf_X8_141 rfl (x := nI p) (by decide) hp₉ dX8_item_36 ?_
  refine J.iconst dX8_item_39 kI_1 ?_
  refine J.iaddN dX8_item_40 ?_
  refine pf_X8_141 rfl (by decide) dX8_item_41 ?_
  refine J.il2 dX8_item_44 ?_
  refine J.lookup (tgt := 140) dX8_item_45 (by decide) (show _ = _ from rfl) (by decide) ?_
  refine J.al0 dX8_item_140 ?_
  refine J.bipush dX8_item_141 kb_48 ?_
  refine J.bipush dX8_item_143 kb_55 ?_
  rcases k1₉ : pDig t x (p + 1) 0 7 with _ | w
  · refine cl_X8_155 rfl (by decide) (k' := 0) (n' := 0) (c_m_signF _ (hT₉.rf (RF.w (RF.rf (r := 0)) (by decide))) hx₉ wr_s (by omega) (by rw [wr_n (by omega)]; exact hw₉) (by decide) (by decide) (sgF k1₉)) (roomR (by omega) (by omega)) rfl dX8_item_145 (fun μ2 h2₉ => ?_)
    subst h2₉
    refine J.is3 dX8_item_148 (by decide) rfl ?_
    refine J.al0 dX8_item_149 ?_
    refine gf_X8_137 rfl (x := nI 1) (by decide) wr_s dX8_item_150 ?_
    refine J.if_eqN (tgt := 160) dX8_item_153 (by decide) (by omega) (fun c153₉ => absurd c153₉ (by first | omega | (simp only [not_true_eq_false, not_false_eq_true]; done) | (simp; done))) (fun c153₉ => ?_)
    refine J.iconst dX8_item_156 kI_0 ?_
    refine J.goto (tgt := 170) dX8_item_157 (by decide) ?_
    refine J.is4 dX8_item_170 (by decide) rfl ?_
    refine J.al0 dX8_item_172 ?_
    refine gf_X8_137 rfl (x := nI 1) (by decide) wr_s dX8_item_173 ?_
    refine J.if_eqN (tgt := 183) dX8_item_176 (by decide) (by omega) (fun c176₉ => absurd c176₉ (by first | omega | (simp only [not_true_eq_false, not_false_eq_true]; done) | (simp; done))) (fun c176₉ => ?_)
    refine J.iconst dX8_item_179 kI_0 ?_
    refine J.goto (tgt := 191) dX8_item_180 (by decide) ?_
    obtain rfl : res = .inl (p + 1) := by rw [← hr0x]; exact pMove_1 (a := 1) k1₉
    refine J.iret rfl (Nat.zero_le _) (Nat.zero_le _) dX8_item_191 ⟨0, _, rfl, rfl, ?_⟩
    exact ⟨(by rw [wr_n (by omega)]; exact wr_s), wr_s, ⟨r, Nat.le_refl r, by omega, (by rw [wr_n (by omega)]; rw [wr_n (by omega)]; exact hr₉), (PoolV.w (PoolV.w hV₉))⟩, (RF.w (RF.w RF.rf (by decide)) (by decide)), rfl⟩
  · refine cl_X8_155 rfl (by decide) (k' := 0) (n' := 0) (c_m_signT _ (hT₉.rf (RF.w (RF.rf (r := 0)) (by decide))) hx₉ wr_s (by rw [wr_n (by omega)]; exact hw₉) k1₉ (by decide) (by decide)) (roomR (by omega) (by omega)) rfl dX8_item_145 (fun μ2 h2₉ => ?_)
    subst h2₉
    have g2 := pDig_some k1₉
    refine J.is3 dX8_item_148 (by decide) rfl ?_
    refine J.al0 dX8_item_149 ?_
    refine gf_X8_137 rfl (x := nI 0) (by decide) (by rw [wr_n (by omega)]; exact wr_s) dX8_item_150 ?_
    refine J.if_eqN (tgt := 160) dX8_item_153 (by decide) (by omega) (fun c153₉ => ?_) (fun c153₉ => absurd c153₉ (by first | omega | (simp only [not_true_eq_false, not_false_eq_true]; done) | (simp; done)))
    refine J.iconst dX8_item_160 kI_1 ?_
    refine J.al0 dX8_item_161 ?_
    refine J.bipush dX8_item_162 kb_49 ?_
    refine J.bipush dX8_item_164 kb_51 ?_
    rcases k2₉ : pDig t x (p + 2) 1 3 with _ | b
    · refine cl_X8_155 rfl (by decide) (k' := 0) (n' := 0) (c_m_signF _ (hT₉.rf (RF.w (RF.w (RF.w (RF.rf (r := 0)) (by decide)) (by decide)) (by decide))) hx₉ wr_s (by omega) (by rw [wr_n (by omega)]; exact wr_s) (by decide) (by decide) (sgF k2₉)) (roomR (by omega) (by omega)) rfl dX8_item_166 (fun μ3 h3₉ => ?_)
      subst h3₉
      refine J.iaddN dX8_item_169 ?_
      refine J.is4 dX8_item_170 (by decide) rfl ?_
      refine J.al0 dX8_item_172 ?_
      refine gf_X8_137 rfl (x := nI 1) (by decide) wr_s dX8_item_173 ?_
      refine J.if_eqN (tgt := 183) dX8_item_176 (by decide) (by omega) (fun c176₉ => absurd c176₉ (by first | omega | (simp only [not_true_eq_false, not_false_eq_true]; done) | (simp; done))) (fun c176₉ => ?_)
      refine J.iconst dX8_item_179 kI_0 ?_
      refine J.goto (tgt := 191) dX8_item_180 (by decide) ?_
      obtain rfl : res = .inl (p + 2) := by rw [← hr0x]; exact pMove_2 (a := 1) k1₉ k2₉
      refine J.iret rfl (Nat.zero_le _) (Nat.zero_le _) dX8_item_191 ⟨0, _, rfl, rfl, ?_⟩
      exact ⟨(by rw [wr_n (by omega)]; exact wr_s), wr_s, ⟨r, Nat.le_refl r, by omega, (by rw [wr_n (by omega)]; rw [wr_n (by omega)]; rw [wr_n (by omega)]; rw [wr_n (by omega)]; exact hr₉), (PoolV.w (PoolV.w (PoolV.w (PoolV.w hV₉))))⟩, (RF.w (RF.w (RF.w (RF.w RF.rf (by decide)) (by decide)) (by decide)) (by decide)), rfl⟩
    · refine cl_X8_155 rfl (by decide) (k' := 0) (n' := 0) (c_m_signT _ (hT₉.rf (RF.w (RF.w (RF.w (RF.rf (r := 0)) (by decide)) (by decide)) (by decide))) hx₉ wr_s (by rw [wr_n (by omega)]; exact wr_s) k2₉ (by decide) (by decide)) (roomR (by omega) (by omega)) rfl dX8_item_166 (fun μ3 h3₉ => ?_)
      subst h3₉
      have g3 := pDig_some k2₉
      refine J.iaddN dX8_item_169 ?_
      rw [show 1 + (b - 1) = b by omega]
      refine J.is4 dX8_item_170 (by decide) rfl ?_
      refine J.al0 dX8_item_172 ?_
      refine gf_X8_137 rfl (x := nI 0) (by decide) (by rw [wr_n (by omega)]; exact wr_s) dX8_item_173 ?_
      refine J.if_eqN (tgt := 183) dX8_item_176 (by decide) (by omega) (fun c176₉ => ?_) (fun c176₉ => absurd c176₉ (by first | omega | (simp only [not_true_eq_false, not_false_eq_true]; done) | (simp; done)))
      refine J.al0 dX8_item_183 ?_
      refine J.iconst dX8_item_184 kI_1 ?_
      refine J.il3 dX8_item_185 ?_
      refine J.il4 dX8_item_186 ?_
      refine cl_X8_82 rfl (by decide) (k' := 0) (n' := 0) (c_m_move1 _ (r := r) (by rw [wr_n (by omega)]; rw [wr_n (by omega)]; rw [wr_n (by omega)]; rw [wr_n (by omega)]; rw [wr_n (by omega)]; exact hr₉) (by omega) (show mvOK 1 w b by unfold mvOK; omega)) (roomR (by omega) (by omega)) rfl dX8_item_188 (fun μ4 ⟨hP4₉, hc4₉, hr4₉, hF4₉⟩ => ?_)
      obtain rfl : res = .inr (p + 3, 1, moveF 1 w b) := by rw [← hr0x]; exact pMove_3 (a := 1) k1₉ k2₉
      refine J.iret rfl (Nat.zero_le _) (Nat.zero_le _) dX8_item_191 ⟨r, _, rfl, rfl, ?_⟩
      exact ⟨(hF4₉.2.2 237 15 (by decide) (by decide) (by decide)).trans wr_s, (hF4₉.2.2 237 16 (by decide) (by decide) (by decide)).trans ((wr_n (by decide)).trans wr_s), ⟨r + 1, Nat.le_refl r, Nat.lt_succ_self r, by omega, hr4₉, PoolV.push (PoolV.rf (PoolV.w (PoolV.w (PoolV.w (PoolV.w (PoolV.w hV₉))))) hF4₉.rf9 (Nat.le_refl r)) hP4₉.sl⟩, RF.trans hF4₉.rf9 (RF.w (RF.w (RF.w (RF.w (RF.w RF.rf (by decide)) (by decide)) (by decide)) (by decide)) (by decide)) (Nat.le_refl r) (Nat.le_refl r), hP4₉, hc4₉⟩

set_option maxRecDepth 100000 in
set_option maxHeartbeats 4000000 in
theorem c_m_items1 {g : GP} {adr : Nat → Nat} (μ : Mem) {t : Nat → Nat} {x p r d n : Nat} {σ : AS} {res : PRes} (hT₉ : TxM μ 245 14 (x, t)) (hx₉ : x ≤ 60) (hS₉ : MS μ 238 0 σ) (hp₉ : μ 237 15 = nI p) (hpl₉ : p < x) (hw₉ : μ 237 16 = nI 0) (hr₉ : μ 237 11 = nI r) (hr0₉ : 0 < r) (hV₉ : PoolV μ r) (hro₉ : r + 2 * (x - p) ≤ 200) (hk₉ : hr t x p 115 115 = true) (hs₉ : pDig t x (p + 1) 0 4 = none) (hr0x : pShelf t x σ p = res) : CT g yX8_item mX8_item (RM (4 * n + 4) 0 0) (WM g adr μ) [.ref (adr 237), .int (nI d)] (PMx g adr (fun it μ' => IP μ' μ x r p it res)) := by
  refine CT.of (l0 := [some (.ref (adr 237)), some (.int (nI d)), none, none, none, none, none, none, none, none, none, none]) (by decide +kernel) rfl (Nat.le_of_ble_eq_true rfl) rfl ?_
  have hk1₉ := hr_one.mp hk₉
  have hk0₉ : μ 245 p = nI 115 := by rw [(hT₉.2 p hk1₉.1).1]; exact congrArg nI hk1₉.2
  refine J.al0 dX8_item_0 ?_
  refine gf_X8_31 rfl (o2 := 245) (by decide) rfl dX8_item_1 ?_
  refine J.al0 dX8_item_4 ?_
  refine gf_X8_141 rfl (x := nI p) (by decide) hp₉ dX8_item_5 ?_
  refine J.cald (N := 60) (x := nI 115) (by decide) (by decide) (by omega) hk0₉ dX8_item_8 ?_
  refine J.is2 dX8_item_9 (by decide) rfl ?_
  refine J.il2 dX8_item_10 ?_
  refine J.bipush dX8_item_11 kb_40 ?_
  refine J.icmp_eqN (tgt := 22) dX8_item_13 (by decide) (by omega) (by omega) (fun c13₉ => absurd c13₉ (by first | omega | (simp only [not_true_eq_false, not_false_eq_true]; done) | (simp; done))) (fun c13₉ => ?_)
  refine J.il2 dX8_item_16 ?_
  refine J.bipush dX8_item_17 kb_91 ?_
  refine J.icmp_neN (tgt := 34) dX8_item_19 (by decide) (by omega) (by omega) (fun c19₉ => ?_) (fun c19₉ => absurd c19₉ (by first | omega | (simp only [not_true_eq_false, not_false_eq_true]; done) | (simp; done)))
  refine J.al0 dX8_item_34 ?_
  refine J.dup dX8_item_35 rfl ?_
  refine gf_X8_141 rfl (x := nI p) (by decide) hp₉ dX8_item_36 ?_
  refine J.iconst dX8_item_39 kI_1 ?_
  refine J.iaddN dX8_item_40 ?_
  refine pf_X8_141 rfl (by decide) dX8_item_41 ?_
  refine J.il2 dX8_item_44 ?_
  refine J.lookup (tgt := 192) dX8_item_45 (by decide) (show _ = _ from rfl) (by decide) ?_
  refine J.al0 dX8_item_192 ?_
  refine J.bipush dX8_item_193 kb_48 ?_
  refine J.bipush dX8_item_195 kb_52 ?_
  refine cl_X8_144 rfl (by decide) (k' := 0) (n' := 0) (c_m_isHereF _ (hT₉.rf (RF.w (RF.rf (r := 0)) (by decide))) hx₉ wr_s (by omega) (by rw [wr_n (by omega)]; exact hw₉) (by decide) (by decide) (sgF hs₉)) (roomR (by omega) (by omega)) rfl dX8_item_197 (fun μ9 h9₉ => ?_)
  rw [h9₉]; clear h9₉
  refine J.if_eqN (tgt := 230) dX8_item_200 (by decide) (by omega) (fun c200₉ => ?_) (fun c200₉ => absurd c200₉ (by first | omega | (simp only [not_true_eq_false, not_false_eq_true]; done) | (simp; done)))
  refine J.iconst dX8_item_230 kI_0 ?_
  refine J.is5 dX8_item_231 (by decide) rfl ?_
  refine J.al0 dX8_item_233 ?_
  refine J.il5 dX8_item_234 ?_
  refine J.if_neN (tgt := 243) dX8_item_236 (by decide) (by omega) (fun c236₉ => absurd c236₉ (by first | omega | (simp only [not_true_eq_false, not_false_eq_true]; done) | (simp; done))) (fun c236₉ => ?_)
  refine J.iconst dX8_item_239 kI_1 ?_
  refine J.goto (tgt := 244) dX8_item_240 (by decide) ?_
  refine pf_X8_137 rfl (by decide) (Or.inr (by decide)) dX8_item_244 ?_
  refine J.al0 dX8_item_247 ?_
  refine gf_X8_137 rfl (x := nI 1) (by decide) wr_s dX8_item_248 ?_
  refine J.if_eqN (tgt := 258) dX8_item_251 (by decide) (by omega) (fun c251₉ => absurd c251₉ (by first | omega | (simp only [not_true_eq_false, not_false_eq_true]; done) | (simp; done))) (fun c251₉ => ?_)
  refine J.iconst dX8_item_254 kI_0 ?_
  refine J.goto (tgt := 270) dX8_item_255 (by decide) ?_
  obtain rfl : res = .inl (p + 1) := by rw [← hr0x]; exact pShelf_1 hs₉
  refine J.iret rfl (Nat.zero_le _) (Nat.zero_le _) dX8_item_270 ⟨0, _, rfl, rfl, ?_⟩
  exact ⟨(by rw [wr_n (by omega)]; exact wr_s), wr_s, ⟨r, Nat.le_refl r, by omega, (by rw [wr_n (by omega)]; rw [wr_n (by omega)]; exact hr₉), (PoolV.w (PoolV.w hV₉))⟩, (RF.w (RF.w RF.rf (by decide)) (by decide)), rfl⟩

set_option maxRecDepth 100000 in
set_option maxHeartbeats 4000000 in
theorem c_m_items2 {g : GP} {adr : Nat → Nat} (μ : Mem) {t : Nat → Nat} {x p r d n : Nat} {σ : AS} {res : PRes} (hT₉ : TxM μ 245 14 (x, t)) (hx₉ : x ≤ 60) (hS₉ : MS μ 238 0 σ) (hp₉ : μ 237 15 = nI p) (hpl₉ : p < x) (hw₉ : μ 237 16 = nI 0) (hr₉ : μ 237 11 = nI r) (hr0₉ : 0 < r) (hV₉ : PoolV μ r) (hro₉ : r + 2 * (x - p) ≤ 200) (hk₉ : hr t x p 115 115 = true) {i : Nat} (hs₉ : pDig t x (p + 1) 0 4 = some i) (hfl₉ : ¬ aFl σ i = true) (hr0x : pShelf t x σ p = res) : CT g yX8_item mX8_item (RM (4 * n + 4) 0 0) (WM g adr μ) [.ref (adr 237), .int (nI d)] (PMx g adr (fun it μ' => IP μ' μ x r p it res)) := by
  refine CT.of (l0 := [some (.ref (adr 237)), some (.int (nI d)), none, none, none, none, none, none, none, none, none, none]) (by decide +kernel) rfl (Nat.le_of_ble_eq_true rfl) rfl ?_
  have hk1₉ := hr_one.mp hk₉
  have hk0₉ : μ 245 p = nI 115 := by rw [(hT₉.2 p hk1₉.1).1]; exact congrArg nI hk1₉.2
  have g1 := pDig_some hs₉
  refine J.al0 dX8_item_0 ?_
  refine gf_X8_31 rfl (o2 := 245) (by decide) rfl dX8_item_1 ?_
  refine J.al0 dX8_item_4 ?_
  refine gf_X8_141 rfl (x := nI p) (by decide) hp₉ dX8_item_5 ?_
  refine J.cald (N := 60) (x := nI 115) (by decide) (by decide) (by omega) hk0₉ dX8_item_8 ?_
  refine J.is2 dX8_item_9 (by decide) rfl ?_
  refine J.il2 dX8_item_10 ?_
  refine J.bipush dX8_item_11 kb_40 ?_
  refine J.icmp_eqN (tgt := 22) dX8_item_13 (by decide) (by omega) (by omega) (fun c13₉ => absurd c13₉ (by first | omega | (simp only [not_true_eq_false, not_false_eq_true]; done) | (simp; done))) (fun c13₉ => ?_)
  refine J.il2 dX8_item_16 ?_
  refine J.bipush dX8_item_17 kb_91 ?_
  refine J.icmp_neN (tgt := 34) dX8_item_19 (by decide) (by omega) (by omega) (fun c19₉ => ?_) (fun c19₉ => absurd c19₉ (by first | omega | (simp only [not_true_eq_false, not_false_eq_true]; done) | (simp; done)))
  refine J.al0 dX8_item_34 ?_
  refine J.dup dX8_item_35 rfl ?_
  refine gf_X8_141 rfl (x := nI p) (by decide) hp₉ dX8_item_36 ?_
  refine J.iconst dX8_item_39 kI_1 ?_
  refine J.iaddN dX8_item_40 ?_
  refine pf_X8_141 rfl (by decide) dX8_item_41 ?_
  refine J.il2 dX8_item_44 ?_
  refine J.lookup (tgt := 192) dX8_item_45 (by decide) (show _ = _ from rfl) (by decide) ?_
  refine J.al0 dX8_item_192 ?_
  refine J.bipush dX8_item_193 kb_48 ?_
  refine J.bipush dX8_item_195 kb_52 ?_
  refine cl_X8_144 rfl (by decide) (k' := 0) (n' := 0) (c_m_isHereT _ (hT₉.rf (RF.w (RF.rf (r := 0)) (by decide))) hx₉ wr_s (by rw [wr_n (by omega)]; exact hw₉) (sgT hs₉) (by decide)) (roomR (by omega) (by omega)) rfl dX8_item_197 (fun μ9 h9₉ => ?_)
  rw [h9₉]; clear h9₉
  refine J.if_eqN (tgt := 230) dX8_item_200 (by decide) (by omega) (fun c200₉ => absurd c200₉ (by first | omega | (simp only [not_true_eq_false, not_false_eq_true]; done) | (simp; done))) (fun c200₉ => ?_)
  refine J.al0 dX8_item_203 ?_
  refine gf_X8_9 rfl (o2 := 238) (by decide) rfl dX8_item_204 ?_
  refine J.iconst dX8_item_207 kI_3 ?_
  refine J.al0 dX8_item_208 ?_
  refine gf_X8_31 rfl (o2 := 245) (by decide) rfl dX8_item_209 ?_
  refine J.al0 dX8_item_212 ?_
  refine gf_X8_141 rfl (x := nI (p + 1)) (by decide) wr_s dX8_item_213 ?_
  refine J.cald (N := 60) (x := nI (48 + i)) (by decide) (by decide) (by omega) (by rw [wr_n (by omega)]; exact ((hT₉.2 (p + 1) (by show p + 1 < x; omega)).1.trans (congrArg nI g1.2.1))) dX8_item_216 ?_
  refine J.iaddN dX8_item_217 ?_
  refine J.bipush dX8_item_218 kb_48 ?_
  refine J.isubN dX8_item_220 (by omega) ?_
  rw [show 3 + (48 + i) - 48 = 3 + i by omega]
  refine J.iald (N := 352) (x := nI 0) (by decide) (by decide) (by decide) (by omega) (by rw [wr_n (by omega)]; exact (by have := hS₉.rFl (i := i) (by omega); rw [if_neg hfl₉] at this; exact this)) dX8_item_221 ?_
  refine J.iconst dX8_item_222 kI_1 ?_
  refine J.icmp_neN (tgt := 230) dX8_item_223 (by decide) (by omega) (by omega) (fun c223₉ => ?_) (fun c223₉ => absurd c223₉ (by first | omega | (simp only [not_true_eq_false, not_false_eq_true]; done) | (simp; done)))
  refine J.iconst dX8_item_230 kI_0 ?_
  refine J.is5 dX8_item_231 (by decide) rfl ?_
  refine J.al0 dX8_item_233 ?_
  refine J.il5 dX8_item_234 ?_
  refine J.if_neN (tgt := 243) dX8_item_236 (by decide) (by omega) (fun c236₉ => absurd c236₉ (by first | omega | (simp only [not_true_eq_false, not_false_eq_true]; done) | (simp; done))) (fun c236₉ => ?_)
  refine J.iconst dX8_item_239 kI_1 ?_
  refine J.goto (tgt := 244) dX8_item_240 (by decide) ?_
  refine pf_X8_137 rfl (by decide) (Or.inr (by decide)) dX8_item_244 ?_
  refine J.al0 dX8_item_247 ?_
  refine gf_X8_137 rfl (x := nI 1) (by decide) wr_s dX8_item_248 ?_
  refine J.if_eqN (tgt := 258) dX8_item_251 (by decide) (by omega) (fun c251₉ => absurd c251₉ (by first | omega | (simp only [not_true_eq_false, not_false_eq_true]; done) | (simp; done))) (fun c251₉ => ?_)
  refine J.iconst dX8_item_254 kI_0 ?_
  refine J.goto (tgt := 270) dX8_item_255 (by decide) ?_
  obtain rfl : res = .inl (p + 1) := by rw [← hr0x]; exact pShelf_2 hs₉ hfl₉
  refine J.iret rfl (Nat.zero_le _) (Nat.zero_le _) dX8_item_270 ⟨0, _, rfl, rfl, ?_⟩
  exact ⟨(by rw [wr_n (by omega)]; exact wr_s), wr_s, ⟨r, Nat.le_refl r, by omega, (by rw [wr_n (by omega)]; rw [wr_n (by omega)]; exact hr₉), (PoolV.w (PoolV.w hV₉))⟩, (RF.w (RF.w RF.rf (by decide)) (by decide)), rfl⟩

set_option maxRecDepth 100000 in
set_option maxHeartbeats 4000000 in
theorem c_m_items3 {g : GP} {adr : Nat → Nat} (μ : Mem) {t : Nat → Nat} {x p r d n : Nat} {σ : AS} {res : PRes} (hT₉ : TxM μ 245 14 (x, t)) (hx₉ : x ≤ 60) (hS₉ : MS μ 238 0 σ) (hp₉ : μ 237 15 = nI p) (hpl₉ : p < x) (hw₉ : μ 237 16 = nI 0) (hr₉ : μ 237 11 = nI r) (hr0₉ : 0 < r) (hV₉ : PoolV μ r) (hro₉ : r + 2 * (x - p) ≤ 200) (hk₉ : hr t x p 115 115 = true) {i : Nat} (hs₉ : pDig t x (p + 1) 0 4 = some i) (hfl₉ : aFl σ i = true) (hr0x : pShelf t x σ p = res) : CT g yX8_item mX8_item (RM (4 * n + 4) 0 0) (WM g adr μ) [.ref (adr 237), .int (nI d)] (PMx g adr (fun it μ' => IP μ' μ x r p it res)) := by
  refine CT.of (l0 := [some (.ref (adr 237)), some (.int (nI d)), none, none, none, none, none, none, none, none, none, none]) (by decide +kernel) rfl (Nat.le_of_ble_eq_true rfl) rfl ?_
  have hk1₉ := hr_one.mp hk₉
  have hk0₉ : μ 245 p = nI 115 := by rw [(hT₉.2 p hk1₉.1).1]; exact congrArg nI hk1₉.2
  have g1 := pDig_some hs₉
  refine J.al0 dX8_item_0 ?_
  refine gf_X8_31 rfl (o2 := 245) (by decide) rfl dX8_item_1 ?_
  refine J.al0 dX8_item_4 ?_
  refine gf_X8_141 rfl (x := nI p) (by decide) hp₉ dX8_item_5 ?_
  refine J.cald (N := 60) (x := nI 115) (by decide) (by decide) (by omega) hk0₉ dX8_item_8 ?_
  refine J.is2 dX8_item_9 (by decide) rfl ?_
  refine J.il2 dX8_item_10 ?_
  refine J.bipush dX8_item_11 kb_40 ?_
  refine J.icmp_eqN (tgt := 22) dX8_item_13 (by decide) (by omega) (by omega) (fun c13₉ => absurd c13₉ (by first | omega | (simp only [not_true_eq_false, not_false_eq_true]; done) | (simp; done))) (fun c13₉ => ?_)
  refine J.il2 dX8_item_16 ?_
  refine J.bipush dX8_item_17 kb_91 ?_
  refine J.icmp_neN (tgt := 34) dX8_item_19 (by decide) (by omega) (by omega) (fun c19₉ => ?_) (fun c19₉ => absurd c19₉ (by first | omega | (simp only [not_true_eq_false, not_false_eq_true]; done) | (simp; done)))
  refine J.al0 dX8_item_34 ?_
  refine J.dup dX8_item_35 rfl ?_
  refine gf_X8_141 rfl (x := nI p) (by decide) hp₉ dX8_item_36 ?_
  refine J.iconst dX8_item_39 kI_1 ?_
  refine J.iaddN dX8_item_40 ?_
  refine pf_X8_141 rfl (by decide) dX8_item_41 ?_
  refine J.il2 dX8_item_44 ?_
  refine J.lookup (tgt := 192) dX8_item_45 (by decide) (show _ = _ from rfl) (by decide) ?_
  refine J.al0 dX8_item_192 ?_
  refine J.bipush dX8_item_193 kb_48 ?_
  refine J.bipush dX8_item_195 kb_52 ?_
  refine cl_X8_144 rfl (by decide) (k' := 0) (n' := 0) (c_m_isHereT _ (hT₉.rf (RF.w (RF.rf (r := 0)) (by decide))) hx₉ wr_s (by rw [wr_n (by omega)]; exact hw₉) (sgT hs₉) (by decide)) (roomR (by omega) (by omega)) rfl dX8_item_197 (fun μ9 h9₉ => ?_)
  rw [h9₉]; clear h9₉
  refine J.if_eqN (tgt := 230) dX8_item_200 (by decide) (by omega) (fun c200₉ => absurd c200₉ (by first | omega | (simp only [not_true_eq_false, not_false_eq_true]; done) | (simp; done))) (fun c200₉ => ?_)
  refine J.al0 dX8_item_203 ?_
  refine gf_X8_9 rfl (o2 := 238) (by decide) rfl dX8_item_204 ?_
  refine J.iconst dX8_item_207 kI_3 ?_
  refine J.al0 dX8_item_208 ?_
  refine gf_X8_31 rfl (o2 := 245) (by decide) rfl dX8_item_209 ?_
  refine J.al0 dX8_item_212 ?_
  refine gf_X8_141 rfl (x := nI (p + 1)) (by decide) wr_s dX8_item_213 ?_
  refine J.cald (N := 60) (x := nI (48 + i)) (by decide) (by decide) (by omega) (by rw [wr_n (by omega)]; exact ((hT₉.2 (p + 1) (by show p + 1 < x; omega)).1.trans (congrArg nI g1.2.1))) dX8_item_216 ?_
  refine J.iaddN dX8_item_217 ?_
  refine J.bipush dX8_item_218 kb_48 ?_
  refine J.isubN dX8_item_220 (by omega) ?_
  rw [show 3 + (48 + i) - 48 = 3 + i by omega]
  refine J.iald (N := 352) (x := nI 1) (by decide) (by decide) (by decide) (by omega) (by rw [wr_n (by omega)]; exact (by have := hS₉.rFl (i := i) (by omega); rw [if_pos hfl₉] at this; exact this)) dX8_item_221 ?_
  refine J.iconst dX8_item_222 kI_1 ?_
  refine J.icmp_neN (tgt := 230) dX8_item_223 (by decide) (by omega) (by omega) (fun c223₉ => absurd c223₉ (by first | omega | (simp only [not_true_eq_false, not_false_eq_true]; done) | (simp; done))) (fun c223₉ => ?_)
  refine J.iconst dX8_item_226 kI_1 ?_
  refine J.goto (tgt := 231) dX8_item_227 (by decide) ?_
  refine J.is5 dX8_item_231 (by decide) rfl ?_
  refine J.al0 dX8_item_233 ?_
  refine J.il5 dX8_item_234 ?_
  refine J.if_neN (tgt := 243) dX8_item_236 (by decide) (by omega) (fun c236₉ => ?_) (fun c236₉ => absurd c236₉ (by first | omega | (simp only [not_true_eq_false, not_false_eq_true]; done) | (simp; done)))
  refine J.iconst dX8_item_243 kI_0 ?_
  refine pf_X8_137 rfl (by decide) (Or.inl nI_0) dX8_item_244 ?_
  refine J.al0 dX8_item_247 ?_
  refine gf_X8_137 rfl (x := nI 0) (by decide) wr_s dX8_item_248 ?_
  refine J.if_eqN (tgt := 258) dX8_item_251 (by decide) (by omega) (fun c251₉ => ?_) (fun c251₉ => absurd c251₉ (by first | omega | (simp only [not_true_eq_false, not_false_eq_true]; done) | (simp; done)))
  refine J.al0 dX8_item_258 ?_
  refine J.al0 dX8_item_259 ?_
  refine J.bipush dX8_item_260 kb_48 ?_
  refine J.bipush dX8_item_262 kb_52 ?_
  refine cl_X8_155 rfl (by decide) (k' := 0) (n' := 0) (c_m_signT _ (hT₉.rf (RF.w (RF.w (RF.rf (r := 0)) (by decide)) (by decide))) hx₉ (by rw [wr_n (by omega)]; exact wr_s) wr_s hs₉ (by decide) (by decide)) (roomR (by omega) (by omega)) rfl dX8_item_264 (fun μ3 h3₉ => ?_)
  subst h3₉
  refine cl_X8_159 rfl (by decide) (k' := 0) (n' := 0) (c_m_ofShelf _ (r := r) (by rw [wr_n (by omega)]; rw [wr_n (by omega)]; rw [wr_n (by omega)]; rw [wr_n (by omega)]; exact hr₉) (by omega) (by omega) (fun k hk₉ => by simp only [wr_o (show (238 : Nat) ≠ 237 by decide)]; exact hS₉.rSh (by omega) hfl₉ hk₉) (hS₉.vs.2.2.2.2 i (by omega) hfl₉)) (roomR (by omega) (by omega)) rfl dX8_item_267 (fun μ4 ⟨hP4₉, hc4₉, hr4₉, hF4₉⟩ => ?_)
  obtain rfl : res = .inr (p + 2, 1, aSh σ i) := by rw [← hr0x]; exact pShelf_3 hs₉ hfl₉
  refine J.iret rfl (Nat.zero_le _) (Nat.zero_le _) dX8_item_270 ⟨r, _, rfl, rfl, ?_⟩
  exact ⟨(hF4₉.2.2 237 15 (by decide) (by decide) (by decide)).trans wr_s, (hF4₉.2.2 237 16 (by decide) (by decide) (by decide)).trans ((wr_n (by decide)).trans wr_s), ⟨r + 1, Nat.le_refl r, Nat.lt_succ_self r, by omega, hr4₉, PoolV.push (PoolV.rf (PoolV.w (PoolV.w (PoolV.w (PoolV.w hV₉)))) hF4₉.rf9 (Nat.le_refl r)) hP4₉.sl⟩, RF.trans hF4₉.rf9 (RF.w (RF.w (RF.w (RF.w RF.rf (by decide)) (by decide)) (by decide)) (by decide)) (Nat.le_refl r) (Nat.le_refl r), hP4₉, hc4₉⟩
