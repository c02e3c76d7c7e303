/-! ===== printed: the model: texts and shelves ===== -/
theorem KP.rtO {μ3 μ2 μ : Mem} (hK₉ : KP μ2 μ) (hwf₉ : ∀ o k, o ≠ 242 → o ≠ 243 → (o ≠ 237 ∨ (k ≠ 11 ∧ k ≠ 14 ∧ k ≠ 15 ∧ k ≠ 16)) → μ3 o k = μ2 o k) (e14 : μ3 237 14 = nI 0) : KP μ3 (wr μ 237 14 (nI 0)) := by
  refine ⟨fun k hk₉ => by rw [hwf₉ _ _ (by omega) (by omega) (by omega), wr_o (by decide)]; exact hK₉.1 k hk₉, fun o k a b c d e q => ?_⟩
  by_cases z : o = 237 ∧ k = 14
  · obtain ⟨rfl, rfl⟩ := z; rw [wr_s]; exact e14
  · rw [hwf₉ o k c d (by omega), wr_n (by omega)]; exact hK₉.2 o k a b c d e q
theorem KP.rtW {μ3 μ2 μ : Mem} {e : Nat} (hK₉ : KP μ2 μ) (hwf₉ : ∀ o k, o ≠ 242 → o ≠ 243 → (o ≠ 237 ∨ (k ≠ 6 ∧ k ≠ 11 ∧ k ≠ 14 ∧ k ≠ 15 ∧ k ≠ 16 ∧ k ≠ 17)) → μ3 o k = μ2 o k) (e14 : μ3 237 14 = nI 0) (e17 : μ3 237 17 = nI e) : KP μ3 (wr (wr μ 237 14 (nI 0)) 237 17 (nI e)) := by
  refine ⟨fun k hk₉ => by rw [hwf₉ _ _ (by omega) (by omega) (by omega), wr_o (by decide), wr_o (by decide)]; exact hK₉.1 k hk₉, fun o k a b c d e q => ?_⟩
  by_cases z : o = 237 ∧ k = 17
  · obtain ⟨rfl, rfl⟩ := z; rw [wr_s]; exact e17
  · rw [wr_n (by omega)]
    by_cases z : o = 237 ∧ k = 14
    · obtain ⟨rfl, rfl⟩ := z; rw [wr_s]; exact e14
    · rw [hwf₉ o k c d (by omega), wr_n (by omega)]; exact hK₉.2 o k a b c d e q
theorem KP.rtX {μ3 μ2 μ : Mem} {x y : Int32} (hK₉ : KP μ2 μ) (hwf₉ : ∀ o k, o ≠ 242 → o ≠ 243 → (o ≠ 237 ∨ (k ≠ 6 ∧ k ≠ 7 ∧ k ≠ 8 ∧ k ≠ 11 ∧ k ≠ 14 ∧ k ≠ 15 ∧ k ≠ 16)) → μ3 o k = μ2 o k) (e14 : μ3 237 14 = nI 0) (e7 : μ3 237 7 = x) (e8 : μ3 237 8 = y) : KP μ3 (wr (wr (wr μ 237 14 (nI 0)) 237 7 x) 237 8 y) := by
  refine ⟨fun k hk₉ => by rw [hwf₉ _ _ (by omega) (by omega) (by omega), wr_o (by decide), wr_o (by decide), wr_o (by decide)]; exact hK₉.1 k hk₉, fun o k a b c d e q => ?_⟩
  by_cases z : o = 237 ∧ k = 8
  · obtain ⟨rfl, rfl⟩ := z; rw [wr_s]; exact e8
  · rw [wr_n (by omega)]
    by_cases z : o = 237 ∧ k = 7
    · obtain ⟨rfl, rfl⟩ := z; rw [wr_s]; exact e7
    · rw [wr_n (by omega)]
      by_cases z : o = 237 ∧ k = 14
      · obtain ⟨rfl, rfl⟩ := z; rw [wr_s]; exact e14
      · rw [hwf₉ o k c d (by omega), wr_n (by omega)]; exact hK₉.2 o k a b c d e q
theorem u99p {t : Nat} (h1₉ : 1 ≤ t) (h2₉ : t ≤ 99) : (-99 : Int32) ≤ nI t ∧ nI t ≤ nI 99 := (show ∀ t, t ≤ 99 → 1 ≤ t → (-99 : Int32) ≤ nI t ∧ nI t ≤ nI 99 by decide +kernel) t h2₉ h1₉
theorem u99n {t : Nat} (h1₉ : 1 ≤ t) (h2₉ : t ≤ 99) : (-99 : Int32) ≤ -(nI t) ∧ -(nI t) ≤ nI 99 := (show ∀ t, t ≤ 99 → 1 ≤ t → (-99 : Int32) ≤ -(nI t) ∧ -(nI t) ≤ nI 99 by decide +kernel) t h2₉ h1₉
theorem n990 {t : Nat} (h1₉ : 1 ≤ t) (h2₉ : t ≤ 99) : ¬ -(nI t) = 0 := (show ∀ t, t ≤ 99 → 1 ≤ t → ¬ -(nI t) = 0 by decide +kernel) t h2₉ h1₉
set_option maxRecDepth 100000 in
set_option maxHeartbeats 4000000 in
theorem c_m_readW {g : GP} {adr : Nat → Nat} (μ : Mem) {α : A7} {e : Nat} (hMR₉ : MR μ α) (hr0₉ : pTxt (qI α).2 (qI α).1 (qS α) = .inl e) : CT g yX8_read mX8_read (RM 60 0 0) (WM g adr μ) [.ref (adr 237)] (PM g adr ((.inl (some (.int (nI 0))))) (fun μ' => MR μ' (aErr e (aNoI α)) ∧ μ' 237 6 = nI 1 ∧ FrM μ' μ)) := by
  refine CT.of (l0 := [some (.ref (adr 237)), none]) (by decide +kernel) rfl (Nat.le_of_ble_eq_true rfl) rfl ?_
  refine J.al0 dX8_read_0 ?_
  refine cl_X8_90 rfl (by decide) (k' := 0) (n' := 0) (c_m_keep _) ⟨⟨by decide, by decide⟩, ⟨rfl, rfl⟩, by decide, by decide⟩ rfl dX8_read_1 (fun μ2 ⟨hK₉, hT0₉, hs0₉, hk4₉⟩ => ?_)
  have hS2₉ : MS μ2 238 0 (qS α) := MS.off hMR₉.1 hs0₉
  have hn2₉ : μ2 237 5 = nI (qN α) := (hk4₉ 237 5 (by decide) (by decide)).trans hMR₉.2.1.1
  refine J.al0 dX8_read_4 ?_
  refine J.iconst dX8_read_5 kI_1 ?_
  refine cl_X8_168 rfl (by decide) (k' := 0) (n' := 0) (c_m_rtW1 _ (TxM.eq hMR₉.2.2.2.2.1 (hk4₉ 237 14 (by decide) (by decide)) (funext fun k => hk4₉ 245 k (by decide) (Or.inl (by decide)))) hMR₉.2.2.2.2.2.1 hS2₉ hr0₉) ⟨⟨by decide, by decide⟩, ⟨rfl, rfl⟩, by decide, by decide⟩ rfl dX8_read_6 (fun μ3 ⟨hw6₉, hw17₉, hw14₉, hwf₉⟩ => ?_)
  refine J.is1 dX8_read_9 (by decide) rfl ?_
  refine J.al0 dX8_read_10 ?_
  refine gf_X8_42 rfl (x := nI 1) (by decide) hw6₉ dX8_read_11 ?_
  refine J.if_leN (tgt := 23) dX8_read_14 (by decide) (by omega) (fun c14₉ => absurd c14₉ (by first | omega | (simp only [not_true_eq_false, not_false_eq_true]; done) | (simp; done))) (fun c14₉ => ?_)
  refine J.al0 dX8_read_17 ?_
  refine J.iconst dX8_read_18 kI_0 ?_
  refine cl_X8_100 rfl (by decide) (k' := 0) (n' := 0) (c_m_endsX _ (j := 1) hw6₉ (by decide) (by decide)) ⟨⟨by decide, by decide⟩, ⟨rfl, rfl⟩, by decide, by decide⟩ rfl dX8_read_19 (fun μe ⟨he1₉, he2₉⟩ => ?_)
  refine J.iret rfl (by decide) (by decide) dX8_read_22 ⟨_, rfl, ?_, ?_⟩
  · rfl
  · have hbk₉ := MR.back (hMR₉.noI.err (e := e) (by have := (pTxt_few (t := (qI α).2) hMR₉.1.vs.2.2.2.2 hMR₉.2.2.2.2.2.1).1 e hr0₉; have := hMR₉.2.2.2.2.2.1; omega)) (KP.rtW hK₉ hwf₉ hw14₉ hw17₉) he1₉ he2₉
    exact ⟨hbk₉.1, by rw [he2₉ 237 (by decide)]; exact hw6₉, hbk₉.2.trans ((FrM.rf.wrx (by decide)).wrx (by decide))⟩

set_option maxRecDepth 100000 in
set_option maxHeartbeats 4000000 in
theorem c_m_readX {g : GP} {adr : Nat → Nat} (μ : Mem) {α : A7} {q c : Nat} {F : Nat → Nat} (hMR₉ : MR μ α) (hr0₉ : pTxt (qI α).2 (qI α).1 (qS α) = .inr (q, c, F)) (hc₉ : 200 < c) : CT g yX8_read mX8_read (RM 60 0 0) (WM g adr μ) [.ref (adr 237)] (PM g adr ((.inl (some (.int (nI 0))))) (fun μ' => MR μ' (aRef 2 200 (aNoI α)) ∧ μ' 237 6 = nI 2 ∧ FrM μ' μ)) := by
  refine CT.of (l0 := [some (.ref (adr 237)), none]) (by decide +kernel) rfl (Nat.le_of_ble_eq_true rfl) rfl ?_
  refine J.al0 dX8_read_0 ?_
  refine cl_X8_90 rfl (by decide) (k' := 0) (n' := 0) (c_m_keep _) ⟨⟨by decide, by decide⟩, ⟨rfl, rfl⟩, by decide, by decide⟩ rfl dX8_read_1 (fun μ2 ⟨hK₉, hT0₉, hs0₉, hk4₉⟩ => ?_)
  have hS2₉ : MS μ2 238 0 (qS α) := MS.off hMR₉.1 hs0₉
  have hn2₉ : μ2 237 5 = nI (qN α) := (hk4₉ 237 5 (by decide) (by decide)).trans hMR₉.2.1.1
  refine J.al0 dX8_read_4 ?_
  refine J.iconst dX8_read_5 kI_1 ?_
  refine cl_X8_168 rfl (by decide) (k' := 0) (n' := 0) (c_m_rtX1 _ (TxM.eq hMR₉.2.2.2.2.1 (hk4₉ 237 14 (by decide) (by decide)) (funext fun k => hk4₉ 245 k (by decide) (Or.inl (by decide)))) hMR₉.2.2.2.2.2.1 hS2₉ hr0₉ hc₉) ⟨⟨by decide, by decide⟩, ⟨rfl, rfl⟩, by decide, by decide⟩ rfl dX8_read_6 (fun μ3 ⟨hw6₉, hw7₉, hw8₉, hw14₉, hwf₉⟩ => ?_)
  refine J.is1 dX8_read_9 (by decide) rfl ?_
  refine J.al0 dX8_read_10 ?_
  refine gf_X8_42 rfl (x := nI 2) (by decide) hw6₉ dX8_read_11 ?_
  refine J.if_leN (tgt := 23) dX8_read_14 (by decide) (by omega) (fun c14₉ => absurd c14₉ (by first | omega | (simp only [not_true_eq_false, not_false_eq_true]; done) | (simp; done))) (fun c14₉ => ?_)
  refine J.al0 dX8_read_17 ?_
  refine J.iconst dX8_read_18 kI_0 ?_
  refine cl_X8_100 rfl (by decide) (k' := 0) (n' := 0) (c_m_endsX _ (j := 2) hw6₉ (by decide) (by decide)) ⟨⟨by decide, by decide⟩, ⟨rfl, rfl⟩, by decide, by decide⟩ rfl dX8_read_19 (fun μe ⟨he1₉, he2₉⟩ => ?_)
  refine J.iret rfl (by decide) (by decide) dX8_read_22 ⟨_, rfl, ?_, ?_⟩
  · rfl
  · have hbk₉ := MR.back (hMR₉.noI.ref (a := 2) (d := 200) (by decide) (by decide)) (KP.rtX hK₉ hwf₉ hw14₉ hw7₉ hw8₉) he1₉ he2₉
    exact ⟨hbk₉.1, by rw [he2₉ 237 (by decide)]; exact hw6₉, hbk₉.2.trans (((FrM.rf.wrx (by decide)).wrx (by decide)).wrx (by decide))⟩

set_option maxRecDepth 100000 in
set_option maxHeartbeats 4000000 in
theorem c_m_readOk {g : GP} {adr : Nat → Nat} (μ : Mem) {α : A7} {q c : Nat} {F : Nat → Nat} (hMR₉ : MR μ α) (hr0₉ : pTxt (qI α).2 (qI α).1 (qS α) = .inr (q, c, F)) (hc₉ : c ≤ 200) : CT g yX8_read mX8_read (RM 60 0 0) (WM g adr μ) [.ref (adr 237)] (PM g adr ((.inl (some (.int (nI c))))) (fun μ' => MR μ' (aPush (sRd (sLen 0 (sDo F (qS α)))) (aNoI α)) ∧ μ' 237 6 = nI 0 ∧ FrM μ' μ)) := by
  refine CT.of (l0 := [some (.ref (adr 237)), none]) (by decide +kernel) rfl (Nat.le_of_ble_eq_true rfl) rfl ?_
  have hBF₉ := ((pTxt_few (t := (qI α).2) hMR₉.1.vs.2.2.2.2 hMR₉.2.2.2.2.2.1).2 q c F hr0₉).1
  refine J.al0 dX8_read_0 ?_
  refine cl_X8_90 rfl (by decide) (k' := 0) (n' := 0) (c_m_keep _) ⟨⟨by decide, by decide⟩, ⟨rfl, rfl⟩, by decide, by decide⟩ rfl dX8_read_1 (fun μ2 ⟨hK₉, hT0₉, hs0₉, hk4₉⟩ => ?_)
  have hS2₉ : MS μ2 238 0 (qS α) := MS.off hMR₉.1 hs0₉
  have hn2₉ : μ2 237 5 = nI (qN α) := (hk4₉ 237 5 (by decide) (by decide)).trans hMR₉.2.1.1
  refine J.al0 dX8_read_4 ?_
  refine J.iconst dX8_read_5 kI_1 ?_
  refine cl_X8_168 rfl (by decide) (k' := 0) (n' := 0) (c_m_rtO1 _ (TxM.eq hMR₉.2.2.2.2.1 (hk4₉ 237 14 (by decide) (by decide)) (funext fun k => hk4₉ 245 k (by decide) (Or.inl (by decide)))) hMR₉.2.2.2.2.2.1 hS2₉ hr0₉ hc₉) ⟨⟨by decide, by decide⟩, ⟨rfl, rfl⟩, by decide, by decide⟩ rfl dX8_read_6 (fun μ3 ⟨hP0₉, hc0₉, hw14₉, hwf₉⟩ => ?_)
  have hKr₉ : KP μ3 (wr μ 237 14 (nI 0)) := KP.rtO hK₉ hwf₉ hw14₉
  have hS3₉ : MS μ3 238 0 (qS α) := hS2₉.off (funext fun k => hwf₉ 238 k (by decide) (by decide) (Or.inl (by decide)))
  have hT3₉ : μ3 237 6 = nI 0 := (hwf₉ 237 6 (by decide) (by decide) (by decide)).trans hT0₉
  have hn3₉ : μ3 237 5 = nI (qN α) := (hwf₉ 237 5 (by decide) (by decide) (by decide)).trans hn2₉
  refine J.is1 dX8_read_9 (by decide) rfl ?_
  refine J.al0 dX8_read_10 ?_
  refine gf_X8_42 rfl (x := nI 0) (by decide) hT3₉ dX8_read_11 ?_
  refine J.if_leN (tgt := 23) dX8_read_14 (by decide) (by omega) (fun c14₉ => ?_) (fun c14₉ => absurd c14₉ (by first | omega | (simp only [not_true_eq_false, not_false_eq_true]; done) | (simp; done)))
  refine J.al0 dX8_read_23 ?_
  refine J.il1 dX8_read_24 ?_
  refine cl_X8_86 rfl (by decide) (k' := 0) (n' := 0) (c_m_does _ (by decide) hP0₉ hBF₉ (f := aAt (qS α)) (fun k hk₉ => hS3₉.rAt hk₉)) ⟨⟨by decide, by decide⟩, ⟨rfl, rfl⟩, by decide, by decide⟩ rfl dX8_read_25 (fun μ5 ⟨hA5₉, hK5₉, hO5₉⟩ => ?_)
  have hS5₉ : MS μ5 238 0 (sDo F (qS α)) := hS3₉.sDo hBF₉ hA5₉ hK5₉
  have hKT5₉ : KT μ5 μ3 := fun o k a b c d e => by rw [hO5₉ o a d]
  have hc0₉ : μ5 243 0 = nI c := by rw [hO5₉ 243 (by decide) (by decide)]; exact hc0₉
  refine J.al0 dX8_read_28 ?_
  refine gf_X8_9 rfl (o2 := 238) (by decide) rfl dX8_read_29 ?_
  refine J.iconst dX8_read_32 kI_2 ?_
  refine J.dup2 dX8_read_33 rfl rfl ?_
  refine J.iald (N := 352) (x := nI (aRd (qS α))) (by decide) (by decide) (by decide) (by omega) hS5₉.rRd dX8_read_34 ?_
  refine J.iconst dX8_read_35 kI_1 ?_
  refine J.iaddN dX8_read_36 ?_
  refine J.iast (N := 352) (by decide) (by decide) (by decide) (by omega) dX8_read_37 ?_
  refine J.al0 dX8_read_38 ?_
  refine gf_X8_9 rfl (o2 := 238) (by decide) rfl dX8_read_39 ?_
  refine J.iconst dX8_read_42 kI_0 ?_
  refine J.iconst dX8_read_43 kI_0 ?_
  refine J.iast (N := 352) (by decide) (by decide) (by decide) (by omega) dX8_read_44 ?_
  refine J.al0 dX8_read_45 ?_
  refine J.al0 dX8_read_46 ?_
  refine gf_X8_25 rfl (o2 := 243) (by decide) rfl dX8_read_47 ?_
  refine J.il1 dX8_read_50 ?_
  refine J.iald (N := 200) (x := nI c) (by decide) (by decide) (by decide) (by omega) (by rw [wr_n (by omega)]; rw [wr_n (by omega)]; exact hc0₉) dX8_read_51 ?_
  have hkt₉ : KT ((wr (wr μ5 238 2 (nI ((aRd (qS α)) + 1))) 238 0 (nI 0))) μ3 := (KT.wrx (KT.wrx hKT5₉ (by omega)) (by omega))
  have hT6₉ : ((wr (wr μ5 238 2 (nI ((aRd (qS α)) + 1))) 238 0 (nI 0))) 237 6 = nI 0 := (hkt₉ 237 6 (by decide) (by decide) (by decide) (by decide) (by decide)).trans hT3₉
  have hn6₉ : ((wr (wr μ5 238 2 (nI ((aRd (qS α)) + 1))) 238 0 (nI 0))) 237 5 = nI (qN α) := (hkt₉ 237 5 (by decide) (by decide) (by decide) (by decide) (by decide)).trans hn3₉
  refine cl_X8_100 rfl (by decide) (k' := 0) (n' := 0) (c_m_ends _ hT6₉ hn6₉ hMR₉.2.1.2.1) ⟨⟨by decide, by decide⟩, ⟨rfl, rfl⟩, by decide, by decide⟩ rfl dX8_read_52 (fun μe he₉ => ?_)
  refine J.iret rfl (by decide) (by decide) dX8_read_55 ⟨_, rfl, ?_, ?_⟩
  · rfl
  · have hS8₉ : MS (wr μ5 238 2 (nI (aRd (qS α) + 1))) 238 0 (sRd (sDo F (qS α))) := hS5₉.sRd wr_s (fun k hk₉ => wr_n (Or.inr hk₉))
    have hS9₉ : MS (wr (wr μ5 238 2 (nI (aRd (qS α) + 1))) 238 0 (nI 0)) 238 0 (sRd (sLen 0 (sDo F (qS α)))) := hS8₉.sLen (x := 0) (Nat.zero_le _) wr_s (fun k hk₉ => wr_n (Or.inr hk₉))
    have hpu₉ := hMR₉.noI.push (hKr₉.step hkt₉.ks) hS9₉ he₉
    exact ⟨hpu₉.1, (he₉.2.2 237 6 (by decide) (by decide)).trans hT6₉, hpu₉.2.trans (FrM.rf.wrx (by decide))⟩

set_option maxRecDepth 100000 in
set_option maxHeartbeats 4000000 in
theorem c_m_learnX0 {g : GP} {adr : Nat → Nat} (μ : Mem) {α : A7} (hMR₉ : MR μ α) {x : Int32} (hx₉ : ¬ (0 ≤ x ∧ x < nI 5)) : CT g yX8_learn mX8_learn (RM 60 0 0) (WM g adr μ) [.ref (adr 237), .int x] (PM g adr ((.inl (some (.int (nI 0))))) (fun μ' => MR μ' (aNoI α) ∧ μ' 237 6 = nI 1 ∧ FrM μ' μ)) := by
  refine CT.of (l0 := [some (.ref (adr 237)), some (.int x), none, none]) (by decide +kernel) rfl (Nat.le_of_ble_eq_true rfl) rfl ?_
  refine J.al0 dX8_learn_0 ?_
  refine cl_X8_90 rfl (by decide) (k' := 0) (n' := 0) (c_m_keep _) ⟨⟨by decide, by decide⟩, ⟨rfl, rfl⟩, by decide, by decide⟩ rfl dX8_learn_1 (fun μ2 ⟨hK₉, hT0₉, hs0₉, hk4₉⟩ => ?_)
  have hS2₉ : MS μ2 238 0 (qS α) := MS.off hMR₉.1 hs0₉
  have hn2₉ : μ2 237 5 = nI (qN α) := (hk4₉ 237 5 (by decide) (by decide)).trans hMR₉.2.1.1
  refine J.il1 dX8_learn_4 ?_
  refine cl_X8_171 rfl (k' := 0) (n' := 0) (c_m_isShelfF _ hx₉) ⟨⟨by decide, by decide⟩, ⟨rfl, rfl⟩, by decide, by decide⟩ rfl dX8_learn_5 (fun μ9 h9₉ => ?_)
  rw [h9₉]; clear h9₉
  refine J.if_neN (tgt := 26) dX8_learn_8 (by decide) (by omega) (fun c8₉ => absurd c8₉ (by first | omega | (simp only [not_true_eq_false, not_false_eq_true]; done) | (simp; done))) (fun c8₉ => ?_)
  refine J.al0 dX8_learn_11 ?_
  refine J.iconst dX8_learn_12 kI_0 ?_
  refine pf_X8_134 rfl (by decide) dX8_learn_13 ?_
  refine J.al0 dX8_learn_16 ?_
  refine J.al0 dX8_learn_17 ?_
  refine J.iconst dX8_learn_18 kI_1 ?_
  refine cl_X8_97 rfl (by decide) (k' := 0) (n' := 0) (c_m_fails _) ⟨⟨by decide, by decide⟩, ⟨rfl, rfl⟩, by decide, by decide⟩ rfl dX8_learn_19 (fun μf hf₉ => ?_)
  refine cl_X8_100 rfl (by decide) (k' := 0) (n' := 0) (c_m_endsX _ (j := 1) (by rw [hf₉]; exact wr_s) (by decide) (by decide)) ⟨⟨by decide, by decide⟩, ⟨rfl, rfl⟩, by decide, by decide⟩ rfl dX8_learn_22 (fun μe ⟨he1₉, he2₉⟩ => ?_)
  refine J.iret rfl (by decide) (by decide) dX8_learn_25 ⟨_, rfl, ?_, ?_⟩
  · rfl
  · have hbk₉ := MR.back (μ := μf) hMR₉.noI (by rw [hf₉]; exact KP.step (KP.fld hK₉) (KS.rf.wrx (by omega))) he1₉ he2₉
    exact ⟨hbk₉.1, by rw [he2₉ 237 (by decide), hf₉]; exact wr_s, hbk₉.2.trans (FrM.rf.wrx (by decide))⟩

set_option maxRecDepth 100000 in
set_option maxHeartbeats 4000000 in
theorem c_m_learnW {g : GP} {adr : Nat → Nat} (μ : Mem) {α : A7} {e : Nat} (hMR₉ : MR μ α) (hr0₉ : pTxt (qI α).2 (qI α).1 (qS α) = .inl e) {i : Nat} (hi1₉ : i < 5) : CT g yX8_learn mX8_learn (RM 60 0 0) (WM g adr μ) [.ref (adr 237), .int (nI i)] (PM g adr ((.inl (some (.int (nI 0))))) (fun μ' => MR μ' (aErr e (aNoI α)) ∧ μ' 237 6 = nI 2 ∧ FrM μ' μ)) := by
  refine CT.of (l0 := [some (.ref (adr 237)), some (.int (nI i)), none, none]) (by decide +kernel) rfl (Nat.le_of_ble_eq_true rfl) rfl ?_
  refine J.al0 dX8_learn_0 ?_
  refine cl_X8_90 rfl (by decide) (k' := 0) (n' := 0) (c_m_keep _) ⟨⟨by decide, by decide⟩, ⟨rfl, rfl⟩, by decide, by decide⟩ rfl dX8_learn_1 (fun μ2 ⟨hK₉, hT0₉, hs0₉, hk4₉⟩ => ?_)
  have hS2₉ : MS μ2 238 0 (qS α) := MS.off hMR₉.1 hs0₉
  have hn2₉ : μ2 237 5 = nI (qN α) := (hk4₉ 237 5 (by decide) (by decide)).trans hMR₉.2.1.1
  refine J.il1 dX8_learn_4 ?_
  refine cl_X8_171 rfl (k' := 0) (n' := 0) (c_m_isShelfT _ (by omega)) ⟨⟨by decide, by decide⟩, ⟨rfl, rfl⟩, by decide, by decide⟩ rfl dX8_learn_5 (fun μ9 h9₉ => ?_)
  rw [h9₉]; clear h9₉
  refine J.if_neN (tgt := 26) dX8_learn_8 (by decide) (by omega) (fun c8₉ => ?_) (fun c8₉ => absurd c8₉ (by first | omega | (simp only [not_true_eq_false, not_false_eq_true]; done) | (simp; done)))
  refine J.al0 dX8_learn_26 ?_
  refine J.iconst dX8_learn_27 kI_2 ?_
  refine cl_X8_168 rfl (by decide) (k' := 0) (n' := 0) (c_m_rtW2 _ (TxM.eq hMR₉.2.2.2.2.1 (hk4₉ 237 14 (by decide) (by decide)) (funext fun k => hk4₉ 245 k (by decide) (Or.inl (by decide)))) hMR₉.2.2.2.2.2.1 hS2₉ hr0₉) ⟨⟨by decide, by decide⟩, ⟨rfl, rfl⟩, by decide, by decide⟩ rfl dX8_learn_28 (fun μ3 ⟨hw6₉, hw17₉, hw14₉, hwf₉⟩ => ?_)
  refine J.is2 dX8_learn_31 (by decide) rfl ?_
  refine J.al0 dX8_learn_32 ?_
  refine gf_X8_42 rfl (x := nI 2) (by decide) hw6₉ dX8_learn_33 ?_
  refine J.if_leN (tgt := 43) dX8_learn_36 (by decide) (by omega) (fun c36₉ => absurd c36₉ (by first | omega | (simp only [not_true_eq_false, not_false_eq_true]; done) | (simp; done))) (fun c36₉ => ?_)
  refine J.iconst dX8_learn_39 kI_0 ?_
  refine J.goto (tgt := 49) dX8_learn_40 (by decide) ?_
  refine J.is3 dX8_learn_49 (by decide) rfl ?_
  refine J.al0 dX8_learn_50 ?_
  refine J.al0 dX8_learn_51 ?_
  refine gf_X8_25 rfl (o2 := 243) (by decide) rfl dX8_learn_52 ?_
  refine J.il2 dX8_learn_55 ?_
  refine J.iald (N := 200) (x := μ3 243 0) (by decide) (by decide) (by decide) (by omega) rfl dX8_learn_56 ?_
  refine cl_X8_100 rfl (by decide) (k' := 0) (n' := 0) (c_m_endsX _ (j := 2) hw6₉ (by decide) (by decide)) ⟨⟨by decide, by decide⟩, ⟨rfl, rfl⟩, by decide, by decide⟩ rfl dX8_learn_57 (fun μe ⟨he1₉, he2₉⟩ => ?_)
  refine J.iret rfl (by decide) (by decide) dX8_learn_60 ⟨_, rfl, ?_, ?_⟩
  · rfl
  · have hbk₉ := MR.back (hMR₉.noI.err (e := e) (by have := (pTxt_few (t := (qI α).2) hMR₉.1.vs.2.2.2.2 hMR₉.2.2.2.2.2.1).1 e hr0₉; have := hMR₉.2.2.2.2.2.1; omega)) (KP.rtW hK₉ hwf₉ hw14₉ hw17₉) he1₉ he2₉
    exact ⟨hbk₉.1, by rw [he2₉ 237 (by decide)]; exact hw6₉, hbk₉.2.trans ((FrM.rf.wrx (by decide)).wrx (by decide))⟩

set_option maxRecDepth 100000 in
set_option maxHeartbeats 4000000 in
theorem c_m_learnX {g : GP} {adr : Nat → Nat} (μ : Mem) {α : A7} {q c : Nat} {F : Nat → Nat} (hMR₉ : MR μ α) (hr0₉ : pTxt (qI α).2 (qI α).1 (qS α) = .inr (q, c, F)) (hc₉ : 200 < c) {i : Nat} (hi1₉ : i < 5) : CT g yX8_learn mX8_learn (RM 60 0 0) (WM g adr μ) [.ref (adr 237), .int (nI i)] (PM g adr ((.inl (some (.int (nI 0))))) (fun μ' => MR μ' (aRef 2 200 (aNoI α)) ∧ μ' 237 6 = nI 3 ∧ FrM μ' μ)) := by
  refine CT.of (l0 := [some (.ref (adr 237)), some (.int (nI i)), none, none]) (by decide +kernel) rfl (Nat.le_of_ble_eq_true rfl) rfl ?_
  refine J.al0 dX8_learn_0 ?_
  refine cl_X8_90 rfl (by decide) (k' := 0) (n' := 0) (c_m_keep _) ⟨⟨by decide, by decide⟩, ⟨rfl, rfl⟩, by decide, by decide⟩ rfl dX8_learn_1 (fun μ2 ⟨hK₉, hT0₉, hs0₉, hk4₉⟩ => ?_)
  have hS2₉ : MS μ2 238 0 (qS α) := MS.off hMR₉.1 hs0₉
  have hn2₉ : μ2 237 5 = nI (qN α) := (hk4₉ 237 5 (by decide) (by decide)).trans hMR₉.2.1.1
  refine J.il1 dX8_learn_4 ?_
  refine cl_X8_171 rfl (k' := 0) (n' := 0) (c_m_isShelfT _ (by omega)) ⟨⟨by decide, by decide⟩, ⟨rfl, rfl⟩, by decide, by decide⟩ rfl dX8_learn_5 (fun μ9 h9₉ => ?_)
  rw [h9₉]; clear h9₉
  refine J.if_neN (tgt := 26) dX8_learn_8 (by decide) (by omega) (fun c8₉ => ?_) (fun c8₉ => absurd c8₉ (by first | omega | (simp only [not_true_eq_false, not_false_eq_true]; done) | (simp; done)))
  refine J.al0 dX8_learn_26 ?_
  refine J.iconst dX8_learn_27 kI_2 ?_
  refine cl_X8_168 rfl (by decide) (k' := 0) (n' := 0) (c_m_rtX2 _ (TxM.eq hMR₉.2.2.2.2.1 (hk4₉ 237 14 (by decide) (by decide)) (funext fun k => hk4₉ 245 k (by decide) (Or.inl (by decide)))) hMR₉.2.2.2.2.2.1 hS2₉ hr0₉ hc₉) ⟨⟨by decide, by decide⟩, ⟨rfl, rfl⟩, by decide, by decide⟩ rfl dX8_learn_28 (fun μ3 ⟨hw6₉, hw7₉, hw8₉, hw14₉, hwf₉⟩ => ?_)
  refine J.is2 dX8_learn_31 (by decide) rfl ?_
  refine J.al0 dX8_learn_32 ?_
  refine gf_X8_42 rfl (x := nI 3) (by decide) hw6₉ dX8_learn_33 ?_
  refine J.if_leN (tgt := 43) dX8_learn_36 (by decide) (by omega) (fun c36₉ => absurd c36₉ (by first | omega | (simp only [not_true_eq_false, not_false_eq_true]; done) | (simp; done))) (fun c36₉ => ?_)
  refine J.iconst dX8_learn_39 kI_0 ?_
  refine J.goto (tgt := 49) dX8_learn_40 (by decide) ?_
  refine J.is3 dX8_learn_49 (by decide) rfl ?_
  refine J.al0 dX8_learn_50 ?_
  refine J.al0 dX8_learn_51 ?_
  refine gf_X8_25 rfl (o2 := 243) (by decide) rfl dX8_learn_52 ?_
  refine J.il2 dX8_learn_55 ?_
  refine J.iald (N := 200) (x := μ3 243 0) (by decide) (by decide) (by decide) (by omega) rfl dX8_learn_56 ?_
  refine cl_X8_100 rfl (by decide) (k' := 0) (n' := 0) (c_m_endsX _ (j := 3) hw6₉ (by decide) (by decide)) ⟨⟨by decide, by decide⟩, ⟨rfl, rfl⟩, by decide, by decide⟩ rfl dX8_learn_57 (fun μe ⟨he1₉, he2₉⟩ => ?_)
  refine J.iret rfl (by decide) (by decide) dX8_learn_60 ⟨_, rfl, ?_, ?_⟩
  · rfl
  · have hbk₉ := MR.back (hMR₉.noI.ref (a := 2) (d := 200) (by decide) (by decide)) (KP.rtX hK₉ hwf₉ hw14₉ hw7₉ hw8₉) he1₉ he2₉
    exact ⟨hbk₉.1, by rw [he2₉ 237 (by decide)]; exact hw6₉, hbk₉.2.trans (((FrM.rf.wrx (by decide)).wrx (by decide)).wrx (by decide))⟩

set_option maxRecDepth 100000 in
set_option maxHeartbeats 4000000 in
theorem c_m_learnOk {g : GP} {adr : Nat → Nat} (μ : Mem) {α : A7} {q c : Nat} {F : Nat → Nat} (hMR₉ : MR μ α) (hr0₉ : pTxt (qI α).2 (qI α).1 (qS α) = .inr (q, c, F)) (hc₉ : c ≤ 200) {i : Nat} (hi1₉ : i < 5) : CT g yX8_learn mX8_learn (RM 60 0 0) (WM g adr μ) [.ref (adr 237), .int (nI i)] (PM g adr ((.inl (some (.int (nI c))))) (fun μ' => MR μ' (aPush (sPut i F (qS α)) (aNoI α)) ∧ μ' 237 6 = nI 0 ∧ FrM μ' μ)) := by
  refine CT.of (l0 := [some (.ref (adr 237)), some (.int (nI i)), none, none]) (by decide +kernel) rfl (Nat.le_of_ble_eq_true rfl) rfl ?_
  have hBF₉ := ((pTxt_few (t := (qI α).2) hMR₉.1.vs.2.2.2.2 hMR₉.2.2.2.2.2.1).2 q c F hr0₉).1
  refine J.al0 dX8_learn_0 ?_
  refine cl_X8_90 rfl (by decide) (k' := 0) (n' := 0) (c_m_keep _) ⟨⟨by decide, by decide⟩, ⟨rfl, rfl⟩, by decide, by decide⟩ rfl dX8_learn_1 (fun μ2 ⟨hK₉, hT0₉, hs0₉, hk4₉⟩ => ?_)
  have hS2₉ : MS μ2 238 0 (qS α) := MS.off hMR₉.1 hs0₉
  have hn2₉ : μ2 237 5 = nI (qN α) := (hk4₉ 237 5 (by decide) (by decide)).trans hMR₉.2.1.1
  refine J.il1 dX8_learn_4 ?_
  refine cl_X8_171 rfl (k' := 0) (n' := 0) (c_m_isShelfT _ (by omega)) ⟨⟨by decide, by decide⟩, ⟨rfl, rfl⟩, by decide, by decide⟩ rfl dX8_learn_5 (fun μ9 h9₉ => ?_)
  rw [h9₉]; clear h9₉
  refine J.if_neN (tgt := 26) dX8_learn_8 (by decide) (by omega) (fun c8₉ => ?_) (fun c8₉ => absurd c8₉ (by first | omega | (simp only [not_true_eq_false, not_false_eq_true]; done) | (simp; done)))
  refine J.al0 dX8_learn_26 ?_
  refine J.iconst dX8_learn_27 kI_2 ?_
  refine cl_X8_168 rfl (by decide) (k' := 0) (n' := 0) (c_m_rtO2 _ (TxM.eq hMR₉.2.2.2.2.1 (hk4₉ 237 14 (by decide) (by decide)) (funext fun k => hk4₉ 245 k (by decide) (Or.inl (by decide)))) hMR₉.2.2.2.2.2.1 hS2₉ hr0₉ hc₉) ⟨⟨by decide, by decide⟩, ⟨rfl, rfl⟩, by decide, by decide⟩ rfl dX8_learn_28 (fun μ3 ⟨hP0₉, hc0₉, hw14₉, hwf₉⟩ => ?_)
  have hKr₉ : KP μ3 (wr μ 237 14 (nI 0)) := KP.rtO hK₉ hwf₉ hw14₉
  have hS3₉ : MS μ3 238 0 (qS α) := hS2₉.off (funext fun k => hwf₉ 238 k (by decide) (by decide) (Or.inl (by decide)))
  have hT3₉ : μ3 237 6 = nI 0 := (hwf₉ 237 6 (by decide) (by decide) (by decide)).trans hT0₉
  have hn3₉ : μ3 237 5 = nI (qN α) := (hwf₉ 237 5 (by decide) (by decide) (by decide)).trans hn2₉
  refine J.is2 dX8_learn_31 (by decide) rfl ?_
  refine J.al0 dX8_learn_32 ?_
  refine gf_X8_42 rfl (x := nI 0) (by decide) hT3₉ dX8_learn_33 ?_
  refine J.if_leN (tgt := 43) dX8_learn_36 (by decide) (by omega) (fun c36₉ => ?_) (fun c36₉ => absurd c36₉ (by first | omega | (simp only [not_true_eq_false, not_false_eq_true]; done) | (simp; done)))
  refine J.al0 dX8_learn_43 ?_
  refine J.il2 dX8_learn_44 ?_
  refine J.il1 dX8_learn_45 ?_
  refine cl_X8_174 rfl (by decide) (k' := 0) (n' := 0) (c_m_puts _ (by decide) hi1₉ hP0₉ hBF₉ hS3₉) ⟨⟨by decide, by decide⟩, ⟨rfl, rfl⟩, by decide, by decide⟩ rfl dX8_learn_46 (fun μ5 ⟨hS5₉, hO5₉⟩ => ?_)
  have hKT5₉ : KT μ5 μ3 := fun o k a b c d e => by rw [hO5₉ o a]
  have hc0₉ : μ5 243 0 = nI c := by rw [hO5₉ 243 (by decide)]; exact hc0₉
  refine J.is3 dX8_learn_49 (by decide) rfl ?_
  refine J.al0 dX8_learn_50 ?_
  refine J.al0 dX8_learn_51 ?_
  refine gf_X8_25 rfl (o2 := 243) (by decide) rfl dX8_learn_52 ?_
  refine J.il2 dX8_learn_55 ?_
  refine J.iald (N := 200) (x := nI c) (by decide) (by decide) (by decide) (by omega) hc0₉ dX8_learn_56 ?_
  have hkt₉ : KT (μ5) μ3 := hKT5₉
  have hT6₉ : (μ5) 237 6 = nI 0 := (hkt₉ 237 6 (by decide) (by decide) (by decide) (by decide) (by decide)).trans hT3₉
  have hn6₉ : (μ5) 237 5 = nI (qN α) := (hkt₉ 237 5 (by decide) (by decide) (by decide) (by decide) (by decide)).trans hn3₉
  refine cl_X8_100 rfl (by decide) (k' := 0) (n' := 0) (c_m_ends _ hT6₉ hn6₉ hMR₉.2.1.2.1) ⟨⟨by decide, by decide⟩, ⟨rfl, rfl⟩, by decide, by decide⟩ rfl dX8_learn_57 (fun μe he₉ => ?_)
  refine J.iret rfl (by decide) (by decide) dX8_learn_60 ⟨_, rfl, ?_, ?_⟩
  · rfl
  · have hpu₉ := hMR₉.noI.push (hKr₉.step hkt₉.ks) hS5₉ he₉
    exact ⟨hpu₉.1, (he₉.2.2 237 6 (by decide) (by decide)).trans hT6₉, hpu₉.2.trans (FrM.rf.wrx (by decide))⟩

set_option maxRecDepth 100000 in
set_option maxHeartbeats 4000000 in
theorem c_m_useX0 {g : GP} {adr : Nat → Nat} (μ : Mem) {α : A7} (hMR₉ : MR μ α) {i j : Int32} (hx₉ : ¬ (0 ≤ i ∧ i < nI 5)) : CT g yX8_use mX8_use (RM 60 0 0) (WM g adr μ) [.ref (adr 237), .int i, .int j] (PM g adr ((.inl (some (.int (nI 0))))) (fun μ' => MR μ' (α) ∧ μ' 237 6 = nI 1 ∧ FrM μ' μ)) := by
  refine CT.of (l0 := [some (.ref (adr 237)), some (.int i), some (.int j), none]) (by decide +kernel) rfl (Nat.le_of_ble_eq_true rfl) rfl ?_
  refine J.al0 dX8_use_0 ?_
  refine cl_X8_90 rfl (by decide) (k' := 0) (n' := 0) (c_m_keep _) ⟨⟨by decide, by decide⟩, ⟨rfl, rfl⟩, by decide, by decide⟩ rfl dX8_use_1 (fun μ2 ⟨hK₉, hT0₉, hs0₉, hk4₉⟩ => ?_)
  have hS2₉ : MS μ2 238 0 (qS α) := MS.off hMR₉.1 hs0₉
  have hn2₉ : μ2 237 5 = nI (qN α) := (hk4₉ 237 5 (by decide) (by decide)).trans hMR₉.2.1.1
  refine J.il1 dX8_use_4 ?_
  refine cl_X8_171 rfl (k' := 0) (n' := 0) (c_m_isShelfF _ hx₉) ⟨⟨by decide, by decide⟩, ⟨rfl, rfl⟩, by decide, by decide⟩ rfl dX8_use_5 (fun μ9 h9₉ => ?_)
  rw [h9₉]; clear h9₉
  refine J.if_neN (tgt := 21) dX8_use_8 (by decide) (by omega) (fun c8₉ => absurd c8₉ (by first | omega | (simp only [not_true_eq_false, not_false_eq_true]; done) | (simp; done))) (fun c8₉ => ?_)
  refine J.al0 dX8_use_11 ?_
  refine J.al0 dX8_use_12 ?_
  refine J.iconst dX8_use_13 kI_1 ?_
  refine cl_X8_97 rfl (by decide) (k' := 0) (n' := 0) (c_m_fails _) ⟨⟨by decide, by decide⟩, ⟨rfl, rfl⟩, by decide, by decide⟩ rfl dX8_use_14 (fun μf hf₉ => ?_)
  refine cl_X8_100 rfl (by decide) (k' := 0) (n' := 0) (c_m_endsX _ (j := 1) (by rw [hf₉]; exact wr_s) (by decide) (by decide)) ⟨⟨by decide, by decide⟩, ⟨rfl, rfl⟩, by decide, by decide⟩ rfl dX8_use_17 (fun μe ⟨he1₉, he2₉⟩ => ?_)
  refine J.iret rfl (by decide) (by decide) dX8_use_20 ⟨_, rfl, ?_, ?_⟩
  · rfl
  · have hbk₉ := hMR₉.back (hK₉.step (by rw [hf₉]; exact KS.rf.wrx (by omega))) he1₉ he2₉
    exact ⟨hbk₉.1, by rw [he2₉ 237 (by decide), hf₉]; exact wr_s, hbk₉.2⟩
