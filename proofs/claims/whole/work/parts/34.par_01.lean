/-! ===== printed: the model: its reader ===== -/
theorem sgF {t : Nat → Nat} {x p lo hi₉ : Nat} (h : pDig t x p lo hi₉ = none) : ¬ hr t x p (48 + lo) (48 + hi₉) = true := fun q => pDig_none h (hr_iff.mp q)
theorem sgT {t : Nat → Nat} {x p lo hi₉ w : Nat} (h : pDig t x p lo hi₉ = some w) : hr t x p (48 + lo) (48 + hi₉) = true := by
  have g := pDig_some h
  exact hr_iff.mpr (by omega)
set_option maxRecDepth 100000 in
set_option maxHeartbeats 4000000 in
theorem c_m_isHereT {g : GP} {adr : Nat → Nat} (μ : Mem) {t : Nat → Nat} {x p : Nat} {lo hi₉ : Nat} (hT₉ : TxM μ 245 14 (x, t)) (hx₉ : x ≤ 60) (hp₉ : μ 237 15 = nI p) (hw₉ : μ 237 16 = nI 0) (hh₉ : hr t x p lo hi₉ = true) (hi2₉ : hi₉ < 65536) : CT g yX8_isHere mX8_isHere (RM 1 0 0) (WM g adr μ) [.ref (adr 237), .int (nI lo), .int (nI hi₉)] (PM g adr ((.inl (some (.int (nI 1))))) (fun μ' => μ' = μ)) := by
  refine CT.of (l0 := [some (.ref (adr 237)), some (.int (nI lo)), some (.int (nI hi₉))]) (by decide +kernel) rfl (Nat.le_of_ble_eq_true rfl) rfl ?_
  have hh2₉ := hr_iff.mp hh₉
  have htb0₉ : t p < 65536 := (hT₉.2 p (by show p < x; omega)).2
  refine J.al0 dX8_isHere_0 ?_
  refine gf_X8_137 rfl (x := nI 0) (by decide) hw₉ dX8_isHere_1 ?_
  refine J.if_neN (tgt := 39) dX8_isHere_4 (by decide) (by omega) (fun c4₉ => absurd c4₉ (by first | omega | (simp only [not_true_eq_false, not_false_eq_true]; done) | (simp; done))) (fun c4₉ => ?_)
  refine J.al0 dX8_isHere_7 ?_
  refine gf_X8_141 rfl (x := nI p) (by decide) hp₉ dX8_isHere_8 ?_
  refine J.al0 dX8_isHere_11 ?_
  refine gf_X8_134 rfl (x := nI x) (by decide) hT₉.1 dX8_isHere_12 ?_
  refine J.icmp_geN (tgt := 39) dX8_isHere_15 (by decide) (by omega) (by omega) (fun c15₉ => absurd c15₉ (by first | omega | (simp only [not_true_eq_false, not_false_eq_true]; done) | (simp; done))) (fun c15₉ => ?_)
  refine J.al0 dX8_isHere_18 ?_
  refine gf_X8_31 rfl (o2 := 245) (by decide) rfl dX8_isHere_19 ?_
  refine J.al0 dX8_isHere_22 ?_
  refine gf_X8_141 rfl (x := nI p) (by decide) hp₉ dX8_isHere_23 ?_
  have htb₉ : t p < 65536 := (hT₉.2 p (by show _ < x; omega)).2
  refine J.cald (N := 60) (x := nI (t p)) (by decide) (by decide) (by omega) (hT₉.2 p (by show _ < x; omega)).1 dX8_isHere_26 ?_
  refine J.il1 dX8_isHere_27 ?_
  refine J.il2 dX8_isHere_28 ?_
  have hin₉ := c_in (g := g) (adr := adr) μ (x := nI (t p)) (a := nI lo) (b := nI hi₉)
  rw [if_pos ⟨(nI_leI (by omega) (by omega)).mpr hh2₉.2.1, (nI_leI (by omega) (by omega)).mpr hh2₉.2.2⟩] at hin₉
  refine cl_X8_93 rfl (k' := 0) (n' := 0) (hin₉) ⟨⟨by decide, by decide⟩, ⟨rfl, rfl⟩, by decide, by decide⟩ rfl dX8_isHere_29 (fun μ9 h9₉ => ?_)
  rw [h9₉]; clear h9₉
  refine J.if_eqN (tgt := 39) dX8_isHere_32 (by decide) (by omega) (fun c32₉ => absurd c32₉ (by first | omega | (simp only [not_true_eq_false, not_false_eq_true]; done) | (simp; done))) (fun c32₉ => ?_)
  refine J.iconst dX8_isHere_35 kI_1 ?_
  refine J.goto (tgt := 40) dX8_isHere_36 (by decide) ?_
  refine J.zret (ty := .boolean) rfl (by decide) (by decide) (by decide) dX8_isHere_40 ⟨_, rfl, ?_, ?_⟩
  · rfl
  · rfl

set_option maxRecDepth 100000 in
set_option maxHeartbeats 4000000 in
theorem c_m_isHereF {g : GP} {adr : Nat → Nat} (μ : Mem) {t : Nat → Nat} {x p : Nat} {lo hi₉ : Nat} (hT₉ : TxM μ 245 14 (x, t)) (hx₉ : x ≤ 60) (hp₉ : μ 237 15 = nI p) (hpx₉ : p ≤ x) (hw₉ : μ 237 16 = nI 0) (lo2 : lo < 65536) (hi2₉ : hi₉ < 65536) (hh₉ : ¬ hr t x p lo hi₉ = true) : CT g yX8_isHere mX8_isHere (RM 1 0 0) (WM g adr μ) [.ref (adr 237), .int (nI lo), .int (nI hi₉)] (PM g adr ((.inl (some (.int (nI 0))))) (fun μ' => μ' = μ)) := by
  refine CT.of (l0 := [some (.ref (adr 237)), some (.int (nI lo)), some (.int (nI hi₉))]) (by decide +kernel) rfl (Nat.le_of_ble_eq_true rfl) rfl ?_
  refine J.al0 dX8_isHere_0 ?_
  refine gf_X8_137 rfl (x := nI 0) (by decide) hw₉ dX8_isHere_1 ?_
  refine J.if_neN (tgt := 39) dX8_isHere_4 (by decide) (by omega) (fun c4₉ => absurd c4₉ (by first | omega | (simp only [not_true_eq_false, not_false_eq_true]; done) | (simp; done))) (fun c4₉ => ?_)
  refine J.al0 dX8_isHere_7 ?_
  refine gf_X8_141 rfl (x := nI p) (by decide) hp₉ dX8_isHere_8 ?_
  refine J.al0 dX8_isHere_11 ?_
  refine gf_X8_134 rfl (x := nI x) (by decide) hT₉.1 dX8_isHere_12 ?_
  refine J.icmp_geN (tgt := 39) dX8_isHere_15 (by decide) (by omega) (by omega) (fun c15₉ => ?_) (fun c15₉ => ?_)
  · refine J.iconst dX8_isHere_39 kI_0 ?_
    refine J.zret (ty := .boolean) rfl (by decide) (by decide) (by decide) dX8_isHere_40 ⟨_, rfl, ?_, ?_⟩
    · rfl
    · rfl
  · refine J.al0 dX8_isHere_18 ?_
    refine gf_X8_31 rfl (o2 := 245) (by decide) rfl dX8_isHere_19 ?_
    refine J.al0 dX8_isHere_22 ?_
    refine gf_X8_141 rfl (x := nI p) (by decide) hp₉ dX8_isHere_23 ?_
    have htb₉ : t p < 65536 := (hT₉.2 p (by show _ < x; omega)).2
    refine J.cald (N := 60) (x := nI (t p)) (by decide) (by decide) (by omega) (hT₉.2 p (by show _ < x; omega)).1 dX8_isHere_26 ?_
    refine J.il1 dX8_isHere_27 ?_
    refine J.il2 dX8_isHere_28 ?_
    have hnh₉ : ¬ (nI lo ≤ nI (t p) ∧ nI (t p) ≤ nI hi₉) := fun q => hh₉ (hr_iff.mpr ⟨by omega, (nI_leI (by omega) (by omega)).mp q.1, (nI_leI (by omega) (by omega)).mp q.2⟩)
    refine cl_X8_93 rfl (k' := 0) (n' := 0) (inF _ hnh₉) ⟨⟨by decide, by decide⟩, ⟨rfl, rfl⟩, by decide, by decide⟩ rfl dX8_isHere_29 (fun μ9 h9₉ => ?_)
    rw [h9₉]; clear h9₉
    refine J.if_eqN (tgt := 39) dX8_isHere_32 (by decide) (by omega) (fun c32₉ => ?_) (fun c32₉ => absurd c32₉ (by first | omega | (simp only [not_true_eq_false, not_false_eq_true]; done) | (simp; done)))
    refine J.iconst dX8_isHere_39 kI_0 ?_
    refine J.zret (ty := .boolean) rfl (by decide) (by decide) (by decide) dX8_isHere_40 ⟨_, rfl, ?_, ?_⟩
    · rfl
    · rfl

set_option maxRecDepth 100000 in
set_option maxHeartbeats 4000000 in
theorem c_m_isHereW {g : GP} {adr : Nat → Nat} (μ : Mem) {lo hi₉ : Nat} (hw₉ : μ 237 16 = nI 1) : CT g yX8_isHere mX8_isHere (RM 1 0 0) (WM g adr μ) [.ref (adr 237), .int (nI lo), .int (nI hi₉)] (PM g adr ((.inl (some (.int (nI 0))))) (fun μ' => μ' = μ)) := by
  refine CT.of (l0 := [some (.ref (adr 237)), some (.int (nI lo)), some (.int (nI hi₉))]) (by decide +kernel) rfl (Nat.le_of_ble_eq_true rfl) rfl ?_
  refine J.al0 dX8_isHere_0 ?_
  refine gf_X8_137 rfl (x := nI 1) (by decide) hw₉ dX8_isHere_1 ?_
  refine J.if_neN (tgt := 39) dX8_isHere_4 (by decide) (by omega) (fun c4₉ => ?_) (fun c4₉ => absurd c4₉ (by first | omega | (simp only [not_true_eq_false, not_false_eq_true]; done) | (simp; done)))
  refine J.iconst dX8_isHere_39 kI_0 ?_
  refine J.zret (ty := .boolean) rfl (by decide) (by decide) (by decide) dX8_isHere_40 ⟨_, rfl, ?_, ?_⟩
  · rfl
  · rfl

theorem c_m_isHere {g : GP} {adr : Nat → Nat} (μ : Mem) {t : Nat → Nat} {x p : Nat} {lo hi₉ : Nat} (hT₉ : TxM μ 245 14 (x, t)) (hx₉ : x ≤ 60) (hp₉ : μ 237 15 = nI p) (hpx₉ : p ≤ x) (hw₉ : μ 237 16 = nI 0) (lo2 : lo < 65536) (hi2₉ : hi₉ < 65536) : CT g yX8_isHere mX8_isHere (RM 1 0 0) (WM g adr μ) [.ref (adr 237), .int (nI lo), .int (nI hi₉)] (PM g adr (.inl (some (.int (if hr t x p lo hi₉ = true then nI 1 else nI 0)))) (fun μ' => μ' = μ)) := by
  by_cases h : hr t x p lo hi₉ = true
  · rw [if_pos h]; exact c_m_isHereT μ hT₉ hx₉ hp₉ hw₉ h hi2₉
  · rw [if_neg h]; exact c_m_isHereF μ hT₉ hx₉ hp₉ hpx₉ hw₉ lo2 hi2₉ h

set_option maxRecDepth 100000 in
set_option maxHeartbeats 4000000 in
theorem c_m_signT {g : GP} {adr : Nat → Nat} (μ : Mem) {t : Nat → Nat} {x p : Nat} {lo hi₉ w : Nat} (hT₉ : TxM μ 245 14 (x, t)) (hx₉ : x ≤ 60) (hp₉ : μ 237 15 = nI p) (hw₉ : μ 237 16 = nI 0) (hs₉ : pDig t x p lo hi₉ = some w) (lo2 : lo < 100) (hi2₉ : hi₉ < 100) : CT g yX8_sign mX8_sign (RM 2 0 0) (WM g adr μ) [.ref (adr 237), .int (nI (48 + lo)), .int (nI (48 + hi₉))] (PM g adr ((.inl (some (.int (nI (w - lo)))))) (fun μ' => μ' = wr (wr μ 237 16 (nI 0)) 237 15 (nI (p + 1)))) := by
  refine CT.of (l0 := [some (.ref (adr 237)), some (.int (nI (48 + lo))), some (.int (nI (48 + hi₉)))]) (by decide +kernel) rfl (Nat.le_of_ble_eq_true rfl) rfl ?_
  have g1 := pDig_some hs₉
  have hh₉ : hr t x p (48 + lo) (48 + hi₉) = true := hr_iff.mpr (by omega)
  refine J.al0 dX8_sign_0 ?_
  refine J.al0 dX8_sign_1 ?_
  refine J.il1 dX8_sign_2 ?_
  refine J.il2 dX8_sign_3 ?_
  refine cl_X8_144 rfl (by decide) (k' := 0) (n' := 0) (c_m_isHereT _ hT₉ hx₉ hp₉ hw₉ hh₉ (by omega)) ⟨⟨by decide, by decide⟩, ⟨rfl, rfl⟩, by decide, by decide⟩ rfl dX8_sign_4 (fun μ9 h9₉ => ?_)
  rw [h9₉]; clear h9₉
  refine J.if_neN (tgt := 14) dX8_sign_7 (by decide) (by omega) (fun c7₉ => ?_) (fun c7₉ => absurd c7₉ (by first | omega | (simp only [not_true_eq_false, not_false_eq_true]; done) | (simp; done)))
  refine J.iconst dX8_sign_14 kI_0 ?_
  refine pf_X8_137 rfl (by decide) (Or.inl nI_0) dX8_sign_15 ?_
  refine J.al0 dX8_sign_18 ?_
  refine gf_X8_137 rfl (x := nI 0) (by decide) wr_s dX8_sign_19 ?_
  refine J.if_eqN (tgt := 27) dX8_sign_22 (by decide) (by omega) (fun c22₉ => ?_) (fun c22₉ => absurd c22₉ (by first | omega | (simp only [not_true_eq_false, not_false_eq_true]; done) | (simp; done)))
  refine J.al0 dX8_sign_27 ?_
  refine J.dup dX8_sign_28 rfl ?_
  refine gf_X8_141 rfl (x := nI p) (by decide) (by rw [wr_n (by omega)]; exact hp₉) dX8_sign_29 ?_
  refine J.iconst dX8_sign_32 kI_1 ?_
  refine J.iaddN dX8_sign_33 ?_
  refine pf_X8_141 rfl (by decide) dX8_sign_34 ?_
  refine J.al0 dX8_sign_37 ?_
  refine gf_X8_31 rfl (o2 := 245) (by decide) rfl dX8_sign_38 ?_
  refine J.al0 dX8_sign_41 ?_
  refine gf_X8_141 rfl (x := nI (p + 1)) (by decide) wr_s dX8_sign_42 ?_
  refine J.iconst dX8_sign_45 kI_1 ?_
  refine J.isubN dX8_sign_46 (by omega) ?_
  have htb₉ : t p < 65536 := (hT₉.2 p (by show _ < x; omega)).2
  refine J.cald (N := 60) (x := nI (t p)) (by decide) (by decide) (by omega) (by rw [wr_n (by omega)]; rw [wr_n (by omega)]; exact (by rw [Nat.add_sub_cancel]; exact (hT₉.2 p (by show _ < x; omega)).1)) dX8_sign_47 ?_
  refine J.il1 dX8_sign_48 ?_
  refine J.isubN dX8_sign_49 (by omega) ?_
  refine J.iret rfl (by decide) (by decide) dX8_sign_50 ⟨_, rfl, ?_, ?_⟩
  · rw [show t p - (48 + lo) = w - lo by omega]
  · rfl

set_option maxRecDepth 100000 in
set_option maxHeartbeats 4000000 in
theorem c_m_sign1 {g : GP} {adr : Nat → Nat} (μ : Mem) {t : Nat → Nat} {x p : Nat} {c : Nat} (hT₉ : TxM μ 245 14 (x, t)) (hx₉ : x ≤ 60) (hp₉ : μ 237 15 = nI p) (hw₉ : μ 237 16 = nI 0) (hh₉ : hr t x p c c = true) (c2₉ : c < 65536) : CT g yX8_sign mX8_sign (RM 2 0 0) (WM g adr μ) [.ref (adr 237), .int (nI c), .int (nI c)] (PM g adr ((.inl (some (.int (nI 0))))) (fun μ' => μ' = wr (wr μ 237 16 (nI 0)) 237 15 (nI (p + 1)))) := by
  refine CT.of (l0 := [some (.ref (adr 237)), some (.int (nI c)), some (.int (nI c))]) (by decide +kernel) rfl (Nat.le_of_ble_eq_true rfl) rfl ?_
  have g1 := hr_one.mp hh₉
  refine J.al0 dX8_sign_0 ?_
  refine J.al0 dX8_sign_1 ?_
  refine J.il1 dX8_sign_2 ?_
  refine J.il2 dX8_sign_3 ?_
  refine cl_X8_144 rfl (by decide) (k' := 0) (n' := 0) (c_m_isHereT _ hT₉ hx₉ hp₉ hw₉ hh₉ (by omega)) ⟨⟨by decide, by decide⟩, ⟨rfl, rfl⟩, by decide, by decide⟩ rfl dX8_sign_4 (fun μ9 h9₉ => ?_)
  rw [h9₉]; clear h9₉
  refine J.if_neN (tgt := 14) dX8_sign_7 (by decide) (by omega) (fun c7₉ => ?_) (fun c7₉ => absurd c7₉ (by first | omega | (simp only [not_true_eq_false, not_false_eq_true]; done) | (simp; done)))
  refine J.iconst dX8_sign_14 kI_0 ?_
  refine pf_X8_137 rfl (by decide) (Or.inl nI_0) dX8_sign_15 ?_
  refine J.al0 dX8_sign_18 ?_
  refine gf_X8_137 rfl (x := nI 0) (by decide) wr_s dX8_sign_19 ?_
  refine J.if_eqN (tgt := 27) dX8_sign_22 (by decide) (by omega) (fun c22₉ => ?_) (fun c22₉ => absurd c22₉ (by first | omega | (simp only [not_true_eq_false, not_false_eq_true]; done) | (simp; done)))
  refine J.al0 dX8_sign_27 ?_
  refine J.dup dX8_sign_28 rfl ?_
  refine gf_X8_141 rfl (x := nI p) (by decide) (by rw [wr_n (by omega)]; exact hp₉) dX8_sign_29 ?_
  refine J.iconst dX8_sign_32 kI_1 ?_
  refine J.iaddN dX8_sign_33 ?_
  refine pf_X8_141 rfl (by decide) dX8_sign_34 ?_
  refine J.al0 dX8_sign_37 ?_
  refine gf_X8_31 rfl (o2 := 245) (by decide) rfl dX8_sign_38 ?_
  refine J.al0 dX8_sign_41 ?_
  refine gf_X8_141 rfl (x := nI (p + 1)) (by decide) wr_s dX8_sign_42 ?_
  refine J.iconst dX8_sign_45 kI_1 ?_
  refine J.isubN dX8_sign_46 (by omega) ?_
  have htb₉ : t p < 65536 := (hT₉.2 p (by show _ < x; omega)).2
  refine J.cald (N := 60) (x := nI (t p)) (by decide) (by decide) (by omega) (by rw [wr_n (by omega)]; rw [wr_n (by omega)]; exact (by rw [Nat.add_sub_cancel]; exact (hT₉.2 p (by show _ < x; omega)).1)) dX8_sign_47 ?_
  refine J.il1 dX8_sign_48 ?_
  refine J.isubN dX8_sign_49 (by omega) ?_
  refine J.iret rfl (by decide) (by decide) dX8_sign_50 ⟨_, rfl, ?_, ?_⟩
  · rw [show t p - c = 0 by omega]
  · rfl

set_option maxRecDepth 100000 in
set_option maxHeartbeats 4000000 in
theorem c_m_signF {g : GP} {adr : Nat → Nat} (μ : Mem) {t : Nat → Nat} {x p : Nat} {lo hi₉ : Nat} (hT₉ : TxM μ 245 14 (x, t)) (hx₉ : x ≤ 60) (hp₉ : μ 237 15 = nI p) (hpx₉ : p ≤ x) (hw₉ : μ 237 16 = nI 0) (lo2 : lo < 65536) (hi2₉ : hi₉ < 65536) (hh₉ : ¬ hr t x p lo hi₉ = true) : CT g yX8_sign mX8_sign (RM 2 0 0) (WM g adr μ) [.ref (adr 237), .int (nI lo), .int (nI hi₉)] (PM g adr ((.inl (some (.int (nI 0))))) (fun μ' => μ' = wr μ 237 16 (nI 1))) := by
  refine CT.of (l0 := [some (.ref (adr 237)), some (.int (nI lo)), some (.int (nI hi₉))]) (by decide +kernel) rfl (Nat.le_of_ble_eq_true rfl) rfl ?_
  refine J.al0 dX8_sign_0 ?_
  refine J.al0 dX8_sign_1 ?_
  refine J.il1 dX8_sign_2 ?_
  refine J.il2 dX8_sign_3 ?_
  refine cl_X8_144 rfl (by decide) (k' := 0) (n' := 0) (c_m_isHereF _ hT₉ hx₉ hp₉ hpx₉ hw₉ lo2 hi2₉ hh₉) ⟨⟨by decide, by decide⟩, ⟨rfl, rfl⟩, by decide, by decide⟩ rfl dX8_sign_4 (fun μ9 h9₉ => ?_)
  rw [h9₉]; clear h9₉
  refine J.if_neN (tgt := 14) dX8_sign_7 (by decide) (by omega) (fun c7₉ => absurd c7₉ (by first | omega | (simp only [not_true_eq_false, not_false_eq_true]; done) | (simp; done))) (fun c7₉ => ?_)
  refine J.iconst dX8_sign_10 kI_1 ?_
  refine J.goto (tgt := 15) dX8_sign_11 (by decide) ?_
  refine pf_X8_137 rfl (by decide) (Or.inr (by decide)) dX8_sign_15 ?_
  refine J.al0 dX8_sign_18 ?_
  refine gf_X8_137 rfl (x := nI 1) (by decide) wr_s dX8_sign_19 ?_
  refine J.if_eqN (tgt := 27) dX8_sign_22 (by decide) (by omega) (fun c22₉ => absurd c22₉ (by first | omega | (simp only [not_true_eq_false, not_false_eq_true]; done) | (simp; done))) (fun c22₉ => ?_)
  refine J.iconst dX8_sign_25 kI_0 ?_
  refine J.iret rfl (by decide) (by decide) dX8_sign_26 ⟨_, rfl, ?_, ?_⟩
  · rfl
  · rfl
