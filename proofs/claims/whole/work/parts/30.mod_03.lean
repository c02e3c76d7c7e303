/-! ===== printed: the model: its helpers ===== -/
set_option maxRecDepth 100000 in
set_option maxHeartbeats 4000000 in
theorem c_m_nothing {g : GP} {adr : Nat → Nat} (μ : Mem) {r : Nat} (hr₉ : μ 237 11 = nI r) (hr2₉ : r < 200) : CT g yX8_nothing mX8_nothing (RM 0 0 0) (WM g adr μ) [.ref (adr 237)] (PM g adr ((.inl (some (.int (nI r))))) (fun μ' => PoolR μ' r (fun k => k) ∧ μ' 243 r = nI 0 ∧ μ' 237 11 = nI (r + 1) ∧ PF μ' μ r)) := by
  refine CT.of (l0 := [some (.ref (adr 237)), none]) (by decide +kernel) rfl (Nat.le_of_ble_eq_true rfl) rfl ?_
  refine J.iconst dX8_nothing_0 kI_0 ?_
  refine J.is1 dX8_nothing_1 (by decide) rfl ?_
  have lp2_1 : ∀ (fu : Nat) (i : Nat) (μ1 : Mem), 32 < i + fu → i ≤ 32 → (∀ k, k < i → μ1 242 (32 * r + k) = nI k) → PF μ1 μ r → μ1 237 11 = nI r → J g mX8_nothing (RM 0 0 0) (MQx g (RM 0 0 0) (PM g adr ((.inl (some (.int (nI r))))) (fun μ' => PoolR μ' r (fun k => k) ∧ μ' 243 r = nI 0 ∧ μ' 237 11 = nI (r + 1) ∧ PF μ' μ r))) 0 0 (WM g adr μ1) 2 [some (.ref (adr 237)), some (.int (nI i))] [] := by
    intro fu
    induction fu with
    | zero => intro i μ1 h9₉ hi₉ hI₉ hO₉ hrw₉; exact absurd h9₉ (by omega)
    | succ fu ih2 =>
      intro i μ1 h9₉ hi₉ hI₉ hO₉ hrw₉
      refine J.il1 dX8_nothing_2 ?_
      refine J.bipush dX8_nothing_3 kb_32 ?_
      refine J.icmp_geN (tgt := 29) dX8_nothing_5 (by decide) (by omega) (by omega) (fun c5₉ => ?_) (fun c5₉ => ?_)
      · refine J.al0 dX8_nothing_29 ?_
        refine gf_X8_25 rfl (o2 := 243) (by decide) rfl dX8_nothing_30 ?_
        refine J.al0 dX8_nothing_33 ?_
        refine gf_X8_60 rfl (x := nI r) (by decide) hrw₉ dX8_nothing_34 ?_
        refine J.iconst dX8_nothing_37 kI_0 ?_
        refine J.iast (N := 200) (by decide) (by decide) (by decide) (by omega) dX8_nothing_38 ?_
        refine J.al0 dX8_nothing_39 ?_
        refine J.dup dX8_nothing_40 rfl ?_
        refine gf_X8_60 rfl (x := nI r) (by decide) (by rw [wr_n (by omega)]; exact hrw₉) dX8_nothing_41 ?_
        refine J.iconst dX8_nothing_44 kI_1 ?_
        refine J.iaddN dX8_nothing_45 ?_
        refine pf_X8_60 rfl (by decide) dX8_nothing_46 ?_
        refine J.al0 dX8_nothing_49 ?_
        refine gf_X8_60 rfl (x := nI (r + 1)) (by decide) wr_s dX8_nothing_50 ?_
        refine J.iconst dX8_nothing_53 kI_1 ?_
        refine J.isubN dX8_nothing_54 (by omega) ?_
        refine J.iret rfl (by decide) (by decide) dX8_nothing_55 ⟨_, rfl, ?_, ?_⟩
        · rfl
        · exact ⟨fun k hk₉ => ⟨by rw [wr_n (by omega), wr_n (by omega)]; exact hI₉ k (by omega), hk₉⟩, by rw [wr_n (by omega)]; exact wr_s, wr_s, (hO₉.w243 (by omega)).w11⟩
      · refine J.al0 dX8_nothing_8 ?_
        refine gf_X8_22 rfl (o2 := 242) (by decide) rfl dX8_nothing_9 ?_
        refine J.bipush dX8_nothing_12 kb_32 ?_
        refine J.al0 dX8_nothing_14 ?_
        refine gf_X8_60 rfl (x := nI r) (by decide) hrw₉ dX8_nothing_15 ?_
        refine J.imulN dX8_nothing_18 ?_
        refine J.il1 dX8_nothing_19 ?_
        refine J.iaddN dX8_nothing_20 ?_
        refine J.il1 dX8_nothing_21 ?_
        refine J.iast (N := 6400) (by decide) (by decide) (by decide) (by omega) dX8_nothing_22 ?_
        refine J.ii1 (z := 1) dX8_nothing_23 (by decide) (by decide) rfl ?_
        refine J.goto (tgt := 2) dX8_nothing_26 (by decide) ?_
        exact ih2 (i + 1) _ (by omega) (by omega) (prow_step hI₉ rfl) (hO₉.w242 (by omega)) ((wr_n (by omega)).trans hrw₉)
  exact lp2_1 (33) 0 _ (by omega) (by omega) (fun k hk₉ => absurd hk₉ (by omega)) PF.rf hr₉

set_option maxRecDepth 100000 in
set_option maxHeartbeats 4000000 in
theorem c_m_move0 {g : GP} {adr : Nat → Nat} (μ : Mem) {r w b : Nat} (hr₉ : μ 237 11 = nI r) (hr2₉ : r < 200) (hm₉ : mvOK 0 w b) : CT g yX8_move mX8_move (RM 1 0 0) (WM g adr μ) [.ref (adr 237), .int (nI 0), .int (nI w), .int (nI b)] (PM g adr ((.inl (some (.int (nI r))))) (fun μ' => PoolR μ' r (moveF 0 w b) ∧ μ' 243 r = nI 1 ∧ μ' 237 11 = nI (r + 1) ∧ PF μ' μ r)) := by
  refine CT.of (l0 := [some (.ref (adr 237)), some (.int (nI 0)), some (.int (nI w)), some (.int (nI b)), none, none, none, none]) (by decide +kernel) rfl (Nat.le_of_ble_eq_true rfl) rfl ?_
  have hq₉ : w < 4 ∧ 1 ≤ b ∧ b < 8 := by unfold mvOK at hm₉; omega
  refine J.al0 dX8_move_0 ?_
  refine cl_X8_63 rfl (by decide) (k' := 0) (n' := 0) (c_m_nothing _ hr₉ (by omega)) ⟨⟨by decide, by decide⟩, ⟨rfl, rfl⟩, by decide, by decide⟩ rfl dX8_move_1 (fun μ2 ⟨hP2₉, hc2₉, hr3₉, hF2₉⟩ => ?_)
  refine J.is4 dX8_move_4 (by decide) rfl ?_
  refine J.al0 dX8_move_6 ?_
  refine gf_X8_25 rfl (o2 := 243) (by decide) rfl dX8_move_7 ?_
  refine J.il4 dX8_move_10 ?_
  refine J.iconst dX8_move_12 kI_1 ?_
  refine J.iast (N := 200) (by decide) (by decide) (by decide) (by omega) dX8_move_13 ?_
  refine J.iconst dX8_move_14 kI_0 ?_
  refine J.is5 dX8_move_15 (by decide) rfl ?_
  have lp17_1 : ∀ (fu : Nat) (i : Nat) (μ1 : Mem), 32 < i + fu → i ≤ 32 → (∀ k, k < i → μ1 242 (32 * r + k) = nI (moveF 0 w b k)) → (∀ k, i ≤ k → k < 32 → μ1 242 (32 * r + k) = nI k) → PF μ1 μ r → μ1 237 11 = nI (r + 1) → μ1 243 r = nI 1 → J g mX8_move (RM 1 0 0) (MQx g (RM 1 0 0) (PM g adr ((.inl (some (.int (nI r))))) (fun μ' => PoolR μ' r (moveF 0 w b) ∧ μ' 243 r = nI 1 ∧ μ' 237 11 = nI (r + 1) ∧ PF μ' μ r))) 0 0 (WM g adr μ1) 17 [some (.ref (adr 237)), some (.int (nI 0)), some (.int (nI w)), some (.int (nI b)), some (.int (nI r)), some (.int (nI i)), none, none] [] := by
    intro fu
    induction fu with
    | zero => intro i μ1 h9₉ hi₉ hI₉ hL₉ hO₉ hrw₉ hc1₉; exact absurd h9₉ (by omega)
    | succ fu ih17 =>
      intro i μ1 h9₉ hi₉ hI₉ hL₉ hO₉ hrw₉ hc1₉
      refine J.il5 dX8_move_17 ?_
      refine J.bipush dX8_move_19 kb_32 ?_
      refine J.icmp_geN (tgt := 118) dX8_move_21 (by decide) (by omega) (by omega) (fun c21₉ => ?_) (fun c21₉ => ?_)
      · refine J.il4 dX8_move_118 ?_
        refine J.iret rfl (by decide) (by decide) dX8_move_120 ⟨_, rfl, ?_, ?_⟩
        · rfl
        · exact ⟨fun k hk₉ => ⟨hI₉ k (by omega), moveF_lt hm₉ hk₉⟩, hc1₉, hrw₉, hO₉⟩
      · refine J.il5 dX8_move_24 ?_
        refine J.bipush dX8_move_26 kb_8 ?_
        refine J.idiv dX8_move_28 (by omega) (by omega) (by omega) ?_
        refine J.is6 dX8_move_29 (by decide) rfl ?_
        refine J.il5 dX8_move_31 ?_
        refine J.bipush dX8_move_33 kb_8 ?_
        refine J.irem dX8_move_35 (by omega) (by omega) (by omega) ?_
        refine J.is7 dX8_move_36 (by decide) rfl ?_
        refine J.il1 dX8_move_38 ?_
        refine J.if_eqN (tgt := 76) dX8_move_39 (by decide) (by omega) (fun c39₉ => ?_) (fun c39₉ => absurd c39₉ (by first | omega | (simp only [not_true_eq_false, not_false_eq_true]; done) | (simp; done)))
        refine J.il1 dX8_move_76 ?_
        refine J.if_neN (tgt := 112) dX8_move_77 (by decide) (by omega) (fun c77₉ => absurd c77₉ (by first | omega | (simp only [not_true_eq_false, not_false_eq_true]; done) | (simp; done))) (fun c77₉ => ?_)
        refine J.il6 dX8_move_80 ?_
        refine J.il2 dX8_move_82 ?_
        refine J.icmp_neN (tgt := 112) dX8_move_83 (by decide) (by omega) (by omega) (fun c83₉ => ?_) (fun c83₉ => ?_)
        · refine J.ii5 (z := 1) dX8_move_112 (by decide) (by decide) rfl ?_
          refine J.goto (tgt := 17) dX8_move_115 (by decide) ?_
          have hev₉ : moveF 0 w b i = i := (by rw [turn_eq (by omega)]; rw [if_neg c83₉])
          exact J.subR (ih17 (i + 1) _ (by omega) (by omega) (fun k hk₉ => if e : k = i then (by rw [e, hev₉]; exact hL₉ i (by omega) (by omega)) else hI₉ k (by omega)) (fun k h1₉ h2₉ => hL₉ k (by omega) h2₉) hO₉ hrw₉ hc1₉) ⟨rfl, ⟨rfl, ⟨rfl, ⟨rfl, ⟨rfl, ⟨rfl, trivial⟩⟩⟩⟩⟩⟩
        · refine J.al0 dX8_move_86 ?_
          refine gf_X8_22 rfl (o2 := 242) (by decide) rfl dX8_move_87 ?_
          refine J.bipush dX8_move_90 kb_32 ?_
          refine J.il4 dX8_move_92 ?_
          refine J.imulN dX8_move_94 ?_
          refine J.il5 dX8_move_95 ?_
          refine J.iaddN dX8_move_97 ?_
          refine J.bipush dX8_move_98 kb_8 ?_
          refine J.il6 dX8_move_100 ?_
          refine J.imulN dX8_move_102 ?_
          refine J.il7 dX8_move_103 ?_
          refine J.il3 dX8_move_105 ?_
          refine J.iaddN dX8_move_106 ?_
          refine J.bipush dX8_move_107 kb_8 ?_
          refine J.irem dX8_move_109 (by omega) (by omega) (by omega) ?_
          refine J.iaddN dX8_move_110 ?_
          refine J.iast (N := 6400) (by decide) (by decide) (by decide) (by omega) dX8_move_111 ?_
          refine J.ii5 (z := 1) dX8_move_112 (by decide) (by decide) rfl ?_
          refine J.goto (tgt := 17) dX8_move_115 (by decide) ?_
          have hev₉ : moveF 0 w b i = 8 * (i / 8) + (i % 8 + b) % 8 := (by rw [turn_eq (by omega)]; rw [if_pos c83₉])
          exact J.subR (ih17 (i + 1) _ (by omega) (by omega) (prow_step hI₉ (congrArg nI hev₉.symm)) (prow_keep hL₉) (hO₉.w242 (by omega)) ((wr_n (by omega)).trans hrw₉) ((wr_n (by omega)).trans hc1₉)) ⟨rfl, ⟨rfl, ⟨rfl, ⟨rfl, ⟨rfl, ⟨rfl, trivial⟩⟩⟩⟩⟩⟩
  exact lp17_1 (33) 0 _ (by omega) (by omega) (fun k hk₉ => absurd hk₉ (by omega)) (fun k _ hk₉ => (wr_n (by omega)).trans (hP2₉ k hk₉).1) (hF2₉.w243 (by omega)) ((wr_n (by omega)).trans hr3₉) wr_s

set_option maxRecDepth 100000 in
set_option maxHeartbeats 4000000 in
theorem c_m_move1 {g : GP} {adr : Nat → Nat} (μ : Mem) {r w b : Nat} (hr₉ : μ 237 11 = nI r) (hr2₉ : r < 200) (hm₉ : mvOK 1 w b) : CT g yX8_move mX8_move (RM 1 0 0) (WM g adr μ) [.ref (adr 237), .int (nI 1), .int (nI w), .int (nI b)] (PM g adr ((.inl (some (.int (nI r))))) (fun μ' => PoolR μ' r (moveF 1 w b) ∧ μ' 243 r = nI 1 ∧ μ' 237 11 = nI (r + 1) ∧ PF μ' μ r)) := by
  refine CT.of (l0 := [some (.ref (adr 237)), some (.int (nI 1)), some (.int (nI w)), some (.int (nI b)), none, none, none, none]) (by decide +kernel) rfl (Nat.le_of_ble_eq_true rfl) rfl ?_
  have hq₉ : w < 8 ∧ 1 ≤ b ∧ b < 4 := by unfold mvOK at hm₉; omega
  refine J.al0 dX8_move_0 ?_
  refine cl_X8_63 rfl (by decide) (k' := 0) (n' := 0) (c_m_nothing _ hr₉ (by omega)) ⟨⟨by decide, by decide⟩, ⟨rfl, rfl⟩, by decide, by decide⟩ rfl dX8_move_1 (fun μ2 ⟨hP2₉, hc2₉, hr3₉, hF2₉⟩ => ?_)
  refine J.is4 dX8_move_4 (by decide) rfl ?_
  refine J.al0 dX8_move_6 ?_
  refine gf_X8_25 rfl (o2 := 243) (by decide) rfl dX8_move_7 ?_
  refine J.il4 dX8_move_10 ?_
  refine J.iconst dX8_move_12 kI_1 ?_
  refine J.iast (N := 200) (by decide) (by decide) (by decide) (by omega) dX8_move_13 ?_
  refine J.iconst dX8_move_14 kI_0 ?_
  refine J.is5 dX8_move_15 (by decide) rfl ?_
  have lp17_1 : ∀ (fu : Nat) (i : Nat) (μ1 : Mem), 32 < i + fu → i ≤ 32 → (∀ k, k < i → μ1 242 (32 * r + k) = nI (moveF 1 w b k)) → (∀ k, i ≤ k → k < 32 → μ1 242 (32 * r + k) = nI k) → PF μ1 μ r → μ1 237 11 = nI (r + 1) → μ1 243 r = nI 1 → J g mX8_move (RM 1 0 0) (MQx g (RM 1 0 0) (PM g adr ((.inl (some (.int (nI r))))) (fun μ' => PoolR μ' r (moveF 1 w b) ∧ μ' 243 r = nI 1 ∧ μ' 237 11 = nI (r + 1) ∧ PF μ' μ r))) 0 0 (WM g adr μ1) 17 [some (.ref (adr 237)), some (.int (nI 1)), some (.int (nI w)), some (.int (nI b)), some (.int (nI r)), some (.int (nI i)), none, none] [] := by
    intro fu
    induction fu with
    | zero => intro i μ1 h9₉ hi₉ hI₉ hL₉ hO₉ hrw₉ hc1₉; exact absurd h9₉ (by omega)
    | succ fu ih17 =>
      intro i μ1 h9₉ hi₉ hI₉ hL₉ hO₉ hrw₉ hc1₉
      refine J.il5 dX8_move_17 ?_
      refine J.bipush dX8_move_19 kb_32 ?_
      refine J.icmp_geN (tgt := 118) dX8_move_21 (by decide) (by omega) (by omega) (fun c21₉ => ?_) (fun c21₉ => ?_)
      · refine J.il4 dX8_move_118 ?_
        refine J.iret rfl (by decide) (by decide) dX8_move_120 ⟨_, rfl, ?_, ?_⟩
        · rfl
        · exact ⟨fun k hk₉ => ⟨hI₉ k (by omega), moveF_lt hm₉ hk₉⟩, hc1₉, hrw₉, hO₉⟩
      · refine J.il5 dX8_move_24 ?_
        refine J.bipush dX8_move_26 kb_8 ?_
        refine J.idiv dX8_move_28 (by omega) (by omega) (by omega) ?_
        refine J.is6 dX8_move_29 (by decide) rfl ?_
        refine J.il5 dX8_move_31 ?_
        refine J.bipush dX8_move_33 kb_8 ?_
        refine J.irem dX8_move_35 (by omega) (by omega) (by omega) ?_
        refine J.is7 dX8_move_36 (by decide) rfl ?_
        refine J.il1 dX8_move_38 ?_
        refine J.if_eqN (tgt := 76) dX8_move_39 (by decide) (by omega) (fun c39₉ => absurd c39₉ (by first | omega | (simp only [not_true_eq_false, not_false_eq_true]; done) | (simp; done))) (fun c39₉ => ?_)
        refine J.il7 dX8_move_42 ?_
        refine J.il2 dX8_move_44 ?_
        refine J.icmp_neN (tgt := 76) dX8_move_45 (by decide) (by omega) (by omega) (fun c45₉ => ?_) (fun c45₉ => ?_)
        · refine J.il1 dX8_move_76 ?_
          refine J.if_neN (tgt := 112) dX8_move_77 (by decide) (by omega) (fun c77₉ => ?_) (fun c77₉ => absurd c77₉ (by first | omega | (simp only [not_true_eq_false, not_false_eq_true]; done) | (simp; done)))
          refine J.ii5 (z := 1) dX8_move_112 (by decide) (by decide) rfl ?_
          refine J.goto (tgt := 17) dX8_move_115 (by decide) ?_
          have hev₉ : moveF 1 w b i = i := (by rw [shift_eq (by omega) (by omega)]; rw [if_neg c45₉])
          exact J.subR (ih17 (i + 1) _ (by omega) (by omega) (fun k hk₉ => if e : k = i then (by rw [e, hev₉]; exact hL₉ i (by omega) (by omega)) else hI₉ k (by omega)) (fun k h1₉ h2₉ => hL₉ k (by omega) h2₉) hO₉ hrw₉ hc1₉) ⟨rfl, ⟨rfl, ⟨rfl, ⟨rfl, ⟨rfl, ⟨rfl, trivial⟩⟩⟩⟩⟩⟩
        · refine J.al0 dX8_move_48 ?_
          refine gf_X8_22 rfl (o2 := 242) (by decide) rfl dX8_move_49 ?_
          refine J.bipush dX8_move_52 kb_32 ?_
          refine J.il4 dX8_move_54 ?_
          refine J.imulN dX8_move_56 ?_
          refine J.il5 dX8_move_57 ?_
          refine J.iaddN dX8_move_59 ?_
          refine J.bipush dX8_move_60 kb_8 ?_
          refine J.il6 dX8_move_62 ?_
          refine J.il3 dX8_move_64 ?_
          refine J.iaddN dX8_move_65 ?_
          refine J.iconst dX8_move_66 kI_4 ?_
          refine J.irem dX8_move_67 (by omega) (by omega) (by omega) ?_
          refine J.imulN dX8_move_68 ?_
          refine J.il7 dX8_move_69 ?_
          refine J.iaddN dX8_move_71 ?_
          refine J.iast (N := 6400) (by decide) (by decide) (by decide) (by omega) dX8_move_72 ?_
          refine J.goto (tgt := 112) dX8_move_73 (by decide) ?_
          refine J.ii5 (z := 1) dX8_move_112 (by decide) (by decide) rfl ?_
          refine J.goto (tgt := 17) dX8_move_115 (by decide) ?_
          have hev₉ : moveF 1 w b i = 8 * ((i / 8 + b) % 4) + i % 8 := (by rw [shift_eq (by omega) (by omega)]; rw [if_pos c45₉])
          exact J.subR (ih17 (i + 1) _ (by omega) (by omega) (prow_step hI₉ (congrArg nI hev₉.symm)) (prow_keep hL₉) (hO₉.w242 (by omega)) ((wr_n (by omega)).trans hrw₉) ((wr_n (by omega)).trans hc1₉)) ⟨rfl, ⟨rfl, ⟨rfl, ⟨rfl, ⟨rfl, ⟨rfl, trivial⟩⟩⟩⟩⟩⟩
  exact lp17_1 (33) 0 _ (by omega) (by omega) (fun k hk₉ => absurd hk₉ (by omega)) (fun k _ hk₉ => (wr_n (by omega)).trans (hP2₉ k hk₉).1) (hF2₉.w243 (by omega)) ((wr_n (by omega)).trans hr3₉) wr_s

set_option maxRecDepth 100000 in
set_option maxHeartbeats 4000000 in
theorem c_m_ofShelf {g : GP} {adr : Nat → Nat} (μ : Mem) {r i : Nat} {F : Nat → Nat} (hr₉ : μ 237 11 = nI r) (hr2₉ : r < 200) (hi₉ : i < 5) (hs₉ : ∀ k, k < 32 → μ 238 (192 + 32 * i + k) = nI (F k)) (hF₉ : Bij F) : CT g yX8_ofShelf mX8_ofShelf (RM 1 0 0) (WM g adr μ) [.ref (adr 237), .int (nI i)] (PM g adr ((.inl (some (.int (nI r))))) (fun μ' => PoolR μ' r F ∧ μ' 243 r = nI 1 ∧ μ' 237 11 = nI (r + 1) ∧ PF μ' μ r)) := by
  refine CT.of (l0 := [some (.ref (adr 237)), some (.int (nI i)), none]) (by decide +kernel) rfl (Nat.le_of_ble_eq_true rfl) rfl ?_
  refine J.al0 dX8_ofShelf_0 ?_
  refine cl_X8_63 rfl (by decide) (k' := 0) (n' := 0) (c_m_nothing _ hr₉ (by omega)) ⟨⟨by decide, by decide⟩, ⟨rfl, rfl⟩, by decide, by decide⟩ rfl dX8_ofShelf_1 (fun μ2 ⟨hP2₉, hc2₉, hr3₉, hF2₉⟩ => ?_)
  refine J.is2 dX8_ofShelf_4 (by decide) rfl ?_
  refine J.al0 dX8_ofShelf_5 ?_
  refine gf_X8_25 rfl (o2 := 243) (by decide) rfl dX8_ofShelf_6 ?_
  refine J.il2 dX8_ofShelf_9 ?_
  refine J.iconst dX8_ofShelf_10 kI_1 ?_
  refine J.iast (N := 200) (by decide) (by decide) (by decide) (by omega) dX8_ofShelf_11 ?_
  refine J.al0 dX8_ofShelf_12 ?_
  refine gf_X8_9 rfl (o2 := 238) (by decide) rfl dX8_ofShelf_13 ?_
  refine J.sipush dX8_ofShelf_16 kc_192 ?_
  refine J.bipush dX8_ofShelf_19 kb_32 ?_
  refine J.il1 dX8_ofShelf_21 ?_
  refine J.imulN dX8_ofShelf_22 ?_
  refine J.iaddN dX8_ofShelf_23 ?_
  refine J.al0 dX8_ofShelf_24 ?_
  refine gf_X8_22 rfl (o2 := 242) (by decide) rfl dX8_ofShelf_25 ?_
  refine J.bipush dX8_ofShelf_28 kb_32 ?_
  refine J.il2 dX8_ofShelf_30 ?_
  refine J.imulN dX8_ofShelf_31 ?_
  refine J.bipush dX8_ofShelf_32 kb_32 ?_
  refine J.copy (N1 := 352) (N2 := 6400) t_1055 t_317 t_316 t_15 (by decide) (by decide) (by omega) (by omega) (by decide) (by decide) (by decide) (by decide) (by decide) (by decide) dX8_ofShelf_34 ?_
  refine J.il2 dX8_ofShelf_37 ?_
  refine J.iret rfl (by decide) (by decide) dX8_ofShelf_38 ⟨_, rfl, ?_, ?_⟩
  · rfl
  · refine ⟨fun k hk₉ => ⟨?_, hF₉.1 k hk₉⟩, ?_, ?_, (hF2₉.w243 (by omega)).c242 (by omega)⟩
    · rw [cpy_in (by omega) (by omega), wr_o (by decide), hF2₉.s, show 192 + 32 * i + (32 * r + k - 32 * r) = 192 + 32 * i + k by omega]; exact hs₉ k hk₉
    · rw [cpy_o (by decide)]; exact wr_s
    · rw [cpy_o (by decide), wr_o (by decide)]; exact hr3₉

set_option maxRecDepth 100000 in
set_option maxHeartbeats 4000000 in
theorem c_m_then {g : GP} {adr : Nat → Nat} (μ : Mem) {a b : Nat} {f h : Nat → Nat} (ha₉ : a < 200) (hb₉ : b < 200) (hn₉ : b ≠ a) (hf₉ : PoolR μ a f) (hh₉ : PoolR μ b h) : CT g yX8_then mX8_then (RM 0 0 0) (WM g adr μ) [.ref (adr 237), .int (nI a), .int (nI b)] (PM g adr (.inl none) (fun μ' => PoolR μ' a (fun k => h (f k)) ∧ P1 μ' μ a)) := by
  refine CT.of (l0 := [some (.ref (adr 237)), some (.int (nI a)), some (.int (nI b)), none]) (by decide +kernel) rfl (Nat.le_of_ble_eq_true rfl) rfl ?_
  refine J.iconst dX8_then_0 kI_0 ?_
  refine J.is3 dX8_then_1 (by decide) rfl ?_
  have lp2_1 : ∀ (fu : Nat) (i : Nat) (μ1 : Mem), 32 < i + fu → i ≤ 32 → (∀ k, k < i → μ1 242 (32 * a + k) = nI (h (f k))) → (∀ k, i ≤ k → k < 32 → μ1 242 (32 * a + k) = nI (f k)) → P1 μ1 μ a → J g mX8_then (RM 0 0 0) (MQx g (RM 0 0 0) (PM g adr (.inl none) (fun μ' => PoolR μ' a (fun k => h (f k)) ∧ P1 μ' μ a))) 0 0 (WM g adr μ1) 2 [some (.ref (adr 237)), some (.int (nI a)), some (.int (nI b)), some (.int (nI i))] [] := by
    intro fu
    induction fu with
    | zero => intro i μ1 h9₉ hi₉ hI₉ hU₉ hO₉; exact absurd h9₉ (by omega)
    | succ fu ih2 =>
      intro i μ1 h9₉ hi₉ hI₉ hU₉ hO₉
      have hB1₉ := hh₉.p1 hO₉ hn₉
      refine J.il3 dX8_then_2 ?_
      refine J.bipush dX8_then_3 kb_32 ?_
      refine J.icmp_geN (tgt := 46) dX8_then_5 (by decide) (by omega) (by omega) (fun c5₉ => ?_) (fun c5₉ => ?_)
      · refine J.vret rfl (by decide) (by decide) dX8_then_46 ⟨_, rfl, ?_, ?_⟩
        · rfl
        · exact ⟨fun k hk₉ => ⟨hI₉ k (by omega), (hh₉ _ (hf₉ k hk₉).2).2⟩, hO₉⟩
      · refine J.al0 dX8_then_8 ?_
        refine gf_X8_22 rfl (o2 := 242) (by decide) rfl dX8_then_9 ?_
        refine J.bipush dX8_then_12 kb_32 ?_
        refine J.il1 dX8_then_14 ?_
        refine J.imulN dX8_then_15 ?_
        refine J.il3 dX8_then_16 ?_
        refine J.iaddN dX8_then_17 ?_
        refine J.al0 dX8_then_18 ?_
        refine gf_X8_22 rfl (o2 := 242) (by decide) rfl dX8_then_19 ?_
        refine J.bipush dX8_then_22 kb_32 ?_
        refine J.il2 dX8_then_24 ?_
        refine J.imulN dX8_then_25 ?_
        refine J.al0 dX8_then_26 ?_
        refine gf_X8_22 rfl (o2 := 242) (by decide) rfl dX8_then_27 ?_
        refine J.bipush dX8_then_30 kb_32 ?_
        refine J.il1 dX8_then_32 ?_
        refine J.imulN dX8_then_33 ?_
        refine J.il3 dX8_then_34 ?_
        refine J.iaddN dX8_then_35 ?_
        have hbf₉ := (hf₉ i (by omega)).2
        refine J.iald (N := 6400) (x := nI (f i)) (by decide) (by decide) (by decide) (by omega) (hU₉ i (by omega) (by omega)) dX8_then_36 ?_
        refine J.iaddN dX8_then_37 ?_
        have hbh₉ := (hB1₉ (f i) (by omega)).2
        refine J.iald (N := 6400) (x := nI (h ((f i)))) (by decide) (by decide) (by decide) (by omega) ((hB1₉ _ (by omega)).1) dX8_then_38 ?_
        refine J.iast (N := 6400) (by decide) (by decide) (by decide) (by omega) dX8_then_39 ?_
        refine J.ii3 (z := 1) dX8_then_40 (by decide) (by decide) rfl ?_
        refine J.goto (tgt := 2) dX8_then_43 (by decide) ?_
        exact ih2 (i + 1) _ (by omega) (by omega) (prow_step hI₉ rfl) (prow_keep hU₉) (hO₉.wrx (by omega))
  exact lp2_1 (33) 0 _ (by omega) (by omega) (fun k hk₉ => absurd hk₉ (by omega)) (fun k _ hk₉ => (hf₉ k hk₉).1) P1.rf

set_option maxRecDepth 100000 in
set_option maxHeartbeats 4000000 in
theorem c_m_thenW {g : GP} {adr : Nat → Nat} (μ : Mem) {a b : Nat} (ha₉ : a < 200) (hb₉ : b < 200) (hA₉ : SlR μ a) (hB₉ : SlR μ b) : CT g yX8_then mX8_then (RM 0 0 0) (WM g adr μ) [.ref (adr 237), .int (nI a), .int (nI b)] (PM g adr (.inl none) (fun μ' => SlR μ' a ∧ P1 μ' μ a)) := by
  refine CT.of (l0 := [some (.ref (adr 237)), some (.int (nI a)), some (.int (nI b)), none]) (by decide +kernel) rfl (Nat.le_of_ble_eq_true rfl) rfl ?_
  refine J.iconst dX8_then_0 kI_0 ?_
  refine J.is3 dX8_then_1 (by decide) rfl ?_
  have lp2_1 : ∀ (fu : Nat) (i : Nat) (μ1 : Mem), 32 < i + fu → i ≤ 32 → SlR μ1 a → SlR μ1 b → P1 μ1 μ a → J g mX8_then (RM 0 0 0) (MQx g (RM 0 0 0) (PM g adr (.inl none) (fun μ' => SlR μ' a ∧ P1 μ' μ a))) 0 0 (WM g adr μ1) 2 [some (.ref (adr 237)), some (.int (nI a)), some (.int (nI b)), some (.int (nI i))] [] := by
    intro fu
    induction fu with
    | zero => intro i μ1 h9₉ hi₉ hA1₉ hB1₉ hO₉; exact absurd h9₉ (by omega)
    | succ fu ih2 =>
      intro i μ1 h9₉ hi₉ hA1₉ hB1₉ hO₉
      refine J.il3 dX8_then_2 ?_
      refine J.bipush dX8_then_3 kb_32 ?_
      refine J.icmp_geN (tgt := 46) dX8_then_5 (by decide) (by omega) (by omega) (fun c5₉ => ?_) (fun c5₉ => ?_)
      · refine J.vret rfl (by decide) (by decide) dX8_then_46 ⟨_, rfl, ?_, ?_⟩
        · rfl
        · exact ⟨hA1₉, hO₉⟩
      · obtain ⟨v, hv₉, hv2₉⟩ := hA1₉ i (by omega)
        obtain ⟨u, hu₉, hu2₉⟩ := hB1₉ v hv2₉
        refine J.al0 dX8_then_8 ?_
        refine gf_X8_22 rfl (o2 := 242) (by decide) rfl dX8_then_9 ?_
        refine J.bipush dX8_then_12 kb_32 ?_
        refine J.il1 dX8_then_14 ?_
        refine J.imulN dX8_then_15 ?_
        refine J.il3 dX8_then_16 ?_
        refine J.iaddN dX8_then_17 ?_
        refine J.al0 dX8_then_18 ?_
        refine gf_X8_22 rfl (o2 := 242) (by decide) rfl dX8_then_19 ?_
        refine J.bipush dX8_then_22 kb_32 ?_
        refine J.il2 dX8_then_24 ?_
        refine J.imulN dX8_then_25 ?_
        refine J.al0 dX8_then_26 ?_
        refine gf_X8_22 rfl (o2 := 242) (by decide) rfl dX8_then_27 ?_
        refine J.bipush dX8_then_30 kb_32 ?_
        refine J.il1 dX8_then_32 ?_
        refine J.imulN dX8_then_33 ?_
        refine J.il3 dX8_then_34 ?_
        refine J.iaddN dX8_then_35 ?_
        refine J.iald (N := 6400) (x := nI v) (by decide) (by decide) (by decide) (by omega) hv₉ dX8_then_36 ?_
        refine J.iaddN dX8_then_37 ?_
        refine J.iald (N := 6400) (x := nI u) (by decide) (by decide) (by decide) (by omega) hu₉ dX8_then_38 ?_
        refine J.iast (N := 6400) (by decide) (by decide) (by decide) (by omega) dX8_then_39 ?_
        refine J.ii3 (z := 1) dX8_then_40 (by decide) (by decide) rfl ?_
        refine J.goto (tgt := 2) dX8_then_43 (by decide) ?_
        have hcw₉ : ∀ j, SlR μ1 j → SlR (wr μ1 242 (32 * a + i) (nI u)) j := fun j hj₉ k hk₉ => by
          by_cases e : 32 * j + k = 32 * a + i
          · exact ⟨u, by rw [e]; exact wr_s, hu2₉⟩
          · rw [wr_n (Or.inr e)]; exact hj₉ k hk₉
        exact ih2 (i + 1) _ (by omega) (by omega) (hcw₉ _ hA1₉) (hcw₉ _ hB1₉) (hO₉.wrx (by omega))
  exact lp2_1 (33) 0 _ (by omega) (by omega) hA₉ hB₉ P1.rf
