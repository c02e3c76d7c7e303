/-! ===== printed: the model: its helpers ===== -/
set_option maxRecDepth 100000 in
set_option maxHeartbeats 4000000 in
theorem c_m_inverse {g : GP} {adr : Nat → Nat} (μ : Mem) {r a : Nat} {x : Int32} {f : Nat → Nat} (hr₉ : μ 237 11 = nI r) (hr2₉ : r < 200) (ha₉ : a < r) (hf₉ : PoolR μ a f) (hBF₉ : Bij f) (hx₉ : μ 243 a = x) : CT g yX8_inverse mX8_inverse (RM 1 0 0) (WM g adr μ) [.ref (adr 237), .int (nI a)] (PM g adr ((.inl (some (.int (nI r))))) (fun μ' => PoolR μ' r (pinv f) ∧ μ' 243 r = x ∧ μ' 237 11 = nI (r + 1) ∧ PF μ' μ r)) := by
  refine CT.of (l0 := [some (.ref (adr 237)), some (.int (nI a)), none, none]) (by decide +kernel) rfl (Nat.le_of_ble_eq_true rfl) rfl ?_
  refine J.al0 dX8_inverse_0 ?_
  refine cl_X8_63 rfl (by decide) (k' := 0) (n' := 0) (c_m_nothing _ hr₉ (by omega)) ⟨⟨by decide, by decide⟩, ⟨rfl, rfl⟩, by decide, by decide⟩ rfl dX8_inverse_1 (fun μ2 ⟨hP2₉, hc2₉, hr3₉, hF2₉⟩ => ?_)
  refine J.is2 dX8_inverse_4 (by decide) rfl ?_
  refine J.al0 dX8_inverse_5 ?_
  refine gf_X8_25 rfl (o2 := 243) (by decide) rfl dX8_inverse_6 ?_
  refine J.il2 dX8_inverse_9 ?_
  refine J.al0 dX8_inverse_10 ?_
  refine gf_X8_25 rfl (o2 := 243) (by decide) rfl dX8_inverse_11 ?_
  refine J.il1 dX8_inverse_14 ?_
  refine J.iald (N := 200) (x := x) (by decide) (by decide) (by decide) (by omega) ((hF2₉.2.1 _ (by omega)).trans hx₉) dX8_inverse_15 ?_
  refine J.iast (N := 200) (by decide) (by decide) (by decide) (by omega) dX8_inverse_16 ?_
  refine J.iconst dX8_inverse_17 kI_0 ?_
  refine J.is3 dX8_inverse_18 (by decide) rfl ?_
  have lp19_1 : ∀ (fu : Nat) (i : Nat) (μ1 : Mem), 32 < i + fu → i ≤ 32 → (∀ k, k < i → μ1 242 (32 * r + f k) = nI k) → PF μ1 μ r → μ1 237 11 = nI (r + 1) → μ1 243 r = x → J g mX8_inverse (RM 1 0 0) (MQx g (RM 1 0 0) (PM g adr ((.inl (some (.int (nI r))))) (fun μ' => PoolR μ' r (pinv f) ∧ μ' 243 r = x ∧ μ' 237 11 = nI (r + 1) ∧ PF μ' μ r))) 0 0 (WM g adr μ1) 19 [some (.ref (adr 237)), some (.int (nI a)), some (.int (nI r)), some (.int (nI i))] [] := by
    intro fu
    induction fu with
    | zero => intro i μ1 h9₉ hi₉ hI₉ hO₉ hrw₉ hc1₉; exact absurd h9₉ (by omega)
    | succ fu ih19 =>
      intro i μ1 h9₉ hi₉ hI₉ hO₉ hrw₉ hc1₉
      have hQ₉ := hf₉.pf hO₉ ha₉
      refine J.il3 dX8_inverse_19 ?_
      refine J.bipush dX8_inverse_20 kb_32 ?_
      refine J.icmp_geN (tgt := 53) dX8_inverse_22 (by decide) (by omega) (by omega) (fun c22₉ => ?_) (fun c22₉ => ?_)
      · refine J.il2 dX8_inverse_53 ?_
        refine J.iret rfl (by decide) (by decide) dX8_inverse_54 ⟨_, rfl, ?_, ?_⟩
        · rfl
        · exact ⟨fun k hk₉ => ⟨by have h9₉ := hI₉ (pinv f k) (by have := (hBF₉.inv1 hk₉).1; omega); rw [(hBF₉.inv1 hk₉).2] at h9₉; exact h9₉, (hBF₉.inv1 hk₉).1⟩, hc1₉, hrw₉, hO₉⟩
      · refine J.al0 dX8_inverse_25 ?_
        refine gf_X8_22 rfl (o2 := 242) (by decide) rfl dX8_inverse_26 ?_
        refine J.bipush dX8_inverse_29 kb_32 ?_
        refine J.il2 dX8_inverse_31 ?_
        refine J.imulN dX8_inverse_32 ?_
        refine J.al0 dX8_inverse_33 ?_
        refine gf_X8_22 rfl (o2 := 242) (by decide) rfl dX8_inverse_34 ?_
        refine J.bipush dX8_inverse_37 kb_32 ?_
        refine J.il1 dX8_inverse_39 ?_
        refine J.imulN dX8_inverse_40 ?_
        refine J.il3 dX8_inverse_41 ?_
        refine J.iaddN dX8_inverse_42 ?_
        have hbf₉ := (hf₉ i (by omega)).2
        refine J.iald (N := 6400) (x := nI (f i)) (by decide) (by decide) (by decide) (by omega) ((hQ₉ i (by omega)).1) dX8_inverse_43 ?_
        refine J.iaddN dX8_inverse_44 ?_
        refine J.il3 dX8_inverse_45 ?_
        refine J.iast (N := 6400) (by decide) (by decide) (by decide) (by omega) dX8_inverse_46 ?_
        refine J.ii3 (z := 1) dX8_inverse_47 (by decide) (by decide) rfl ?_
        refine J.goto (tgt := 19) dX8_inverse_50 (by decide) ?_
        exact ih19 (i + 1) _ (by omega) (by omega) (pinv_row hBF₉ (by omega) hI₉) (hO₉.w242 (by omega)) ((wr_n (by omega)).trans hrw₉) ((wr_n (by omega)).trans hc1₉)
  exact lp19_1 (33) 0 _ (by omega) (by omega) (fun k hk₉ => absurd hk₉ (by omega)) (hF2₉.w243 (by omega)) ((wr_n (by omega)).trans hr3₉) wr_s

set_option maxRecDepth 100000 in
set_option maxHeartbeats 4000000 in
theorem c_m_times {g : GP} {adr : Nat → Nat} (μ : Mem) {r a m c : Nat} {f : Nat → Nat} (hr₉ : μ 237 11 = nI r) (hr2₉ : r < 200) (ha₉ : a < r) (hm₉ : m < 2147483648) (hf₉ : PoolR μ a f) (hx₉ : μ 243 a = nI c) : CT g yX8_times mX8_times (RM 1 0 0) (WM g adr μ) [.ref (adr 237), .int (nI a), .int (nI m)] (PM g adr ((.inl (some (.int (nI r))))) (fun μ' => PoolR μ' r (iter f m) ∧ μ' 243 r = nI (m * c) ∧ μ' 237 11 = nI (r + 1) ∧ PF μ' μ r)) := by
  refine CT.of (l0 := [some (.ref (adr 237)), some (.int (nI a)), some (.int (nI m)), none, none]) (by decide +kernel) rfl (Nat.le_of_ble_eq_true rfl) rfl ?_
  refine J.al0 dX8_times_0 ?_
  refine cl_X8_63 rfl (by decide) (k' := 0) (n' := 0) (c_m_nothing _ hr₉ (by omega)) ⟨⟨by decide, by decide⟩, ⟨rfl, rfl⟩, by decide, by decide⟩ rfl dX8_times_1 (fun μ2 ⟨hP2₉, hc2₉, hr3₉, hF2₉⟩ => ?_)
  refine J.is3 dX8_times_4 (by decide) rfl ?_
  refine J.iconst dX8_times_5 kI_0 ?_
  refine J.is4 dX8_times_6 (by decide) rfl ?_
  have lp8_1 : ∀ (fu : Nat) (i : Nat) (μ1 : Mem), m < i + fu → i ≤ m → PoolR μ1 r (iter f i) → PF μ1 μ r → μ1 237 11 = nI (r + 1) → J g mX8_times (RM 1 0 0) (MQx g (RM 1 0 0) (PM g adr ((.inl (some (.int (nI r))))) (fun μ' => PoolR μ' r (iter f m) ∧ μ' 243 r = nI (m * c) ∧ μ' 237 11 = nI (r + 1) ∧ PF μ' μ r))) 0 0 (WM g adr μ1) 8 [some (.ref (adr 237)), some (.int (nI a)), some (.int (nI m)), some (.int (nI r)), some (.int (nI i))] [] := by
    intro fu
    induction fu with
    | zero => intro i μ1 h9₉ hi₉ hI₉ hO₉ hrw₉; exact absurd h9₉ (by omega)
    | succ fu ih8 =>
      intro i μ1 h9₉ hi₉ hI₉ hO₉ hrw₉
      refine J.il4 dX8_times_8 ?_
      refine J.il2 dX8_times_10 ?_
      refine J.icmp_geN (tgt := 26) dX8_times_11 (by decide) (by omega) (by omega) (fun c11₉ => ?_) (fun c11₉ => ?_)
      · refine J.al0 dX8_times_26 ?_
        refine gf_X8_25 rfl (o2 := 243) (by decide) rfl dX8_times_27 ?_
        refine J.il3 dX8_times_30 ?_
        refine J.il2 dX8_times_31 ?_
        refine J.al0 dX8_times_32 ?_
        refine gf_X8_25 rfl (o2 := 243) (by decide) rfl dX8_times_33 ?_
        refine J.il1 dX8_times_36 ?_
        refine J.iald (N := 200) (x := nI c) (by decide) (by decide) (by decide) (by omega) ((hO₉.2.1 _ (by omega)).trans hx₉) dX8_times_37 ?_
        refine J.imulN dX8_times_38 ?_
        refine J.iast (N := 200) (by decide) (by decide) (by decide) (by omega) dX8_times_39 ?_
        refine J.il3 dX8_times_40 ?_
        refine J.iret rfl (by decide) (by decide) dX8_times_41 ⟨_, rfl, ?_, ?_⟩
        · rfl
        · obtain rfl : i = m := by omega
          exact ⟨hI₉.w (by omega), wr_s, (congrFun (wr_o (by decide)) 11).trans hrw₉, hO₉.w243 (by omega)⟩
      · refine J.al0 dX8_times_14 ?_
        refine J.il3 dX8_times_15 ?_
        refine J.il1 dX8_times_16 ?_
        refine cl_X8_67 rfl (by decide) (k' := 0) (n' := 0) (c_m_then _ (by omega) (by omega) (by omega) hI₉ (hf₉.pf hO₉ ha₉)) ⟨⟨by decide, by decide⟩, ⟨rfl, rfl⟩, by decide, by decide⟩ rfl dX8_times_17 (fun μ3 ⟨h3₉, hO3₉⟩ => ?_)
        refine J.ii4 (z := 1) dX8_times_20 (by decide) (by decide) rfl ?_
        refine J.goto (tgt := 8) dX8_times_23 (by decide) ?_
        exact ih8 (i + 1) _ (by omega) (by omega) h3₉ ((hO3₉.pf (Nat.le_refl r)).trans hO₉ (by omega) (by omega)) ((hO3₉ _ _ (Or.inl (by decide))).trans hrw₉)
  exact lp8_1 (m + 1) 0 _ (by omega) (by omega) hP2₉ hF2₉ hr3₉

set_option maxRecDepth 100000 in
set_option maxHeartbeats 4000000 in
theorem c_m_comm {g : GP} {adr : Nat → Nat} (μ : Mem) {r a b c d : Nat} {f h : Nat → Nat} (hr₉ : μ 237 11 = nI r) (hr2₉ : r + 3 ≤ 200) (ha₉ : a < r) (hb₉ : b < r) (hf₉ : PoolR μ a f) (hh₉ : PoolR μ b h) (hBF₉ : Bij f) (hBH₉ : Bij h) (hx₉ : μ 243 a = nI c) (hy₉ : μ 243 b = nI d) : CT g yX8_commutator mX8_commutator (RM 2 0 0) (WM g adr μ) [.ref (adr 237), .int (nI a), .int (nI b)] (PM g adr ((.inl (some (.int (nI r))))) (fun μ' => PoolR μ' r (comF f h) ∧ μ' 243 r = nI (2 * (c + d)) ∧ μ' 237 11 = nI (r + 3) ∧ PF μ' μ r ∧ SlR μ' (r + 1) ∧ SlR μ' (r + 2))) := by
  refine CT.of (l0 := [some (.ref (adr 237)), some (.int (nI a)), some (.int (nI b)), none]) (by decide +kernel) rfl (Nat.le_of_ble_eq_true rfl) rfl ?_
  refine J.al0 dX8_commutator_0 ?_
  refine J.il1 dX8_commutator_1 ?_
  refine J.iconst dX8_commutator_2 kI_1 ?_
  refine cl_X8_71 rfl (by decide) (k' := 0) (n' := 0) (c_m_times _ hr₉ (by omega) ha₉ (by decide) hf₉ hx₉) ⟨⟨by decide, by decide⟩, ⟨rfl, rfl⟩, by decide, by decide⟩ rfl dX8_commutator_3 (fun μ2 ⟨hP2₉, hc2₉, hr3₉, hF2₉⟩ => ?_)
  refine J.is3 dX8_commutator_6 (by decide) rfl ?_
  refine J.al0 dX8_commutator_7 ?_
  refine J.il3 dX8_commutator_8 ?_
  refine J.il2 dX8_commutator_9 ?_
  refine cl_X8_67 rfl (by decide) (k' := 0) (n' := 0) (c_m_then _ (by omega) (by omega) (by omega) hP2₉ (hh₉.pf hF2₉ (by omega))) ⟨⟨by decide, by decide⟩, ⟨rfl, rfl⟩, by decide, by decide⟩ rfl dX8_commutator_10 (fun μ3 ⟨h3₉, hO3₉⟩ => ?_)
  have hF3₉ : PF μ3 μ r := (hO3₉.pf (Nat.le_refl r)).trans hF2₉ (by omega) (by omega)
  refine J.al0 dX8_commutator_13 ?_
  refine J.il3 dX8_commutator_14 ?_
  refine J.al0 dX8_commutator_15 ?_
  refine J.il1 dX8_commutator_16 ?_
  refine cl_X8_75 rfl (by decide) (k' := 0) (n' := 0) (c_m_inverse _ (r := r + 1) ((hO3₉ _ _ (Or.inl (by decide))).trans hr3₉) (by omega) (by omega) (hf₉.pf hF3₉ ha₉) hBF₉ ((hF3₉.2.1 _ (by omega)).trans hx₉)) ⟨⟨by decide, by decide⟩, ⟨rfl, rfl⟩, by decide, by decide⟩ rfl dX8_commutator_17 (fun μ4 ⟨hP4₉, hc4₉, hr4₉, hF4₉⟩ => ?_)
  refine cl_X8_67 rfl (by decide) (k' := 0) (n' := 0) (c_m_then _ (by omega) (by omega) (by omega) (h3₉.pf hF4₉ (by omega)) hP4₉) ⟨⟨by decide, by decide⟩, ⟨rfl, rfl⟩, by decide, by decide⟩ rfl dX8_commutator_20 (fun μ5 ⟨h5₉, hO5₉⟩ => ?_)
  have hF5₉ : PF μ5 μ r := (hO5₉.pf (Nat.le_refl r)).trans (PF.trans (r := r) hF4₉ hF3₉ (by omega) (by omega)) (by omega) (by omega)
  refine J.al0 dX8_commutator_23 ?_
  refine J.il3 dX8_commutator_24 ?_
  refine J.al0 dX8_commutator_25 ?_
  refine J.il2 dX8_commutator_26 ?_
  refine cl_X8_75 rfl (by decide) (k' := 0) (n' := 0) (c_m_inverse _ (r := r + 2) ((hO5₉ _ _ (Or.inl (by decide))).trans hr4₉) (by omega) (by omega) (hh₉.pf hF5₉ hb₉) hBH₉ ((hF5₉.2.1 _ (by omega)).trans hy₉)) ⟨⟨by decide, by decide⟩, ⟨rfl, rfl⟩, by decide, by decide⟩ rfl dX8_commutator_27 (fun μ6 ⟨hP6₉, hc6₉, hr6₉, hF6₉⟩ => ?_)
  refine cl_X8_67 rfl (by decide) (k' := 0) (n' := 0) (c_m_then _ (by omega) (by omega) (by omega) (h5₉.pf hF6₉ (by omega)) hP6₉) ⟨⟨by decide, by decide⟩, ⟨rfl, rfl⟩, by decide, by decide⟩ rfl dX8_commutator_30 (fun μ7 ⟨h7₉, hO7₉⟩ => ?_)
  have hF7₉ : PF μ7 μ r := (hO7₉.pf (Nat.le_refl r)).trans (PF.trans (r := r) hF6₉ hF5₉ (by omega) (by omega)) (by omega) (by omega)
  have hca₉ : μ7 243 a = nI c := (hF7₉.2.1 _ (by omega)).trans hx₉
  have hcb₉ : μ7 243 b = nI d := (hF7₉.2.1 _ (by omega)).trans hy₉
  refine J.al0 dX8_commutator_33 ?_
  refine gf_X8_25 rfl (o2 := 243) (by decide) rfl dX8_commutator_34 ?_
  refine J.il3 dX8_commutator_37 ?_
  refine J.iconst dX8_commutator_38 kI_2 ?_
  refine J.al0 dX8_commutator_39 ?_
  refine gf_X8_25 rfl (o2 := 243) (by decide) rfl dX8_commutator_40 ?_
  refine J.il1 dX8_commutator_43 ?_
  refine J.iald (N := 200) (x := nI c) (by decide) (by decide) (by decide) (by omega) hca₉ dX8_commutator_44 ?_
  refine J.al0 dX8_commutator_45 ?_
  refine gf_X8_25 rfl (o2 := 243) (by decide) rfl dX8_commutator_46 ?_
  refine J.il2 dX8_commutator_49 ?_
  refine J.iald (N := 200) (x := nI d) (by decide) (by decide) (by decide) (by omega) hcb₉ dX8_commutator_50 ?_
  refine J.iaddN dX8_commutator_51 ?_
  refine J.imulN dX8_commutator_52 ?_
  refine J.iast (N := 200) (by decide) (by decide) (by decide) (by omega) dX8_commutator_53 ?_
  refine J.il3 dX8_commutator_54 ?_
  refine J.iret rfl (by decide) (by decide) dX8_commutator_55 ⟨_, rfl, ?_, ?_⟩
  · rfl
  · exact ⟨h7₉.w (by omega), wr_s, (congrFun (wr_o (by decide)) 11).trans ((hO7₉ _ _ (Or.inl (by decide))).trans hr6₉), hF7₉.w243 (by omega), ((((hP4₉.p1 hO5₉ (by omega)).pf hF6₉ (by omega)).p1 hO7₉ (by omega)).w (Or.inl (by decide))).sl, ((hP6₉.p1 hO7₉ (by omega)).w (Or.inl (by decide))).sl⟩

set_option maxRecDepth 100000 in
set_option maxHeartbeats 4000000 in
theorem c_m_does {g : GP} {adr : Nat → Nat} (μ : Mem) {a : Nat} {F f : Nat → Nat} (ha₉ : a < 200) (hF₉ : PoolR μ a F) (hBF₉ : Bij F) (hA₉ : ∀ k, k < 32 → μ 238 (8 + k) = nI (f k)) : CT g yX8_does mX8_does (RM 0 0 0) (WM g adr μ) [.ref (adr 237), .int (nI a)] (PM g adr (.inl none) (fun μ' => (∀ k, k < 32 → μ' 238 (8 + k) = nI (f (pinv F k))) ∧ (∀ k, (k < 8 ∨ 40 ≤ k) → μ' 238 k = μ 238 k) ∧ ∀ o, o ≠ 238 → o ≠ 244 → μ' o = μ o)) := by
  refine CT.of (l0 := [some (.ref (adr 237)), some (.int (nI a)), none]) (by decide +kernel) rfl (Nat.le_of_ble_eq_true rfl) rfl ?_
  refine J.al0 dX8_does_0 ?_
  refine gf_X8_9 rfl (o2 := 238) (by decide) rfl dX8_does_1 ?_
  refine J.bipush dX8_does_4 kb_8 ?_
  refine J.al0 dX8_does_6 ?_
  refine gf_X8_28 rfl (o2 := 244) (by decide) rfl dX8_does_7 ?_
  refine J.iconst dX8_does_10 kI_0 ?_
  refine J.bipush dX8_does_11 kb_32 ?_
  refine J.copy (N1 := 352) (N2 := 32) t_1055 t_317 t_316 t_15 (by decide) (by decide) (by omega) (by omega) (by decide) (by decide) (by decide) (by decide) (by decide) (by decide) dX8_does_13 ?_
  refine J.iconst dX8_does_16 kI_0 ?_
  refine J.is2 dX8_does_17 (by decide) rfl ?_
  have lp18_1 : ∀ (fu : Nat) (i : Nat) (μ1 : Mem), 32 < i + fu → i ≤ 32 → (∀ k, k < i → μ1 238 (8 + F k) = nI (f k)) → (∀ k, k < 32 → μ1 244 k = nI (f k)) → (∀ k, (k < 8 ∨ 40 ≤ k) → μ1 238 k = μ 238 k) → (∀ o, o ≠ 238 → o ≠ 244 → μ1 o = μ o) → J g mX8_does (RM 0 0 0) (MQx g (RM 0 0 0) (PM g adr (.inl none) (fun μ' => (∀ k, k < 32 → μ' 238 (8 + k) = nI (f (pinv F k))) ∧ (∀ k, (k < 8 ∨ 40 ≤ k) → μ' 238 k = μ 238 k) ∧ ∀ o, o ≠ 238 → o ≠ 244 → μ' o = μ o))) 0 0 (WM g adr μ1) 18 [some (.ref (adr 237)), some (.int (nI a)), some (.int (nI i))] [] := by
    intro fu
    induction fu with
    | zero => intro i μ1 h9₉ hi₉ hI₉ hW₉ hK₉ hO₉; exact absurd h9₉ (by omega)
    | succ fu ih18 =>
      intro i μ1 h9₉ hi₉ hI₉ hW₉ hK₉ hO₉
      have hQ₉ : PoolR μ1 a F := fun k hk₉ => by rw [hO₉ 242 (by decide) (by decide)]; exact hF₉ k hk₉
      refine J.il2 dX8_does_18 ?_
      refine J.bipush dX8_does_19 kb_32 ?_
      refine J.icmp_geN (tgt := 55) dX8_does_21 (by decide) (by omega) (by omega) (fun c21₉ => ?_) (fun c21₉ => ?_)
      · refine J.vret rfl (by decide) (by decide) dX8_does_55 ⟨_, rfl, ?_, ?_⟩
        · rfl
        · exact ⟨fun k hk₉ => by have h9₉ := hI₉ (pinv F k) (by have := (hBF₉.inv1 hk₉).1; omega); rw [(hBF₉.inv1 hk₉).2] at h9₉; exact h9₉, hK₉, hO₉⟩
      · refine J.al0 dX8_does_24 ?_
        refine gf_X8_9 rfl (o2 := 238) (by decide) rfl dX8_does_25 ?_
        refine J.bipush dX8_does_28 kb_8 ?_
        refine J.al0 dX8_does_30 ?_
        refine gf_X8_22 rfl (o2 := 242) (by decide) rfl dX8_does_31 ?_
        refine J.bipush dX8_does_34 kb_32 ?_
        refine J.il1 dX8_does_36 ?_
        refine J.imulN dX8_does_37 ?_
        refine J.il2 dX8_does_38 ?_
        refine J.iaddN dX8_does_39 ?_
        have hbF₉ := (hF₉ i (by omega)).2
        refine J.iald (N := 6400) (x := nI (F i)) (by decide) (by decide) (by decide) (by omega) ((hQ₉ i (by omega)).1) dX8_does_40 ?_
        refine J.iaddN dX8_does_41 ?_
        refine J.al0 dX8_does_42 ?_
        refine gf_X8_28 rfl (o2 := 244) (by decide) rfl dX8_does_43 ?_
        refine J.il2 dX8_does_46 ?_
        refine J.iald (N := 32) (x := nI (f i)) (by decide) (by decide) (by decide) (by omega) (hW₉ i (by omega)) dX8_does_47 ?_
        refine J.iast (N := 352) (by decide) (by decide) (by decide) (by omega) dX8_does_48 ?_
        refine J.ii2 (z := 1) dX8_does_49 (by decide) (by decide) rfl ?_
        refine J.goto (tgt := 18) dX8_does_52 (by decide) ?_
        exact ih18 (i + 1) _ (by omega) (by omega) (at_row hBF₉ (by omega) hI₉) (fun k hk₉ => by rw [wr_o (by decide)]; exact hW₉ k hk₉) (fun k hk₉ => by rw [wr_n (by omega)]; exact hK₉ k hk₉) (fun o h1₉ h2₉ => by rw [wr_o h1₉]; exact hO₉ o h1₉ h2₉)
  exact lp18_1 (33) 0 _ (by omega) (by omega) (fun k hk₉ => absurd hk₉ (by omega)) (fun k hk₉ => by rw [cpy_in (by omega) (by omega), show 8 + (k - 0) = 8 + k by omega]; exact hA₉ k hk₉) (fun k _ => by rw [cpy_o (by decide)]) (fun o _ h2₉ => cpy_o h2₉)

set_option maxRecDepth 100000 in
set_option maxHeartbeats 4000000 in
theorem c_m_movedBy {g : GP} {adr : Nat → Nat} (μ : Mem) {a : Nat} {F : Nat → Nat} (ha₉ : a < 200) (hF₉ : PoolR μ a F) : CT g yX8_movedBy mX8_movedBy (RM 0 0 0) (WM g adr μ) [.ref (adr 237), .int (nI a)] (PM g adr ((.inl (some (.int (nI (cnt (fun k => decide (F k ≠ k)) 32)))))) (fun μ' => μ' = μ)) := by
  refine CT.of (l0 := [some (.ref (adr 237)), some (.int (nI a)), none, none]) (by decide +kernel) rfl (Nat.le_of_ble_eq_true rfl) rfl ?_
  refine J.iconst dX8_movedBy_0 kI_0 ?_
  refine J.is2 dX8_movedBy_1 (by decide) rfl ?_
  refine J.iconst dX8_movedBy_2 kI_0 ?_
  refine J.is3 dX8_movedBy_3 (by decide) rfl ?_
  have lp4_1 : ∀ (fu : Nat) (i n9 : Nat), 32 < i + fu → i ≤ 32 → n9 = cnt (fun k => decide (F k ≠ k)) i → J g mX8_movedBy (RM 0 0 0) (MQx g (RM 0 0 0) (PM g adr ((.inl (some (.int (nI (cnt (fun k => decide (F k ≠ k)) 32)))))) (fun μ' => μ' = μ))) 0 0 (WM g adr μ) 4 [some (.ref (adr 237)), some (.int (nI a)), some (.int (nI n9)), some (.int (nI i))] [] := by
    intro fu
    induction fu with
    | zero => intro i n9 h9₉ hi₉ hc9₉; exact absurd h9₉ (by omega)
    | succ fu ih4 =>
      intro i n9 h9₉ hi₉ hc9₉
      refine J.il3 dX8_movedBy_4 ?_
      refine J.bipush dX8_movedBy_5 kb_32 ?_
      refine J.icmp_geN (tgt := 39) dX8_movedBy_7 (by decide) (by omega) (by omega) (fun c7₉ => ?_) (fun c7₉ => ?_)
      · refine J.il2 dX8_movedBy_39 ?_
        refine J.iret rfl (by decide) (by decide) dX8_movedBy_40 ⟨_, rfl, ?_, ?_⟩
        · rw [show i = 32 by omega] at hc9₉; rw [hc9₉]
        · rfl
      · refine J.il2 dX8_movedBy_10 ?_
        refine J.al0 dX8_movedBy_11 ?_
        refine gf_X8_22 rfl (o2 := 242) (by decide) rfl dX8_movedBy_12 ?_
        refine J.bipush dX8_movedBy_15 kb_32 ?_
        refine J.il1 dX8_movedBy_17 ?_
        refine J.imulN dX8_movedBy_18 ?_
        refine J.il3 dX8_movedBy_19 ?_
        refine J.iaddN dX8_movedBy_20 ?_
        have hbF₉ := (hF₉ i (by omega)).2
        refine J.iald (N := 6400) (x := nI (F i)) (by decide) (by decide) (by decide) (by omega) ((hF₉ i (by omega)).1) dX8_movedBy_21 ?_
        refine J.il3 dX8_movedBy_22 ?_
        refine J.icmp_neN (tgt := 30) dX8_movedBy_23 (by decide) (by omega) (by omega) (fun c23₉ => ?_) (fun c23₉ => ?_)
        · refine J.iconst dX8_movedBy_30 kI_1 ?_
          refine J.iaddN dX8_movedBy_31 ?_
          refine J.is2 dX8_movedBy_32 (by decide) rfl ?_
          refine J.ii3 (z := 1) dX8_movedBy_33 (by decide) (by decide) rfl ?_
          refine J.goto (tgt := 4) dX8_movedBy_36 (by decide) ?_
          exact ih4 (i + 1) (n9 + 1) (by omega) (by omega) (by rw [cnt_1, hc9₉]; first | rw [if_pos (by simpa using c23₉)] | rw [if_neg (by simpa using c23₉)])
        · refine J.iconst dX8_movedBy_26 kI_0 ?_
          refine J.goto (tgt := 31) dX8_movedBy_27 (by decide) ?_
          refine J.iaddN dX8_movedBy_31 ?_
          refine J.is2 dX8_movedBy_32 (by decide) rfl ?_
          refine J.ii3 (z := 1) dX8_movedBy_33 (by decide) (by decide) rfl ?_
          refine J.goto (tgt := 4) dX8_movedBy_36 (by decide) ?_
          exact ih4 (i + 1) (n9 + 0) (by omega) (by omega) (by rw [cnt_1, hc9₉]; first | rw [if_pos (by simpa using c23₉)] | rw [if_neg (by simpa using c23₉)])
  exact lp4_1 (33) 0 0 (by omega) (by omega) rfl

set_option maxRecDepth 100000 in
set_option maxHeartbeats 4000000 in
theorem c_m_home {g : GP} {adr : Nat → Nat} (μ : Mem) {f : Nat → Nat} (hA₉ : ∀ k, k < 32 → μ 238 (8 + k) = nI (f k)) (hl₉ : ∀ k, k < 32 → f k < 32) : CT g yX8_home mX8_home (RM 0 0 0) (WM g adr μ) [.ref (adr 237)] (PM g adr ((.inl (some (.int (nI (cnt (fun s => decide (f s = s)) 32)))))) (fun μ' => μ' = μ)) := by
  refine CT.of (l0 := [some (.ref (adr 237)), none, none]) (by decide +kernel) rfl (Nat.le_of_ble_eq_true rfl) rfl ?_
  refine J.iconst dX8_home_0 kI_0 ?_
  refine J.is1 dX8_home_1 (by decide) rfl ?_
  refine J.iconst dX8_home_2 kI_0 ?_
  refine J.is2 dX8_home_3 (by decide) rfl ?_
  have lp4_1 : ∀ (fu : Nat) (i n9 : Nat), 32 < i + fu → i ≤ 32 → n9 = cnt (fun s => decide (f s = s)) i → J g mX8_home (RM 0 0 0) (MQx g (RM 0 0 0) (PM g adr ((.inl (some (.int (nI (cnt (fun s => decide (f s = s)) 32)))))) (fun μ' => μ' = μ))) 0 0 (WM g adr μ) 4 [some (.ref (adr 237)), some (.int (nI n9)), some (.int (nI i))] [] := by
    intro fu
    induction fu with
    | zero => intro i n9 h9₉ hi₉ hc9₉; exact absurd h9₉ (by omega)
    | succ fu ih4 =>
      intro i n9 h9₉ hi₉ hc9₉
      refine J.il2 dX8_home_4 ?_
      refine J.bipush dX8_home_5 kb_32 ?_
      refine J.icmp_geN (tgt := 37) dX8_home_7 (by decide) (by omega) (by omega) (fun c7₉ => ?_) (fun c7₉ => ?_)
      · refine J.il1 dX8_home_37 ?_
        refine J.iret rfl (by decide) (by decide) dX8_home_38 ⟨_, rfl, ?_, ?_⟩
        · rw [show i = 32 by omega] at hc9₉; rw [hc9₉]
        · rfl
      · refine J.il1 dX8_home_10 ?_
        refine J.al0 dX8_home_11 ?_
        refine gf_X8_9 rfl (o2 := 238) (by decide) rfl dX8_home_12 ?_
        refine J.bipush dX8_home_15 kb_8 ?_
        refine J.il2 dX8_home_17 ?_
        refine J.iaddN dX8_home_18 ?_
        have hbF₉ := hl₉ i (by omega)
        refine J.iald (N := 352) (x := nI (f i)) (by decide) (by decide) (by decide) (by omega) (hA₉ i (by omega)) dX8_home_19 ?_
        refine J.il2 dX8_home_20 ?_
        refine J.icmp_neN (tgt := 28) dX8_home_21 (by decide) (by omega) (by omega) (fun c21₉ => ?_) (fun c21₉ => ?_)
        · refine J.iconst dX8_home_28 kI_0 ?_
          refine J.iaddN dX8_home_29 ?_
          refine J.is1 dX8_home_30 (by decide) rfl ?_
          refine J.ii2 (z := 1) dX8_home_31 (by decide) (by decide) rfl ?_
          refine J.goto (tgt := 4) dX8_home_34 (by decide) ?_
          exact ih4 (i + 1) (n9 + 0) (by omega) (by omega) (by rw [cnt_1, hc9₉]; first | rw [if_pos (by simpa using c21₉)] | rw [if_neg (by simpa using c21₉)])
        · refine J.iconst dX8_home_24 kI_1 ?_
          refine J.goto (tgt := 29) dX8_home_25 (by decide) ?_
          refine J.iaddN dX8_home_29 ?_
          refine J.is1 dX8_home_30 (by decide) rfl ?_
          refine J.ii2 (z := 1) dX8_home_31 (by decide) (by decide) rfl ?_
          refine J.goto (tgt := 4) dX8_home_34 (by decide) ?_
          exact ih4 (i + 1) (n9 + 1) (by omega) (by omega) (by rw [cnt_1, hc9₉]; first | rw [if_pos (by simpa using c21₉)] | rw [if_neg (by simpa using c21₉)])
  exact lp4_1 (33) 0 0 (by omega) (by omega) rfl
