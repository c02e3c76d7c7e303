/-! ===== printed: the model: further helpers ===== -/
set_option maxRecDepth 100000 in
set_option maxHeartbeats 4000000 in
theorem c_m_commonS {g : GP} {adr : Nat → Nat} (μ : Mem) {a b : Nat} (ha₉ : a < 2147483648) (hb₉ : b ≤ 32) (ih : ∀ a2 b2, b2 < b → a2 < 2147483648 → CT g yX8_common mX8_common (RM b2 0 0) (WM g adr μ) [.int (nI a2), .int (nI b2)] (PM g adr (.inl (some (.int (nI (Nat.gcd a2 b2))))) (fun μ2 => μ2 = μ))) : CT g yX8_common mX8_common (RM b 0 0) (WM g adr μ) [.int (nI a), .int (nI b)] (PM g adr ((.inl (some (.int (nI (Nat.gcd a b)))))) (fun μ' => μ' = μ)) := by
  refine CT.of (l0 := [some (.int (nI a)), some (.int (nI b))]) (by decide +kernel) rfl (Nat.le_of_ble_eq_true rfl) rfl ?_
  refine J.il1 dX8_common_0 ?_
  refine J.if_neN (tgt := 8) dX8_common_1 (by decide) (by omega) (fun c1₉ => ?_) (fun c1₉ => ?_)
  · refine J.il1 dX8_common_8 ?_
    refine J.il0 dX8_common_9 ?_
    refine J.il1 dX8_common_10 ?_
    refine J.irem dX8_common_11 (by omega) (by omega) (by omega) ?_
    have hml₉ := Nat.mod_lt a (show 0 < b by omega)
    refine cl_X8_186 rfl (k' := 0) (n' := 0) (ih b (a % b) hml₉ (by omega)) (roomR (by have := Nat.mod_lt a (show 0 < b by omega); omega) (by omega)) rfl dX8_common_12 (fun μ9 h9₉ => ?_)
    rw [h9₉]; clear h9₉
    refine J.iret rfl (Nat.zero_le _) (Nat.zero_le _) dX8_common_15 ⟨_, rfl, ?_, ?_⟩
    · rw [Nat.gcd_comm b (a % b), ← Nat.gcd_rec b a, Nat.gcd_comm b a]
    · rfl
  · refine J.il0 dX8_common_4 ?_
    refine J.goto (tgt := 15) dX8_common_5 (by decide) ?_
    refine J.iret rfl (Nat.zero_le _) (Nat.zero_le _) dX8_common_15 ⟨_, rfl, ?_, ?_⟩
    · rw [show b = 0 by omega, Nat.gcd_zero_right]
    · rfl

theorem c_m_common {g : GP} {adr : Nat → Nat} (μ : Mem) : ∀ b, b ≤ 32 → ∀ a, a < 2147483648 → CT g yX8_common mX8_common (RM b 0 0) (WM g adr μ) [.int (nI a), .int (nI b)] (PM g adr (.inl (some (.int (nI (Nat.gcd a b))))) (fun μ2 => μ2 = μ)) := by
  intro b
  induction b using Nat.strongRecOn with
  | ind b ih => intro hb₉ a ha₉; exact c_m_commonS μ ha₉ hb₉ (fun a2 b2 h2₉ h3₉ => ih b2 h2₉ (by omega) a2 h3₉)

set_option maxRecDepth 100000 in
set_option maxHeartbeats 4000000 in
theorem c_m_order {g : GP} {adr : Nat → Nat} (μ : Mem) {j : Nat} {f : Nat → Nat} (hj₉ : j < 5) (hG₉ : ShR μ j f) (hBF₉ : Bij f) : CT g yX8_order mX8_order (RM 40 0 0) (WM g adr μ) [.ref (adr 237), .int (nI j)] (PM g adr ((.inl (some (.int (nI (ordL f 32)))))) (fun μ' => μ' = μ)) := by
  refine CT.of (l0 := [some (.ref (adr 237)), some (.int (nI j)), none, none, none]) (by decide +kernel) rfl (Nat.le_of_ble_eq_true rfl) rfl ?_
  refine J.iconst dX8_order_0 kI_1 ?_
  refine J.is2 dX8_order_1 (by decide) rfl ?_
  refine J.iconst dX8_order_2 kI_0 ?_
  refine J.is3 dX8_order_3 (by decide) rfl ?_
  have lp4_1 : ∀ (fu : Nat) (i c : Nat), 32 < i + fu → i ≤ 32 → c = ordL f i → J g mX8_order (RM 40 0 0) (MQx g (RM 40 0 0) (PM g adr ((.inl (some (.int (nI (ordL f 32)))))) (fun μ' => μ' = μ))) 0 0 (WM g adr μ) 4 [some (.ref (adr 237)), some (.int (nI j)), some (.int (nI c)), some (.int (nI i)), none] [] := by
    intro fu
    induction fu with
    | zero => intro i c h9₉ hi₉ hc₉; exact absurd h9₉ (by omega)
    | succ fu ih4 =>
      intro i c h9₉ hi₉ hc₉
      have hc2₉ : c ≤ 1000000 := by rw [hc₉]; exact ordL_le hBF₉ hi₉
      have hc3₉ : 0 < c := by rw [hc₉]; exact ordL_pos f i
      refine J.il3 dX8_order_4 ?_
      refine J.bipush dX8_order_5 kb_32 ?_
      refine J.icmp_geN (tgt := 36) dX8_order_7 (by decide) (by omega) (by omega) (fun c7₉ => ?_) (fun c7₉ => ?_)
      · refine J.il2 dX8_order_36 ?_
        refine J.iret rfl (by decide) (by decide) dX8_order_37 ⟨_, rfl, ?_, ?_⟩
        · rw [show i = 32 by omega] at hc₉; rw [hc₉]
        · rfl
      · refine J.al0 dX8_order_10 ?_
        refine J.il1 dX8_order_11 ?_
        refine J.il3 dX8_order_12 ?_
        have hcy13₉ := cyL_le f i
        refine cl_X8_189 rfl (by decide) (k' := 0) (n' := 0) (c_m_cycleOf _ hj₉ hG₉ hBF₉ (by omega)) ⟨⟨by decide, by decide⟩, ⟨rfl, rfl⟩, by decide, by decide⟩ rfl dX8_order_13 (fun μ9 h9₉ => ?_)
        rw [h9₉]; clear h9₉
        refine J.is4 dX8_order_16 (by decide) rfl ?_
        refine J.il2 dX8_order_18 ?_
        refine J.il2 dX8_order_19 ?_
        refine J.il4 dX8_order_20 ?_
        have hgp₉ := Nat.gcd_pos_of_pos_left (cyL f i) hc3₉
        have hgl₉ := Nat.gcd_le_right c (show 0 < cyL f i by omega)
        refine cl_X8_186 rfl (k' := 0) (n' := 0) (c_m_common _ (cyL f i) (by omega) c (by omega)) (roomR (by omega) (by omega)) rfl dX8_order_22 (fun μ9 h9₉ => ?_)
        rw [h9₉]; clear h9₉
        refine J.idiv dX8_order_25 (by omega) (by omega) (by omega) ?_
        refine J.il4 dX8_order_26 ?_
        refine J.imulN dX8_order_28 ?_
        refine J.is2 dX8_order_29 (by decide) rfl ?_
        refine J.ii3 (z := 1) dX8_order_30 (by decide) (by decide) rfl ?_
        refine J.goto (tgt := 4) dX8_order_33 (by decide) ?_
        exact J.subR (ih4 (i + 1) ((c / (Nat.gcd c (cyL f i))) * (cyL f i)) (by omega) (by omega) (by rw [lcm_c hc3₉ (by omega), hc₉]; rfl)) ⟨rfl, ⟨rfl, ⟨rfl, ⟨rfl, trivial⟩⟩⟩⟩
  exact lp4_1 (33) 0 1 (by omega) (by omega) rfl

set_option maxRecDepth 100000 in
set_option maxHeartbeats 4000000 in
theorem c_m_says {g : GP} {adr : Nat → Nat} (μ : Mem) {c : Nat} {T : TX} (hT₉ : TxM μ 246 19 T) (hl₉ : T.1 < 200) (hc₉ : c < 65536) : CT g yX8_says mX8_says (RM 0 0 0) (WM g adr μ) [.ref (adr 237), .int (nI c)] (PM g adr (.inl none) (fun μ' => TxM μ' 246 19 (tP c T) ∧ ∀ o k, o ≠ 246 → (o ≠ 237 ∨ k ≠ 19) → μ' o k = μ o k)) := by
  refine CT.of (l0 := [some (.ref (adr 237)), some (.int (nI c))]) (by decide +kernel) rfl (Nat.le_of_ble_eq_true rfl) rfl ?_
  refine J.al0 dX8_says_0 ?_
  refine gf_X8_39 rfl (o2 := 246) (by decide) rfl dX8_says_1 ?_
  refine J.al0 dX8_says_4 ?_
  refine gf_X8_204 rfl (x := nI T.1) (by decide) hT₉.1 dX8_says_5 ?_
  refine J.il1 dX8_says_8 ?_
  refine J.cast (N := 200) (by decide) (by decide) (by omega) (nar_c (by omega)) dX8_says_9 ?_
  refine J.al0 dX8_says_10 ?_
  refine J.dup dX8_says_11 rfl ?_
  refine gf_X8_204 rfl (x := nI T.1) (by decide) (by rw [wr_n (by omega)]; exact hT₉.1) dX8_says_12 ?_
  refine J.iconst dX8_says_15 kI_1 ?_
  refine J.iaddN dX8_says_16 ?_
  refine pf_X8_204 rfl (by decide) dX8_says_17 ?_
  refine J.vret rfl (by decide) (by decide) dX8_says_20 ⟨_, rfl, ?_, ?_⟩
  · rfl
  · exact ⟨hT₉.add (by decide) hc₉, fun o k h1₉ h2₉ => by rw [wr_n h2₉, wr_n (Or.inl h1₉)]⟩

set_option maxRecDepth 100000 in
set_option maxHeartbeats 4000000 in
theorem c_m_sayN1 {g : GP} {adr : Nat → Nat} (μ : Mem) {a : Nat} {T : TX} (hT₉ : TxM μ 246 19 T) (hl₉ : T.1 < 200) (ha₉ : a < 10) : CT g yX8_saysNumber mX8_saysNumber (RM 1 0 0) (WM g adr μ) [.ref (adr 237), .int (nI a)] (PM g adr (.inl none) (fun μ' => TxM μ' 246 19 (tN a T) ∧ ∀ o k, o ≠ 246 → (o ≠ 237 ∨ k ≠ 19) → μ' o k = μ o k)) := by
  refine CT.of (l0 := [some (.ref (adr 237)), some (.int (nI a))]) (by decide +kernel) rfl (Nat.le_of_ble_eq_true rfl) rfl ?_
  refine J.il1 dX8_saysNumber_0 ?_
  refine J.bipush dX8_saysNumber_1 kb_9 ?_
  refine J.icmp_leN (tgt := 14) dX8_saysNumber_3 (by decide) (by omega) (by omega) (fun c3₉ => ?_) (fun c3₉ => absurd c3₉ (by first | omega | (simp only [not_true_eq_false, not_false_eq_true]; done) | (simp; done)))
  refine J.al0 dX8_saysNumber_14 ?_
  refine J.bipush dX8_saysNumber_15 kb_48 ?_
  refine J.il1 dX8_saysNumber_17 ?_
  refine J.bipush dX8_saysNumber_18 kb_10 ?_
  refine J.irem dX8_saysNumber_20 (by omega) (by omega) (by omega) ?_
  refine J.iaddN dX8_saysNumber_21 ?_
  refine J.i2c dX8_saysNumber_22 (i2cN (by omega)) ?_
  refine cl_X8_210 rfl (by decide) (k' := 0) (n' := 0) (c_m_says _ hT₉ hl₉ (by omega)) ⟨⟨by decide, by decide⟩, ⟨rfl, rfl⟩, by decide, by decide⟩ rfl dX8_saysNumber_23 (fun μ2 ⟨hT2₉, hO2₉⟩ => ?_)
  refine J.vret rfl (by decide) (by decide) dX8_saysNumber_26 ⟨_, rfl, ?_, ?_⟩
  · rfl
  · exact ⟨by rw [← tN_1 ha₉]; exact hT2₉, hO2₉⟩

set_option maxRecDepth 100000 in
set_option maxHeartbeats 4000000 in
theorem c_m_sayN2 {g : GP} {adr : Nat → Nat} (μ : Mem) {a : Nat} {T : TX} (hT₉ : TxM μ 246 19 T) (hl₉ : T.1 + 1 < 200) (ha₉ : 10 ≤ a) (ha2₉ : a < 100) : CT g yX8_saysNumber mX8_saysNumber (RM 2 0 0) (WM g adr μ) [.ref (adr 237), .int (nI a)] (PM g adr (.inl none) (fun μ' => TxM μ' 246 19 (tN a T) ∧ ∀ o k, o ≠ 246 → (o ≠ 237 ∨ k ≠ 19) → μ' o k = μ o k)) := by
  refine CT.of (l0 := [some (.ref (adr 237)), some (.int (nI a))]) (by decide +kernel) rfl (Nat.le_of_ble_eq_true rfl) rfl ?_
  refine J.il1 dX8_saysNumber_0 ?_
  refine J.bipush dX8_saysNumber_1 kb_9 ?_
  refine J.icmp_leN (tgt := 14) dX8_saysNumber_3 (by decide) (by omega) (by omega) (fun c3₉ => absurd c3₉ (by first | omega | (simp only [not_true_eq_false, not_false_eq_true]; done) | (simp; done))) (fun c3₉ => ?_)
  refine J.al0 dX8_saysNumber_6 ?_
  refine J.il1 dX8_saysNumber_7 ?_
  refine J.bipush dX8_saysNumber_8 kb_10 ?_
  refine J.idiv dX8_saysNumber_10 (by omega) (by omega) (by omega) ?_
  refine cl_X8_207 rfl (by decide) (k' := 0) (n' := 0) (c_m_sayN1 _ hT₉ (by omega) (by omega)) ⟨⟨by decide, by decide⟩, ⟨rfl, rfl⟩, by decide, by decide⟩ rfl dX8_saysNumber_11 (fun μ2 ⟨hT2₉, hO2₉⟩ => ?_)
  refine J.al0 dX8_saysNumber_14 ?_
  refine J.bipush dX8_saysNumber_15 kb_48 ?_
  refine J.il1 dX8_saysNumber_17 ?_
  refine J.bipush dX8_saysNumber_18 kb_10 ?_
  refine J.irem dX8_saysNumber_20 (by omega) (by omega) (by omega) ?_
  refine J.iaddN dX8_saysNumber_21 ?_
  refine J.i2c dX8_saysNumber_22 (i2cN (by omega)) ?_
  refine cl_X8_210 rfl (by decide) (k' := 0) (n' := 0) (c_m_says _ hT2₉ (show (tN (a / 10) T).1 < 200 by show T.1 + numW (a / 10) < 200; unfold numW; rw [if_pos (by omega)]; exact hl₉) (by omega)) ⟨⟨by decide, by decide⟩, ⟨rfl, rfl⟩, by decide, by decide⟩ rfl dX8_saysNumber_23 (fun μ3 ⟨hT3₉, hO3₉⟩ => ?_)
  refine J.vret rfl (by decide) (by decide) dX8_saysNumber_26 ⟨_, rfl, ?_, ?_⟩
  · rfl
  · exact ⟨by rw [← tN_2 ha₉ ha2₉]; exact hT3₉, fun o k h1₉ h2₉ => (hO3₉ o k h1₉ h2₉).trans (hO2₉ o k h1₉ h2₉)⟩
