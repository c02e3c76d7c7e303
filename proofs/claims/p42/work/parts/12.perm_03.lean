/-! ===== printed: the rows of permutations ===== -/
set_option maxRecDepth 100000 in
set_option maxHeartbeats 4000000 in
theorem c_toInverse {g : GP} {adr : Nat → Nat} (μ : Mem) {p q : Nat} {f : Nat → Nat} (hp₉ : kt p = 1) (hq₉ : kt q = 1) (hn₉ : p ≠ q) (hf₉ : PermR μ (q + 1) f) (hB₉ : Bij f) : CT g yX3_toInverse mX3_toInverse (RM 0 0 0) (WM g adr μ) [.ref (adr p), .ref (adr q)] (PM g adr (.inl none) (fun μ' => PermR μ' (p + 1) (pinv f) ∧ Off μ' μ (p + 1))) := by
  refine CT.of (l0 := [some (.ref (adr p)), some (.ref (adr q)), none, none]) (by decide +kernel) rfl (Nat.le_of_ble_eq_true rfl) rfl ?_
  have hp1₉ := kt_p hp₉
  have hq1₉ := kt_p hq₉
  refine J.iconst dX3_toInverse_0 kI_0 ?_
  refine J.is2 dX3_toInverse_1 (by decide) rfl ?_
  have lp2_1 : ∀ (fu : Nat) (i : Nat) (μ1 : Mem), 32 < i + fu → i ≤ 32 → (∀ k, k < i → μ1 (p + 1) (f k) = nI k) → Off μ1 μ (p + 1) → J g mX3_toInverse (RM 0 0 0) (MQx g (RM 0 0 0) (PM g adr (.inl none) (fun μ' => PermR μ' (p + 1) (pinv f) ∧ Off μ' μ (p + 1)))) 0 0 (WM g adr μ1) 2 [some (.ref (adr p)), some (.ref (adr q)), some (.int (nI i)), none] [] := by
    intro fu
    induction fu with
    | zero => intro i μ1 h9₉ hi₉ hI₉ hO₉; exact absurd h9₉ (by omega)
    | succ fu ih2 =>
      intro i μ1 h9₉ hi₉ hI₉ hO₉
      have hQ₉ := hf₉.off hO₉ (by omega)
      refine J.il2 dX3_toInverse_2 ?_
      refine J.bipush dX3_toInverse_3 kb_32 ?_
      refine J.icmp_geN (tgt := 38) dX3_toInverse_5 (by decide) (by omega) (by omega) (fun c5₉ => ?_) (fun c5₉ => ?_)
      · refine J.vret rfl (by decide) (by decide) dX3_toInverse_38 ⟨_, rfl, ?_, ?_⟩
        · rfl
        · exact ⟨fun k hk₉ => ⟨by have h9₉ := hI₉ (pinv f k) (by have := (hB₉.inv1 hk₉).1; omega); rw [(hB₉.inv1 hk₉).2] at h9₉; exact h9₉, (hB₉.inv1 hk₉).1⟩, hO₉⟩
      · refine J.al1 dX3_toInverse_8 ?_
        refine gf_X3_9 rfl (o2 := q + 1) hq₉ rfl dX3_toInverse_9 ?_
        refine J.il2 dX3_toInverse_12 ?_
        have hb2₉ := (hf₉ i (by omega)).2
        refine J.iald (N := 32) (x := nI (f i)) hq1₉ (by decide) (by decide) (by omega) ((hQ₉ i (by omega)).1) dX3_toInverse_13 ?_
        refine J.is3 dX3_toInverse_14 (by decide) rfl ?_
        refine J.il3 dX3_toInverse_15 ?_
        refine J.if_ltN (tgt := 32) dX3_toInverse_16 (by decide) (by omega) (fun c16₉ => absurd c16₉ (by first | omega | (simp only [not_true_eq_false, not_false_eq_true]; done) | (simp; done))) (fun c16₉ => ?_)
        refine J.il3 dX3_toInverse_19 ?_
        refine J.bipush dX3_toInverse_20 kb_32 ?_
        refine J.icmp_geN (tgt := 32) dX3_toInverse_22 (by decide) (by omega) (by omega) (fun c22₉ => absurd c22₉ (by first | omega | (simp only [not_true_eq_false, not_false_eq_true]; done) | (simp; done))) (fun c22₉ => ?_)
        refine J.al0 dX3_toInverse_25 ?_
        refine gf_X3_9 rfl (o2 := p + 1) hp₉ rfl dX3_toInverse_26 ?_
        refine J.il3 dX3_toInverse_29 ?_
        refine J.il2 dX3_toInverse_30 ?_
        refine J.iast (N := 32) hp1₉ (by decide) (by decide) (by omega) dX3_toInverse_31 ?_
        refine J.ii2 (z := 1) dX3_toInverse_32 (by decide) (by decide) rfl ?_
        refine J.goto (tgt := 2) dX3_toInverse_35 (by decide) ?_
        exact J.subR (ih2 (i + 1) _ (by omega) (by omega) (inv_step hB₉ (by omega) hI₉) (Off.wr hO₉)) ⟨rfl, ⟨rfl, ⟨rfl, trivial⟩⟩⟩
  exact lp2_1 (33) 0 _ (by omega) (by omega) (fun k hk₉ => absurd hk₉ (by omega)) Off.rf

set_option maxRecDepth 100000 in
set_option maxHeartbeats 4000000 in
theorem c_then {g : GP} {adr : Nat → Nat} (μ : Mem) {p q : Nat} {f h : Nat → Nat} (hp₉ : kt p = 1) (hq₉ : kt q = 1) (hn₉ : p ≠ q) (hf₉ : PermR μ (p + 1) f) (hh₉ : PermR μ (q + 1) h) : CT g yX3_then mX3_then (RM 0 0 0) (WM g adr μ) [.ref (adr p), .ref (adr q)] (PM g adr (.inl none) (fun μ' => PermR μ' (p + 1) (fun k => h (f k)) ∧ Off μ' μ (p + 1))) := by
  refine CT.of (l0 := [some (.ref (adr p)), some (.ref (adr q)), none, none]) (by decide +kernel) rfl (Nat.le_of_ble_eq_true rfl) rfl ?_
  have hp1₉ := kt_p hp₉
  have hq1₉ := kt_p hq₉
  refine J.iconst dX3_then_0 kI_0 ?_
  refine J.is2 dX3_then_1 (by decide) rfl ?_
  have lp2_1 : ∀ (fu : Nat) (i : Nat) (μ1 : Mem), 32 < i + fu → i ≤ 32 → (∀ k, k < i → μ1 (p + 1) k = nI (h (f k))) → (∀ k, i ≤ k → k < 32 → μ1 (p + 1) k = nI (f k)) → Off μ1 μ (p + 1) → J g mX3_then (RM 0 0 0) (MQx g (RM 0 0 0) (PM g adr (.inl none) (fun μ' => PermR μ' (p + 1) (fun k => h (f k)) ∧ Off μ' μ (p + 1)))) 0 0 (WM g adr μ1) 2 [some (.ref (adr p)), some (.ref (adr q)), some (.int (nI i)), none] [] := by
    intro fu
    induction fu with
    | zero => intro i μ1 h9₉ hi₉ hI₉ hU₉ hO₉; exact absurd h9₉ (by omega)
    | succ fu ih2 =>
      intro i μ1 h9₉ hi₉ hI₉ hU₉ hO₉
      have hQ₉ := hh₉.off hO₉ (by omega)
      refine J.il2 dX3_then_2 ?_
      refine J.bipush dX3_then_3 kb_32 ?_
      refine J.icmp_geN (tgt := 43) dX3_then_5 (by decide) (by omega) (by omega) (fun c5₉ => ?_) (fun c5₉ => ?_)
      · refine J.vret rfl (by decide) (by decide) dX3_then_43 ⟨_, rfl, ?_, ?_⟩
        · rfl
        · exact ⟨fun k hk₉ => ⟨hI₉ k (by omega), (hh₉ _ (hf₉ k hk₉).2).2⟩, hO₉⟩
      · refine J.al0 dX3_then_8 ?_
        refine gf_X3_9 rfl (o2 := p + 1) hp₉ rfl dX3_then_9 ?_
        refine J.il2 dX3_then_12 ?_
        have hb2₉ := (hf₉ i (by omega)).2
        refine J.iald (N := 32) (x := nI (f i)) hp1₉ (by decide) (by decide) (by omega) ((hU₉ i (by omega) (by omega))) dX3_then_13 ?_
        refine J.is3 dX3_then_14 (by decide) rfl ?_
        refine J.il3 dX3_then_15 ?_
        refine J.if_ltN (tgt := 37) dX3_then_16 (by decide) (by omega) (fun c16₉ => absurd c16₉ (by first | omega | (simp only [not_true_eq_false, not_false_eq_true]; done) | (simp; done))) (fun c16₉ => ?_)
        refine J.il3 dX3_then_19 ?_
        refine J.bipush dX3_then_20 kb_32 ?_
        refine J.icmp_geN (tgt := 37) dX3_then_22 (by decide) (by omega) (by omega) (fun c22₉ => absurd c22₉ (by first | omega | (simp only [not_true_eq_false, not_false_eq_true]; done) | (simp; done))) (fun c22₉ => ?_)
        refine J.al0 dX3_then_25 ?_
        refine gf_X3_9 rfl (o2 := p + 1) hp₉ rfl dX3_then_26 ?_
        refine J.il2 dX3_then_29 ?_
        refine J.al1 dX3_then_30 ?_
        refine gf_X3_9 rfl (o2 := q + 1) hq₉ rfl dX3_then_31 ?_
        refine J.il3 dX3_then_34 ?_
        refine J.iald (N := 32) (x := nI (h (f i))) hq1₉ (by decide) (by decide) (by omega) ((hQ₉ (f i) (by omega)).1) dX3_then_35 ?_
        refine J.iast (N := 32) hp1₉ (by decide) (by decide) (by omega) dX3_then_36 ?_
        refine J.ii2 (z := 1) dX3_then_37 (by decide) (by decide) rfl ?_
        refine J.goto (tgt := 2) dX3_then_40 (by decide) ?_
        exact J.subR (ih2 (i + 1) _ (by omega) (by omega) (row_step hI₉ rfl) (row_keep hU₉) (Off.wr hO₉)) ⟨rfl, ⟨rfl, ⟨rfl, trivial⟩⟩⟩
  exact lp2_1 (33) 0 _ (by omega) (by omega) (fun k hk₉ => absurd hk₉ (by omega)) (fun k _ hk₉ => (hf₉ k hk₉).1) Off.rf

set_option maxRecDepth 100000 in
set_option maxHeartbeats 4000000 in
theorem c_toPower {g : GP} {adr : Nat → Nat} (μ : Mem) {p q t : Nat} {f : Nat → Nat} (hp₉ : kt p = 1) (hq₉ : kt q = 1) (hn₉ : p ≠ q) (hf₉ : PermR μ (q + 1) f) (ht₉ : t < 2147483648) : CT g yX3_toPower mX3_toPower (RM 1 0 0) (WM g adr μ) [.ref (adr p), .ref (adr q), .int (nI t)] (PM g adr (.inl none) (fun μ' => PermR μ' (p + 1) (iter f t) ∧ Off μ' μ (p + 1))) := by
  refine CT.of (l0 := [some (.ref (adr p)), some (.ref (adr q)), some (.int (nI t)), none]) (by decide +kernel) rfl (Nat.le_of_ble_eq_true rfl) rfl ?_
  have hp1₉ := kt_p hp₉
  have hq1₉ := kt_p hq₉
  refine J.al0 dX3_toPower_0 ?_
  refine cl_X3_26 rfl hp₉ (k' := 0) (n' := 0) (c_toNothing _ hp₉) ⟨⟨by decide, by decide⟩, ⟨rfl, rfl⟩, by decide, by decide⟩ rfl dX3_toPower_1 (fun μ2 ⟨h2₉, hO2₉⟩ => ?_)
  refine J.iconst dX3_toPower_4 kI_0 ?_
  refine J.is3 dX3_toPower_5 (by decide) rfl ?_
  have lp6_1 : ∀ (fu : Nat) (i : Nat) (μ1 : Mem), t < i + fu → i ≤ t → PermR μ1 (p + 1) (iter f i) → Off μ1 μ (p + 1) → J g mX3_toPower (RM 1 0 0) (MQx g (RM 1 0 0) (PM g adr (.inl none) (fun μ' => PermR μ' (p + 1) (iter f t) ∧ Off μ' μ (p + 1)))) 0 0 (WM g adr μ1) 6 [some (.ref (adr p)), some (.ref (adr q)), some (.int (nI t)), some (.int (nI i))] [] := by
    intro fu
    induction fu with
    | zero => intro i μ1 h9₉ hi₉ hI₉ hO₉; exact absurd h9₉ (by omega)
    | succ fu ih6 =>
      intro i μ1 h9₉ hi₉ hI₉ hO₉
      refine J.il3 dX3_toPower_6 ?_
      refine J.il2 dX3_toPower_7 ?_
      refine J.icmp_geN (tgt := 22) dX3_toPower_8 (by decide) (by omega) (by omega) (fun c8₉ => ?_) (fun c8₉ => ?_)
      · refine J.vret rfl (by decide) (by decide) dX3_toPower_22 ⟨_, rfl, ?_, ?_⟩
        · rfl
        · rw [show t = i by omega]; exact ⟨hI₉, hO₉⟩
      · refine J.al0 dX3_toPower_11 ?_
        refine J.al1 dX3_toPower_12 ?_
        refine cl_X3_29 rfl hp₉ (k' := 0) (n' := 0) (c_then _ hp₉ hq₉ hn₉ hI₉ (hf₉.off hO₉ (by omega))) ⟨⟨by decide, by decide⟩, ⟨rfl, rfl⟩, by decide, by decide⟩ rfl dX3_toPower_13 (fun μ3 ⟨h3₉, hO3₉⟩ => ?_)
        refine J.ii3 (z := 1) dX3_toPower_16 (by decide) (by decide) rfl ?_
        refine J.goto (tgt := 6) dX3_toPower_19 (by decide) ?_
        exact ih6 (i + 1) _ (by omega) (by omega) h3₉ (hO3₉.trans hO₉)
  exact lp6_1 (t + 1) 0 _ (by omega) (by omega) h2₉ hO2₉

set_option maxRecDepth 100000 in
set_option maxHeartbeats 4000000 in
theorem c_toCommuted {g : GP} {adr : Nat → Nat} (μ : Mem) {p a b v : Nat} {f h : Nat → Nat} (hp₉ : kt p = 1) (ha₉ : kt a = 1) (hb₉ : kt b = 1) (hv₉ : kt v = 1) (h1n : p ≠ a) (h2n : p ≠ b) (h3n : p ≠ v) (h4n : v ≠ a) (h5n : v ≠ b) (hf₉ : PermR μ (a + 1) f) (hh₉ : PermR μ (b + 1) h) (hBf₉ : Bij f) (hBh₉ : Bij h) : CT g yX3_toCommuted mX3_toCommuted (RM 1 0 0) (WM g adr μ) [.ref (adr p), .ref (adr a), .ref (adr b), .ref (adr v)] (PM g adr (.inl none) (fun μ' => PermR μ' (p + 1) (fun k => pinv h (pinv f (h (f k)))) ∧ ∀ q, q ≠ p + 1 → q ≠ v + 1 → μ' q = μ q)) := by
  refine CT.of (l0 := [some (.ref (adr p)), some (.ref (adr a)), some (.ref (adr b)), some (.ref (adr v))]) (by decide +kernel) rfl (Nat.le_of_ble_eq_true rfl) rfl ?_
  have hp1₉ := kt_p hp₉
  refine J.al0 dX3_toCommuted_0 ?_
  refine J.al1 dX3_toCommuted_1 ?_
  refine cl_X3_33 rfl hp₉ (k' := 0) (n' := 0) (c_toCopy _ hp₉ ha₉ h1n hf₉) ⟨⟨by decide, by decide⟩, ⟨rfl, rfl⟩, by decide, by decide⟩ rfl dX3_toCommuted_2 (fun μ1 ⟨k1₉, o1₉⟩ => ?_)
  refine J.al0 dX3_toCommuted_5 ?_
  refine J.al2 dX3_toCommuted_6 ?_
  refine cl_X3_29 rfl hp₉ (k' := 0) (n' := 0) (c_then _ hp₉ hb₉ h2n k1₉ (hh₉.off o1₉ (by omega))) ⟨⟨by decide, by decide⟩, ⟨rfl, rfl⟩, by decide, by decide⟩ rfl dX3_toCommuted_7 (fun μ2 ⟨k2₉, o2₉⟩ => ?_)
  refine J.al3 dX3_toCommuted_10 ?_
  refine J.al1 dX3_toCommuted_11 ?_
  refine cl_X3_36 rfl hv₉ (k' := 0) (n' := 0) (c_toInverse _ hv₉ ha₉ h4n ((hf₉.off o1₉ (by omega)).off o2₉ (by omega)) hBf₉) ⟨⟨by decide, by decide⟩, ⟨rfl, rfl⟩, by decide, by decide⟩ rfl dX3_toCommuted_12 (fun μ3 ⟨k3₉, o3₉⟩ => ?_)
  refine J.al0 dX3_toCommuted_15 ?_
  refine J.al3 dX3_toCommuted_16 ?_
  refine cl_X3_29 rfl hp₉ (k' := 0) (n' := 0) (c_then _ hp₉ hv₉ h3n (k2₉.off o3₉ (by omega)) k3₉) ⟨⟨by decide, by decide⟩, ⟨rfl, rfl⟩, by decide, by decide⟩ rfl dX3_toCommuted_17 (fun μ4 ⟨k4₉, o4₉⟩ => ?_)
  refine J.al3 dX3_toCommuted_20 ?_
  refine J.al2 dX3_toCommuted_21 ?_
  refine cl_X3_36 rfl hv₉ (k' := 0) (n' := 0) (c_toInverse _ hv₉ hb₉ h5n ((((hh₉.off o1₉ (by omega)).off o2₉ (by omega)).off o3₉ (by omega)).off o4₉ (by omega)) hBh₉) ⟨⟨by decide, by decide⟩, ⟨rfl, rfl⟩, by decide, by decide⟩ rfl dX3_toCommuted_22 (fun μ5 ⟨k5₉, o5₉⟩ => ?_)
  refine J.al0 dX3_toCommuted_25 ?_
  refine J.al3 dX3_toCommuted_26 ?_
  refine cl_X3_29 rfl hp₉ (k' := 0) (n' := 0) (c_then _ hp₉ hv₉ h3n (k4₉.off o5₉ (by omega)) k5₉) ⟨⟨by decide, by decide⟩, ⟨rfl, rfl⟩, by decide, by decide⟩ rfl dX3_toCommuted_27 (fun μ6 ⟨k6₉, o6₉⟩ => ?_)
  refine J.vret rfl (by decide) (by decide) dX3_toCommuted_30 ⟨_, rfl, ?_, ?_⟩
  · rfl
  · exact ⟨k6₉, fun q h1₉ h2₉ => (o6₉ q h1₉).trans ((o5₉ q h2₉).trans ((o4₉ q h1₉).trans ((o3₉ q h2₉).trans ((o2₉ q h1₉).trans (o1₉ q h1₉)))))⟩

set_option maxRecDepth 100000 in
set_option maxHeartbeats 4000000 in
theorem c_movesNothing {g : GP} {adr : Nat → Nat} (μ : Mem) {p : Nat} {f : Nat → Nat} (hp₉ : kt p = 1) (hf₉ : PermR μ (p + 1) f) : CT g yX3_movesNothing mX3_movesNothing (RM 0 0 0) (WM g adr μ) [.ref (adr p)] (PM g adr ((.inl (some (.int (if allU (fun k => decide (f k = k)) 32 = true then nI 1 else nI 0))))) (fun μ' => μ' = μ)) := by
  refine CT.of (l0 := [some (.ref (adr p)), none]) (by decide +kernel) rfl (Nat.le_of_ble_eq_true rfl) rfl ?_
  have hp1₉ := kt_p hp₉
  refine J.iconst dX3_movesNothing_0 kI_0 ?_
  refine J.is1 dX3_movesNothing_1 (by decide) rfl ?_
  have lp2_1 : ∀ (fu : Nat) (i : Nat), 32 < i + fu → i ≤ 32 → (∀ k, k < i → f k = k) → J g mX3_movesNothing (RM 0 0 0) (MQx g (RM 0 0 0) (PM g adr ((.inl (some (.int (if allU (fun k => decide (f k = k)) 32 = true then nI 1 else nI 0))))) (fun μ' => μ' = μ))) 0 0 (WM g adr μ) 2 [some (.ref (adr p)), some (.int (nI i))] [] := by
    intro fu
    induction fu with
    | zero => intro i h9₉ hi₉ hI₉; exact absurd h9₉ (by omega)
    | succ fu ih2 =>
      intro i h9₉ hi₉ hI₉
      refine J.il1 dX3_movesNothing_2 ?_
      refine J.bipush dX3_movesNothing_3 kb_32 ?_
      refine J.icmp_geN (tgt := 26) dX3_movesNothing_5 (by decide) (by omega) (by omega) (fun c5₉ => ?_) (fun c5₉ => ?_)
      · refine J.iconst dX3_movesNothing_26 kI_1 ?_
        refine J.zret (ty := .boolean) rfl (by decide) (by decide) (by decide) dX3_movesNothing_27 ⟨_, rfl, ?_, ?_⟩
        · rw [if_pos (allU_iff.mpr (fun k hk₉ => by simpa using hI₉ k (by omega)))]
        · rfl
      · refine J.al0 dX3_movesNothing_8 ?_
        refine gf_X3_9 rfl (o2 := p + 1) hp₉ rfl dX3_movesNothing_9 ?_
        refine J.il1 dX3_movesNothing_12 ?_
        have hb2₉ := (hf₉ i (by omega)).2
        refine J.iald (N := 32) (x := nI (f i)) hp1₉ (by decide) (by decide) (by omega) ((hf₉ i (by omega)).1) dX3_movesNothing_13 ?_
        refine J.il1 dX3_movesNothing_14 ?_
        refine J.icmp_eqN (tgt := 20) dX3_movesNothing_15 (by decide) (by omega) (by omega) (fun c15₉ => ?_) (fun c15₉ => ?_)
        · refine J.ii1 (z := 1) dX3_movesNothing_20 (by decide) (by decide) rfl ?_
          refine J.goto (tgt := 2) dX3_movesNothing_23 (by decide) ?_
          exact ih2 (i + 1) (by omega) (by omega) (lt_s hI₉ c15₉)
        · refine J.iconst dX3_movesNothing_18 kI_0 ?_
          refine J.zret (ty := .boolean) rfl (by decide) (by decide) (by decide) dX3_movesNothing_19 ⟨_, rfl, ?_, ?_⟩
          · rw [if_neg (by rw [allU_no (k := i) (by omega) (by simpa using c15₉)]; decide)]
          · rfl
  exact lp2_1 (33) 0 (by omega) (by omega) (fun k hk₉ => absurd hk₉ (by omega))
