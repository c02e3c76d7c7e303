/-! ===== printed: the rows of permutations ===== -/
set_option maxRecDepth 100000 in
set_option maxHeartbeats 4000000 in
theorem c_toCopyR {g : GP} {adr : Nat → Nat} (μ : Mem) {p q : Nat} (hp₉ : kt p = 1) (hq₉ : kt q = 1) (hn₉ : p ≠ q) : CT g yX3_toCopy mX3_toCopy (RM 0 0 0) (WM g adr μ) [.ref (adr p), .ref (adr q)] (PM g adr (.inl none) (fun μ' => (∀ k, k < 32 → μ' (p + 1) k = μ (q + 1) k) ∧ Off μ' μ (p + 1))) := by
  refine CT.of (l0 := [some (.ref (adr p)), some (.ref (adr q)), none]) (by decide +kernel) rfl (Nat.le_of_ble_eq_true rfl) rfl ?_
  have hp1₉ := kt_p hp₉
  have hq1₉ := kt_p hq₉
  refine J.iconst dX3_toCopy_0 kI_0 ?_
  refine J.is2 dX3_toCopy_1 (by decide) rfl ?_
  have lp2_1 : ∀ (fu : Nat) (i : Nat) (μ1 : Mem), 32 < i + fu → i ≤ 32 → (∀ k, k < i → μ1 (p + 1) k = μ (q + 1) k) → Off μ1 μ (p + 1) → J g mX3_toCopy (RM 0 0 0) (MQx g (RM 0 0 0) (PM g adr (.inl none) (fun μ' => (∀ k, k < 32 → μ' (p + 1) k = μ (q + 1) k) ∧ Off μ' μ (p + 1)))) 0 0 (WM g adr μ1) 2 [some (.ref (adr p)), some (.ref (adr q)), some (.int (nI i))] [] := by
    intro fu
    induction fu with
    | zero => intro i μ1 h9₉ hi₉ hI₉ hO₉; exact absurd h9₉ (by omega)
    | succ fu ih2 =>
      intro i μ1 h9₉ hi₉ hI₉ hO₉
      refine J.il2 dX3_toCopy_2 ?_
      refine J.bipush dX3_toCopy_3 kb_32 ?_
      refine J.icmp_geN (tgt := 26) dX3_toCopy_5 (by decide) (by omega) (by omega) (fun c5₉ => ?_) (fun c5₉ => ?_)
      · refine J.vret rfl (by decide) (by decide) dX3_toCopy_26 ⟨_, rfl, ?_, ?_⟩
        · rfl
        · exact ⟨fun k hk₉ => hI₉ k (by omega), hO₉⟩
      · refine J.al0 dX3_toCopy_8 ?_
        refine gf_X3_9 rfl (o2 := p + 1) hp₉ rfl dX3_toCopy_9 ?_
        refine J.il2 dX3_toCopy_12 ?_
        refine J.al1 dX3_toCopy_13 ?_
        refine gf_X3_9 rfl (o2 := q + 1) hq₉ rfl dX3_toCopy_14 ?_
        refine J.il2 dX3_toCopy_17 ?_
        refine J.iald (N := 32) (x := μ (q + 1) i) hq1₉ (by decide) (by decide) (by omega) (by rw [hO₉ (q + 1) (by omega)]) dX3_toCopy_18 ?_
        refine J.iast (N := 32) hp1₉ (by decide) (by decide) (by omega) dX3_toCopy_19 ?_
        refine J.ii2 (z := 1) dX3_toCopy_20 (by decide) (by decide) rfl ?_
        refine J.goto (tgt := 2) dX3_toCopy_23 (by decide) ?_
        exact ih2 (i + 1) _ (by omega) (by omega) (row_step hI₉ rfl) (Off.wr hO₉)
  exact lp2_1 (33) 0 _ (by omega) (by omega) (fun k hk₉ => absurd hk₉ (by omega)) Off.rf

theorem PM.mono {g : GP} {adr : Nat → Nat} {r : Option Value ⊕ String} {φ ψ : Mem → Prop} (h : ∀ μ', φ μ' → ψ μ') : ∀ o w, PM g adr r φ o w → PM g adr r ψ o w := fun o w ⟨μ', h1₉, h2₉, h3₉⟩ => ⟨μ', h1₉, h2₉, h μ' h3₉⟩
theorem CT.mono {g : GP} {y : MethodName} {M : MI} {R : Room} {w : va_W} {av : List Value} {P Q : PT} (h : CT g y M R w av P) (hP₉ : ∀ o w, P o w → Q o w) : CT g y M R w av Q := by
  intro ln hst₉ p e ha₉ hc₉ hk₉ s m args below hf₉ happ hp₉ ht₉
  obtain ⟨k, o, h1₉, h2₉, h3₉, hq₉⟩ := h ln hst₉ p e ha₉ hc₉ hk₉ s m args below hf₉ happ hp₉ ht₉
  refine ⟨k, o, h1₉, h2₉, h3₉, ?_⟩
  rcases hq₉ with ⟨⟨v, w', q1₉, q2₉, q3₉⟩, q4₉⟩ | ⟨q, q1₉, E, ce, LL, ⟨w', q2₉, q3₉⟩, q4₉⟩
  · exact Or.inl ⟨⟨v, w', q1₉, hP₉ _ _ q2₉, q3₉⟩, q4₉⟩
  · exact Or.inr ⟨q, q1₉, E, ce, LL, ⟨w', hP₉ _ _ q2₉, q3₉⟩, q4₉⟩
theorem c_toCopy {g : GP} {adr : Nat → Nat} (μ : Mem) {p q : Nat} {f : Nat → Nat} (hp₉ : kt p = 1) (hq₉ : kt q = 1) (hn₉ : p ≠ q) (hf₉ : PermR μ (q + 1) f) : CT g yX3_toCopy mX3_toCopy (RM 0 0 0) (WM g adr μ) [.ref (adr p), .ref (adr q)] (PM g adr (.inl none) (fun μ' => PermR μ' (p + 1) f ∧ Off μ' μ (p + 1))) :=
  (c_toCopyR μ hp₉ hq₉ hn₉).mono (PM.mono (fun μ' ⟨h1₉, h2₉⟩ => ⟨fun k hk₉ => ⟨(h1₉ k hk₉).trans (hf₉ k hk₉).1, (hf₉ k hk₉).2⟩, h2₉⟩))

set_option maxRecDepth 100000 in
set_option maxHeartbeats 4000000 in
theorem c_toTurn {g : GP} {adr : Nat → Nat} (μ : Mem) {p r b : Nat} (hp₉ : kt p = 1) (hr₉ : r < 4) (hb₉ : b < 8) : CT g yX3_toTurn mX3_toTurn (RM 0 0 0) (WM g adr μ) [.ref (adr p), .int (nI r), .int (nI b)] (PM g adr (.inl none) (fun μ' => PermR μ' (p + 1) (turnF r b) ∧ Off μ' μ (p + 1))) := by
  refine CT.of (l0 := [some (.ref (adr p)), some (.int (nI r)), some (.int (nI b)), none, none]) (by decide +kernel) rfl (Nat.le_of_ble_eq_true rfl) rfl ?_
  have hp1₉ := kt_p hp₉
  refine J.iconst dX3_toTurn_0 kI_0 ?_
  refine J.is3 dX3_toTurn_1 (by decide) rfl ?_
  have lp2_1 : ∀ (fu : Nat) (i : Nat) (μ1 : Mem), 32 < i + fu → i ≤ 32 → (∀ k, k < i → μ1 (p + 1) k = nI (turnF r b k)) → Off μ1 μ (p + 1) → J g mX3_toTurn (RM 0 0 0) (MQx g (RM 0 0 0) (PM g adr (.inl none) (fun μ' => PermR μ' (p + 1) (turnF r b) ∧ Off μ' μ (p + 1)))) 0 0 (WM g adr μ1) 2 [some (.ref (adr p)), some (.int (nI r)), some (.int (nI b)), some (.int (nI i)), none] [] := by
    intro fu
    induction fu with
    | zero => intro i μ1 h9₉ hi₉ hI₉ hO₉; exact absurd h9₉ (by omega)
    | succ fu ih2 =>
      intro i μ1 h9₉ hi₉ hI₉ hO₉
      refine J.il3 dX3_toTurn_2 ?_
      refine J.bipush dX3_toTurn_3 kb_32 ?_
      refine J.icmp_geN (tgt := 58) dX3_toTurn_5 (by decide) (by omega) (by omega) (fun c5₉ => ?_) (fun c5₉ => ?_)
      · refine J.vret rfl (by decide) (by decide) dX3_toTurn_58 ⟨_, rfl, ?_, ?_⟩
        · rfl
        · exact ⟨fun k hk₉ => ⟨hI₉ k (by omega), turnF_lt hr₉ hk₉⟩, hO₉⟩
      · refine J.il3 dX3_toTurn_8 ?_
        refine J.bipush dX3_toTurn_9 kb_8 ?_
        refine J.idiv dX3_toTurn_11 (by omega) (by omega) (by omega) ?_
        refine J.il1 dX3_toTurn_12 ?_
        refine J.icmp_neN (tgt := 20) dX3_toTurn_13 (by decide) (by omega) (by omega) (fun c13₉ => ?_) (fun c13₉ => ?_)
        · refine J.iconst dX3_toTurn_20 kI_0 ?_
          refine J.is4 dX3_toTurn_21 (by decide) rfl ?_
          refine J.al0 dX3_toTurn_23 ?_
          refine gf_X3_9 rfl (o2 := p + 1) hp₉ rfl dX3_toTurn_24 ?_
          refine J.il3 dX3_toTurn_27 ?_
          refine J.il4 dX3_toTurn_28 ?_
          refine J.if_eqN (tgt := 50) dX3_toTurn_30 (by decide) (by omega) (fun c30₉ => ?_) (fun c30₉ => absurd c30₉ (by first | omega | (simp only [not_true_eq_false, not_false_eq_true]; done) | (simp; done)))
          refine J.il3 dX3_toTurn_50 ?_
          refine J.iast (N := 32) hp1₉ (by decide) (by decide) (by omega) dX3_toTurn_51 ?_
          refine J.ii3 (z := 1) dX3_toTurn_52 (by decide) (by decide) rfl ?_
          refine J.goto (tgt := 2) dX3_toTurn_55 (by decide) ?_
          exact J.subR (ih2 (i + 1) _ (by omega) (by omega) (row_step hI₉ (by show _ = nI (turnF r b i); unfold turnF; first | rw [if_pos (by omega)] | rw [if_neg (by omega)])) (Off.wr hO₉)) ⟨rfl, ⟨rfl, ⟨rfl, ⟨rfl, trivial⟩⟩⟩⟩
        · refine J.iconst dX3_toTurn_16 kI_1 ?_
          refine J.goto (tgt := 21) dX3_toTurn_17 (by decide) ?_
          refine J.is4 dX3_toTurn_21 (by decide) rfl ?_
          refine J.al0 dX3_toTurn_23 ?_
          refine gf_X3_9 rfl (o2 := p + 1) hp₉ rfl dX3_toTurn_24 ?_
          refine J.il3 dX3_toTurn_27 ?_
          refine J.il4 dX3_toTurn_28 ?_
          refine J.if_eqN (tgt := 50) dX3_toTurn_30 (by decide) (by omega) (fun c30₉ => absurd c30₉ (by first | omega | (simp only [not_true_eq_false, not_false_eq_true]; done) | (simp; done))) (fun c30₉ => ?_)
          refine J.il1 dX3_toTurn_33 ?_
          refine J.bipush dX3_toTurn_34 kb_8 ?_
          refine J.imulN dX3_toTurn_36 ?_
          refine J.il3 dX3_toTurn_37 ?_
          refine J.bipush dX3_toTurn_38 kb_8 ?_
          refine J.irem dX3_toTurn_40 (by omega) (by omega) (by omega) ?_
          refine J.il2 dX3_toTurn_41 ?_
          refine J.iaddN dX3_toTurn_42 ?_
          refine J.bipush dX3_toTurn_43 kb_8 ?_
          refine J.irem dX3_toTurn_45 (by omega) (by omega) (by omega) ?_
          refine J.iaddN dX3_toTurn_46 ?_
          refine J.goto (tgt := 51) dX3_toTurn_47 (by decide) ?_
          refine J.iast (N := 32) hp1₉ (by decide) (by decide) (by omega) dX3_toTurn_51 ?_
          refine J.ii3 (z := 1) dX3_toTurn_52 (by decide) (by decide) rfl ?_
          refine J.goto (tgt := 2) dX3_toTurn_55 (by decide) ?_
          exact J.subR (ih2 (i + 1) _ (by omega) (by omega) (row_step hI₉ (by show _ = nI (turnF r b i); unfold turnF; first | rw [if_pos (by omega)] | rw [if_neg (by omega)])) (Off.wr hO₉)) ⟨rfl, ⟨rfl, ⟨rfl, ⟨rfl, trivial⟩⟩⟩⟩
  exact lp2_1 (33) 0 _ (by omega) (by omega) (fun k hk₉ => absurd hk₉ (by omega)) Off.rf

set_option maxRecDepth 100000 in
set_option maxHeartbeats 4000000 in
theorem c_toShift {g : GP} {adr : Nat → Nat} (μ : Mem) {p c b : Nat} (hp₉ : kt p = 1) (hr₉ : c < 8) (hb₉ : b < 4) : CT g yX3_toShift mX3_toShift (RM 0 0 0) (WM g adr μ) [.ref (adr p), .int (nI c), .int (nI b)] (PM g adr (.inl none) (fun μ' => PermR μ' (p + 1) (shiftF c b) ∧ Off μ' μ (p + 1))) := by
  refine CT.of (l0 := [some (.ref (adr p)), some (.int (nI c)), some (.int (nI b)), none, none]) (by decide +kernel) rfl (Nat.le_of_ble_eq_true rfl) rfl ?_
  have hp1₉ := kt_p hp₉
  refine J.iconst dX3_toShift_0 kI_0 ?_
  refine J.is3 dX3_toShift_1 (by decide) rfl ?_
  have lp2_1 : ∀ (fu : Nat) (i : Nat) (μ1 : Mem), 32 < i + fu → i ≤ 32 → (∀ k, k < i → μ1 (p + 1) k = nI (shiftF c b k)) → Off μ1 μ (p + 1) → J g mX3_toShift (RM 0 0 0) (MQx g (RM 0 0 0) (PM g adr (.inl none) (fun μ' => PermR μ' (p + 1) (shiftF c b) ∧ Off μ' μ (p + 1)))) 0 0 (WM g adr μ1) 2 [some (.ref (adr p)), some (.int (nI c)), some (.int (nI b)), some (.int (nI i)), none] [] := by
    intro fu
    induction fu with
    | zero => intro i μ1 h9₉ hi₉ hI₉ hO₉; exact absurd h9₉ (by omega)
    | succ fu ih2 =>
      intro i μ1 h9₉ hi₉ hI₉ hO₉
      refine J.il3 dX3_toShift_2 ?_
      refine J.bipush dX3_toShift_3 kb_32 ?_
      refine J.icmp_geN (tgt := 53) dX3_toShift_5 (by decide) (by omega) (by omega) (fun c5₉ => ?_) (fun c5₉ => ?_)
      · refine J.vret rfl (by decide) (by decide) dX3_toShift_53 ⟨_, rfl, ?_, ?_⟩
        · rfl
        · exact ⟨fun k hk₉ => ⟨hI₉ k (by omega), shiftF_lt hk₉⟩, hO₉⟩
      · refine J.il3 dX3_toShift_8 ?_
        refine J.bipush dX3_toShift_9 kb_8 ?_
        refine J.irem dX3_toShift_11 (by omega) (by omega) (by omega) ?_
        refine J.il1 dX3_toShift_12 ?_
        refine J.icmp_neN (tgt := 20) dX3_toShift_13 (by decide) (by omega) (by omega) (fun c13₉ => ?_) (fun c13₉ => ?_)
        · refine J.iconst dX3_toShift_20 kI_0 ?_
          refine J.is4 dX3_toShift_21 (by decide) rfl ?_
          refine J.al0 dX3_toShift_23 ?_
          refine gf_X3_9 rfl (o2 := p + 1) hp₉ rfl dX3_toShift_24 ?_
          refine J.il3 dX3_toShift_27 ?_
          refine J.il4 dX3_toShift_28 ?_
          refine J.if_eqN (tgt := 45) dX3_toShift_30 (by decide) (by omega) (fun c30₉ => ?_) (fun c30₉ => absurd c30₉ (by first | omega | (simp only [not_true_eq_false, not_false_eq_true]; done) | (simp; done)))
          refine J.il3 dX3_toShift_45 ?_
          refine J.iast (N := 32) hp1₉ (by decide) (by decide) (by omega) dX3_toShift_46 ?_
          refine J.ii3 (z := 1) dX3_toShift_47 (by decide) (by decide) rfl ?_
          refine J.goto (tgt := 2) dX3_toShift_50 (by decide) ?_
          exact J.subR (ih2 (i + 1) _ (by omega) (by omega) (row_step hI₉ (by show _ = nI (shiftF c b i); unfold shiftF; first | rw [if_pos (by omega)] | rw [if_neg (by omega)])) (Off.wr hO₉)) ⟨rfl, ⟨rfl, ⟨rfl, ⟨rfl, trivial⟩⟩⟩⟩
        · refine J.iconst dX3_toShift_16 kI_1 ?_
          refine J.goto (tgt := 21) dX3_toShift_17 (by decide) ?_
          refine J.is4 dX3_toShift_21 (by decide) rfl ?_
          refine J.al0 dX3_toShift_23 ?_
          refine gf_X3_9 rfl (o2 := p + 1) hp₉ rfl dX3_toShift_24 ?_
          refine J.il3 dX3_toShift_27 ?_
          refine J.il4 dX3_toShift_28 ?_
          refine J.if_eqN (tgt := 45) dX3_toShift_30 (by decide) (by omega) (fun c30₉ => absurd c30₉ (by first | omega | (simp only [not_true_eq_false, not_false_eq_true]; done) | (simp; done))) (fun c30₉ => ?_)
          refine J.il3 dX3_toShift_33 ?_
          refine J.il2 dX3_toShift_34 ?_
          refine J.bipush dX3_toShift_35 kb_8 ?_
          refine J.imulN dX3_toShift_37 ?_
          refine J.iaddN dX3_toShift_38 ?_
          refine J.bipush dX3_toShift_39 kb_32 ?_
          refine J.irem dX3_toShift_41 (by omega) (by omega) (by omega) ?_
          refine J.goto (tgt := 46) dX3_toShift_42 (by decide) ?_
          refine J.iast (N := 32) hp1₉ (by decide) (by decide) (by omega) dX3_toShift_46 ?_
          refine J.ii3 (z := 1) dX3_toShift_47 (by decide) (by decide) rfl ?_
          refine J.goto (tgt := 2) dX3_toShift_50 (by decide) ?_
          exact J.subR (ih2 (i + 1) _ (by omega) (by omega) (row_step hI₉ (by show _ = nI (shiftF c b i); unfold shiftF; first | rw [if_pos (by omega)] | rw [if_neg (by omega)])) (Off.wr hO₉)) ⟨rfl, ⟨rfl, ⟨rfl, ⟨rfl, trivial⟩⟩⟩⟩
  exact lp2_1 (33) 0 _ (by omega) (by omega) (fun k hk₉ => absurd hk₉ (by omega)) Off.rf

set_option maxRecDepth 100000 in
set_option maxHeartbeats 4000000 in
theorem c_toMove {g : GP} {adr : Nat → Nat} (μ : Mem) {p a r b : Nat} (hp₉ : kt p = 1) (hm₉ : (a = 0 ∧ r < 4 ∧ b < 8) ∨ (a = 1 ∧ r < 8 ∧ b < 4)) : CT g yX3_toMove mX3_toMove (RM 1 0 0) (WM g adr μ) [.ref (adr p), .int (nI a), .int (nI r), .int (nI b)] (PM g adr (.inl none) (fun μ' => PermR μ' (p + 1) (moveF a r b) ∧ Off μ' μ (p + 1))) := by
  refine CT.of (l0 := [some (.ref (adr p)), some (.int (nI a)), some (.int (nI r)), some (.int (nI b))]) (by decide +kernel) rfl (Nat.le_of_ble_eq_true rfl) rfl ?_
  have hp1₉ := kt_p hp₉
  refine J.il1 dX3_toMove_0 ?_
  refine J.if_neN (tgt := 13) dX3_toMove_1 (by decide) (by omega) (fun c1₉ => ?_) (fun c1₉ => ?_)
  · refine J.al0 dX3_toMove_13 ?_
    refine J.il2 dX3_toMove_14 ?_
    refine J.il3 dX3_toMove_15 ?_
    refine cl_X3_23 rfl hp₉ (k' := 0) (n' := 0) (c_toShift _ hp₉ (by omega) (by omega)) ⟨⟨by decide, by decide⟩, ⟨rfl, rfl⟩, by decide, by decide⟩ rfl dX3_toMove_16 (fun μ2 h2₉ => ?_)
    refine J.vret rfl (by decide) (by decide) dX3_toMove_19 ⟨_, rfl, ?_, ?_⟩
    · rfl
    · first | (rw [show moveF a r b = turnF r b from if_pos (by omega)]; exact h2₉) | (rw [show moveF a r b = shiftF r b from if_neg (by omega)]; exact h2₉)
  · refine J.al0 dX3_toMove_4 ?_
    refine J.il2 dX3_toMove_5 ?_
    refine J.il3 dX3_toMove_6 ?_
    refine cl_X3_19 rfl hp₉ (k' := 0) (n' := 0) (c_toTurn _ hp₉ (by omega) (by omega)) ⟨⟨by decide, by decide⟩, ⟨rfl, rfl⟩, by decide, by decide⟩ rfl dX3_toMove_7 (fun μ2 h2₉ => ?_)
    refine J.goto (tgt := 19) dX3_toMove_10 (by decide) ?_
    refine J.vret rfl (by decide) (by decide) dX3_toMove_19 ⟨_, rfl, ?_, ?_⟩
    · rfl
    · first | (rw [show moveF a r b = turnF r b from if_pos (by omega)]; exact h2₉) | (rw [show moveF a r b = shiftF r b from if_neg (by omega)]; exact h2₉)
