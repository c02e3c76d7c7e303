/-! ===== printed: the rows of permutations, method by method ===== -/
theorem t_maxcode : Cond.code yJ9_max_7cf53 cJ9_max_7cf53 2 (some .int) ∈ BIG := big_t 797 (by decide +kernel) (by decide +kernel)
set_option maxRecDepth 100000 in
set_option maxHeartbeats 4000000 in
theorem c_isIndex {g : GP} {adr : Nat → Nat} (μ : Mem) {a b : Nat} (ha : a < 2147483648) (hb : b < 2147483648) : CT g yX7_isIndex mX7_isIndex (RM 0 0 0) (WM g adr μ) [.int (nI a), .int (nI b)] (PM g adr ((.inl (some (.int (if a < b then nI 1 else nI 0))))) (fun μ' => μ' = μ)) := by
  refine CT.of (l0 := [some (.int (nI a)), some (.int (nI b))]) (by decide +kernel) rfl (Nat.le_of_ble_eq_true rfl) rfl ?_
  refine J.il0 dX7_isIndex_0 ?_
  refine J.if_ltN (tgt := 13) dX7_isIndex_1 (by decide) (by omega) (fun c1 => absurd c1 (by first | omega | (simp only [not_true_eq_false, not_false_eq_true]; done) | (simp; done))) (fun c1 => ?_)
  refine J.il0 dX7_isIndex_4 ?_
  refine J.il1 dX7_isIndex_5 ?_
  refine J.icmp_geN (tgt := 13) dX7_isIndex_6 (by decide) (by omega) (by omega) (fun c6 => ?_) (fun c6 => ?_)
  · refine J.iconst dX7_isIndex_13 kI_0 ?_
    refine J.zret (ty := .boolean) rfl (by decide) (by decide) (by decide) dX7_isIndex_14 ⟨_, rfl, ?_, ?_⟩
    · rw [if_neg (by omega)]
    · rfl
  · refine J.iconst dX7_isIndex_9 kI_1 ?_
    refine J.goto (tgt := 14) dX7_isIndex_10 (by decide) ?_
    refine J.zret (ty := .boolean) rfl (by decide) (by decide) (by decide) dX7_isIndex_14 ⟨_, rfl, ?_, ?_⟩
    · rw [if_neg (by omega)]
    · rfl

set_option maxRecDepth 100000 in
set_option maxHeartbeats 4000000 in
theorem c_isIndexI {g : GP} {adr : Nat → Nat} (μ : Mem) {x : Int32} {b : Nat} (hb : b < 2147483648) : CT g yX7_isIndex mX7_isIndex (RM 0 0 0) (WM g adr μ) [.int x, .int (nI b)] (PM g adr ((.inl (some (.int (if (0 ≤ x ∧ x < nI b) then nI 1 else nI 0))))) (fun μ' => μ' = μ)) := by
  refine CT.of (l0 := [some (.int x), some (.int (nI b))]) (by decide +kernel) rfl (Nat.le_of_ble_eq_true rfl) rfl ?_
  refine J.il0 dX7_isIndex_0 ?_
  refine J.if_lt (tgt := 13) dX7_isIndex_1 (by decide) (fun c1 => ?_) (fun c1 => ?_)
  · refine J.iconst dX7_isIndex_13 kI_0 ?_
    refine J.zret (ty := .boolean) rfl (by decide) (by decide) (by decide) dX7_isIndex_14 ⟨_, rfl, ?_, ?_⟩
    · first | rw [if_neg (fun q => absurd q.1 (Int32.not_le.mpr c1))] | rw [if_neg (fun q => absurd q.2 (Int32.not_lt.mpr c6))]
    · rfl
  · refine J.il0 dX7_isIndex_4 ?_
    refine J.il1 dX7_isIndex_5 ?_
    refine J.icmp_ge (tgt := 13) dX7_isIndex_6 (by decide) (fun c6 => ?_) (fun c6 => ?_)
    · refine J.iconst dX7_isIndex_13 kI_0 ?_
      refine J.zret (ty := .boolean) rfl (by decide) (by decide) (by decide) dX7_isIndex_14 ⟨_, rfl, ?_, ?_⟩
      · first | rw [if_neg (fun q => absurd q.1 (Int32.not_le.mpr c1))] | rw [if_neg (fun q => absurd q.2 (Int32.not_lt.mpr c6))]
      · rfl
    · refine J.iconst dX7_isIndex_9 kI_1 ?_
      refine J.goto (tgt := 14) dX7_isIndex_10 (by decide) ?_
      refine J.zret (ty := .boolean) rfl (by decide) (by decide) (by decide) dX7_isIndex_14 ⟨_, rfl, ?_, ?_⟩
      · rw [if_pos ⟨Int32.not_lt.mp c1, Int32.not_le.mp c6⟩]
      · rfl

theorem isIndexT {g : GP} {adr : Nat → Nat} {μ : Mem} {a b : Nat} (h : a < b) (hb : b < 2147483648) : CT g yX7_isIndex mX7_isIndex (RM 0 0 0) (WM g adr μ) [.int (nI a), .int (nI b)] (PM g adr (.inl (some (.int (nI 1)))) (fun μ' => μ' = μ)) := by
  have h9 := c_isIndex (g := g) (adr := adr) μ (a := a) (b := b) (by omega) hb
  rw [if_pos h] at h9
  exact h9
theorem isIndexF {g : GP} {adr : Nat → Nat} {μ : Mem} {a b : Nat} (h : b ≤ a) (ha : a < 2147483648) (hb : b < 2147483648) : CT g yX7_isIndex mX7_isIndex (RM 0 0 0) (WM g adr μ) [.int (nI a), .int (nI b)] (PM g adr (.inl (some (.int (nI 0)))) (fun μ' => μ' = μ)) := by
  have h9 := c_isIndex (g := g) (adr := adr) μ (a := a) (b := b) ha hb
  rw [if_neg (Nat.not_lt.mpr h)] at h9
  exact h9

set_option maxRecDepth 100000 in
set_option maxHeartbeats 4000000 in
theorem c_of {g : GP} {adr : Nat → Nat} (μ : Mem) {p i : Nat} {f : Nat → Nat} (hp : kt p = 1) (hf : PermR μ (p + 1) f) (hi : i < 32) : CT g yX3_of mX3_of (RM 1 0 0) (WM g adr μ) [.ref (adr p), .int (nI i)] (PM g adr ((.inl (some (.int nI (f i))))) (fun μ' => μ' = μ)) := by
  refine CT.of (l0 := [some (.ref (adr p)), some (.int (nI i))]) (by decide +kernel) rfl (Nat.le_of_ble_eq_true rfl) rfl ?_
  have hp1 := kt_p hp
  refine J.il1 dX3_of_0 ?_
  refine J.bipush dX3_of_1 kb_32 ?_
  refine cl_X3_15 rfl (k' := 0) (n' := 0) (isIndexT (by omega) (by omega)) ⟨⟨by decide, by decide⟩, ⟨rfl, rfl⟩, by decide, by decide⟩ rfl dX3_of_3 (fun μ9 h9 => ?_)
  subst h9
  refine J.if_eqN (tgt := 18) dX3_of_6 (by decide) (by omega) (fun c6 => absurd c6 (by first | omega | (simp only [not_true_eq_false, not_false_eq_true]; done) | (simp; done))) (fun c6 => ?_)
  refine J.al0 dX3_of_9 ?_
  refine gf_X3_9 rfl (o2 := p + 1) hp rfl dX3_of_10 ?_
  refine J.il1 dX3_of_13 ?_
  refine J.iald (N := 32) (x := nI (f i)) hp1 (by decide) (by decide) (by omega) ((hf i (by omega)).1) dX3_of_14 ?_
  refine J.goto (tgt := 19) dX3_of_15 (by decide) ?_
  refine J.iret rfl (by decide) (by decide) dX3_of_19 ⟨_, rfl, ?_, ?_⟩
  · rfl
  · rfl

set_option maxRecDepth 100000 in
set_option maxHeartbeats 4000000 in
theorem c_toNothing {g : GP} {adr : Nat → Nat} (μ : Mem) {p : Nat} (hp : kt p = 1) : CT g yX3_toNothing mX3_toNothing (RM 0 0 0) (WM g adr μ) [.ref (adr p)] (PM g adr (.inl none) (fun μ' => PermR μ' (p + 1) (fun k => k) ∧ Off μ' μ (p + 1))) := by
  refine CT.of (l0 := [some (.ref (adr p)), none]) (by decide +kernel) rfl (Nat.le_of_ble_eq_true rfl) rfl ?_
  have hp1 := kt_p hp
  refine J.iconst dX3_toNothing_0 kI_0 ?_
  refine J.is1 dX3_toNothing_1 (by decide) rfl ?_
  have lp2_1 : ∀ (n : Nat) (i : Nat) (μ1 : Mem), 32 < i + n → i ≤ 32 → (∀ k, k < i → μ1 (p + 1) k = nI k) → Off μ1 μ (p + 1) → J g mX3_toNothing (RM 0 0 0) (MQx g (RM 0 0 0) (PM g adr (.inl none) (fun μ' => PermR μ' (p + 1) (fun k => k) ∧ Off μ' μ (p + 1)))) 0 0 (WM g adr μ1) 2 [some (.ref (adr p)), some (.int (nI i))] [] := by
    intro n
    induction n with
    | zero => intro i μ1 h9 hi hI hO; exact absurd h9 (by omega)
    | succ n ih2 =>
      intro i μ1 h9 hi hI hO
      refine J.il1 dX3_toNothing_2 ?_
      refine J.bipush dX3_toNothing_3 kb_32 ?_
      refine J.icmp_geN (tgt := 21) dX3_toNothing_5 (by decide) (by omega) (by omega) (fun c5 => ?_) (fun c5 => ?_)
      · refine J.vret rfl (by decide) (by decide) dX3_toNothing_21 ⟨_, rfl, ?_, ?_⟩
        · rfl
        · exact ⟨fun k hk => ⟨hI k (by omega), hk⟩, hO⟩
      · refine J.al0 dX3_toNothing_8 ?_
        refine gf_X3_9 rfl (o2 := p + 1) hp rfl dX3_toNothing_9 ?_
        refine J.il1 dX3_toNothing_12 ?_
        refine J.il1 dX3_toNothing_13 ?_
        refine J.iast (N := 32) hp1 (by decide) (by decide) (by omega) dX3_toNothing_14 ?_
        refine J.ii1 (z := 1) dX3_toNothing_15 (by decide) (by decide) rfl ?_
        refine J.goto (tgt := 2) dX3_toNothing_18 (by decide) ?_
        exact ih2 (i + 1) _ (by omega) (by omega) (row_step hI rfl) (Off.wr hO)
  exact lp2_1 (33) 0 _ (by omega) (by omega) (fun k hk => absurd hk (by omega)) Off.rf

set_option maxRecDepth 100000 in
set_option maxHeartbeats 4000000 in
theorem c_toCopyR {g : GP} {adr : Nat → Nat} (μ : Mem) {p q : Nat} (hp : kt p = 1) (hq : kt q = 1) (hn : p ≠ q) : CT g yX3_toCopy mX3_toCopy (RM 0 0 0) (WM g adr μ) [.ref (adr p), .ref (adr q)] (PM g adr (.inl none) (fun μ' => (∀ k, k < 32 → μ' (p + 1) k = μ (q + 1) k) ∧ Off μ' μ (p + 1))) := by
  refine CT.of (l0 := [some (.ref (adr p)), some (.ref (adr q)), none]) (by decide +kernel) rfl (Nat.le_of_ble_eq_true rfl) rfl ?_
  have hp1 := kt_p hp
  have hq1 := kt_p hq
  refine J.iconst dX3_toCopy_0 kI_0 ?_
  refine J.is2 dX3_toCopy_1 (by decide) rfl ?_
  have lp2_1 : ∀ (n : Nat) (i : Nat) (μ1 : Mem), 32 < i + n → i ≤ 32 → (∀ k, k < i → μ1 (p + 1) k = μ (q + 1) k) → Off μ1 μ (p + 1) → J g mX3_toCopy (RM 0 0 0) (MQx g (RM 0 0 0) (PM g adr (.inl none) (fun μ' => (∀ k, k < 32 → μ' (p + 1) k = μ (q + 1) k) ∧ Off μ' μ (p + 1)))) 0 0 (WM g adr μ1) 2 [some (.ref (adr p)), some (.ref (adr q)), some (.int (nI i))] [] := by
    intro n
    induction n with
    | zero => intro i μ1 h9 hi hI hO; exact absurd h9 (by omega)
    | succ n ih2 =>
      intro i μ1 h9 hi hI hO
      refine J.il2 dX3_toCopy_2 ?_
      refine J.bipush dX3_toCopy_3 kb_32 ?_
      refine J.icmp_geN (tgt := 26) dX3_toCopy_5 (by decide) (by omega) (by omega) (fun c5 => ?_) (fun c5 => ?_)
      · refine J.vret rfl (by decide) (by decide) dX3_toCopy_26 ⟨_, rfl, ?_, ?_⟩
        · rfl
        · exact ⟨fun k hk => hI k (by omega), hO⟩
      · refine J.al0 dX3_toCopy_8 ?_
        refine gf_X3_9 rfl (o2 := p + 1) hp rfl dX3_toCopy_9 ?_
        refine J.il2 dX3_toCopy_12 ?_
        refine J.al1 dX3_toCopy_13 ?_
        refine gf_X3_9 rfl (o2 := q + 1) hq rfl dX3_toCopy_14 ?_
        refine J.il2 dX3_toCopy_17 ?_
        refine J.iald (N := 32) (x := μ (q + 1) i) hq1 (by decide) (by decide) (by omega) (by rw [hO (q + 1) (by omega)]) dX3_toCopy_18 ?_
        refine J.iast (N := 32) hp1 (by decide) (by decide) (by omega) dX3_toCopy_19 ?_
        refine J.ii2 (z := 1) dX3_toCopy_20 (by decide) (by decide) rfl ?_
        refine J.goto (tgt := 2) dX3_toCopy_23 (by decide) ?_
        exact ih2 (i + 1) _ (by omega) (by omega) (row_step hI rfl) (Off.wr hO)
  exact lp2_1 (33) 0 _ (by omega) (by omega) (fun k hk => absurd hk (by omega)) Off.rf

theorem PM.mono {g : GP} {adr : Nat → Nat} {r : Option Value ⊕ String} {φ ψ : Mem → Prop} (h : ∀ μ', φ μ' → ψ μ') : ∀ o w, PM g adr r φ o w → PM g adr r ψ o w := fun o w ⟨μ', h1, h2, h3⟩ => ⟨μ', h1, h2, h μ' h3⟩
theorem CT.mono {g : GP} {y : MethodName} {M : MI} {R : Room} {w : va_W} {av : List Value} {P Q : PT} (h : CT g y M R w av P) (hP : ∀ o w, P o w → Q o w) : CT g y M R w av Q := by
  intro ln hst p e ha hc hk s m args below hf happ hp ht
  obtain ⟨k, o, h1, h2, h3, hq⟩ := h ln hst p e ha hc hk s m args below hf happ hp ht
  refine ⟨k, o, h1, h2, h3, ?_⟩
  rcases hq with ⟨⟨v, w', q1, q2, q3⟩, q4⟩ | ⟨q, q1, E, ce, LL, ⟨w', q2, q3⟩, q4⟩
  · exact Or.inl ⟨⟨v, w', q1, hP _ _ q2, q3⟩, q4⟩
  · exact Or.inr ⟨q, q1, E, ce, LL, ⟨w', hP _ _ q2, q3⟩, q4⟩
theorem c_toCopy {g : GP} {adr : Nat → Nat} (μ : Mem) {p q : Nat} {f : Nat → Nat} (hp : kt p = 1) (hq : kt q = 1) (hn : p ≠ q) (hf : PermR μ (q + 1) f) : CT g yX3_toCopy mX3_toCopy (RM 0 0 0) (WM g adr μ) [.ref (adr p), .ref (adr q)] (PM g adr (.inl none) (fun μ' => PermR μ' (p + 1) f ∧ Off μ' μ (p + 1))) :=
  (c_toCopyR μ hp hq hn).mono (PM.mono (fun μ' ⟨h1, h2⟩ => ⟨fun k hk => ⟨(h1 k hk).trans (hf k hk).1, (hf k hk).2⟩, h2⟩))

set_option maxRecDepth 100000 in
set_option maxHeartbeats 4000000 in
theorem c_toTurn {g : GP} {adr : Nat → Nat} (μ : Mem) {p r b : Nat} (hp : kt p = 1) (hr : r < 4) (hb : b < 8) : CT g yX3_toTurn mX3_toTurn (RM 0 0 0) (WM g adr μ) [.ref (adr p), .int (nI r), .int (nI b)] (PM g adr (.inl none) (fun μ' => PermR μ' (p + 1) (turnF r b) ∧ Off μ' μ (p + 1))) := by
  refine CT.of (l0 := [some (.ref (adr p)), some (.int (nI r)), some (.int (nI b)), none, none]) (by decide +kernel) rfl (Nat.le_of_ble_eq_true rfl) rfl ?_
  have hp1 := kt_p hp
  refine J.iconst dX3_toTurn_0 kI_0 ?_
  refine J.is3 dX3_toTurn_1 (by decide) rfl ?_
  have lp2_1 : ∀ (n : Nat) (i : Nat) (μ1 : Mem), 32 < i + n → i ≤ 32 → (∀ k, k < i → μ1 (p + 1) k = nI (turnF r b k)) → Off μ1 μ (p + 1) → J g mX3_toTurn (RM 0 0 0) (MQx g (RM 0 0 0) (PM g adr (.inl none) (fun μ' => PermR μ' (p + 1) (turnF r b) ∧ Off μ' μ (p + 1)))) 0 0 (WM g adr μ1) 2 [some (.ref (adr p)), some (.int (nI r)), some (.int (nI b)), some (.int (nI i)), none] [] := by
    intro n
    induction n with
    | zero => intro i μ1 h9 hi hI hO; exact absurd h9 (by omega)
    | succ n ih2 =>
      intro i μ1 h9 hi hI hO
      refine J.il3 dX3_toTurn_2 ?_
      refine J.bipush dX3_toTurn_3 kb_32 ?_
      refine J.icmp_geN (tgt := 58) dX3_toTurn_5 (by decide) (by omega) (by omega) (fun c5 => ?_) (fun c5 => ?_)
      · refine J.vret rfl (by decide) (by decide) dX3_toTurn_58 ⟨_, rfl, ?_, ?_⟩
        · rfl
        · exact ⟨fun k hk => ⟨hI k (by omega), turnF_lt hr hk⟩, hO⟩
      · refine J.il3 dX3_toTurn_8 ?_
        refine J.bipush dX3_toTurn_9 kb_8 ?_
        refine J.idiv dX3_toTurn_11 (by omega) (by omega) (by omega) ?_
        refine J.il1 dX3_toTurn_12 ?_
        refine J.icmp_neN (tgt := 20) dX3_toTurn_13 (by decide) (by omega) (by omega) (fun c13 => ?_) (fun c13 => ?_)
        · refine J.iconst dX3_toTurn_20 kI_0 ?_
          refine J.is4 dX3_toTurn_21 (by decide) rfl ?_
          refine J.al0 dX3_toTurn_23 ?_
          refine gf_X3_9 rfl (o2 := p + 1) hp rfl dX3_toTurn_24 ?_
          refine J.il3 dX3_toTurn_27 ?_
          refine J.il4 dX3_toTurn_28 ?_
          refine J.if_eqN (tgt := 50) dX3_toTurn_30 (by decide) (by omega) (fun c30 => ?_) (fun c30 => absurd c30 (by first | omega | (simp only [not_true_eq_false, not_false_eq_true]; done) | (simp; done)))
          refine J.il3 dX3_toTurn_50 ?_
          refine J.iast (N := 32) hp1 (by decide) (by decide) (by omega) dX3_toTurn_51 ?_
          refine J.ii3 (z := 1) dX3_toTurn_52 (by decide) (by decide) rfl ?_
          refine J.goto (tgt := 2) dX3_toTurn_55 (by decide) ?_
          exact J.subL ⟨rfl, ⟨rfl, ⟨rfl, ⟨rfl, trivial⟩⟩⟩⟩ (ih2 (i + 1) _ (by omega) (by omega) (row_step hI (by show _ = nI (turnF r b i); unfold turnF; first | rw [if_pos (by omega)] | rw [if_neg (by omega)])) (Off.wr hO))
        · refine J.iconst dX3_toTurn_16 kI_1 ?_
          refine J.goto (tgt := 21) dX3_toTurn_17 (by decide) ?_
          refine J.is4 dX3_toTurn_21 (by decide) rfl ?_
          refine J.al0 dX3_toTurn_23 ?_
          refine gf_X3_9 rfl (o2 := p + 1) hp rfl dX3_toTurn_24 ?_
          refine J.il3 dX3_toTurn_27 ?_
          refine J.il4 dX3_toTurn_28 ?_
          refine J.if_eqN (tgt := 50) dX3_toTurn_30 (by decide) (by omega) (fun c30 => absurd c30 (by first | omega | (simp only [not_true_eq_false, not_false_eq_true]; done) | (simp; done))) (fun c30 => ?_)
          refine J.il1 dX3_toTurn_33 ?_
          refine J.bipush dX3_toTurn_34 kb_8 ?_
          refine J.imulN dX3_toTurn_36 ?_
          refine J.il3 dX3_toTurn_37 ?_
          refine J.bipush dX3_toTurn_38 kb_8 ?_
          refine J.irem dX3_toTurn_40 (by omega) (by omega) (by omega) ?_
          refine J.il2 dX3_toTurn_41 ?_
          refine J.iaddN dX3_toTurn_42 ?_
          refine J.bipush dX3_toTurn_43 kb_8 ?_
          refine J.irem dX3_toTurn_45 (by omega) (by omega) (by omega) ?_
          refine J.iaddN dX3_toTurn_46 ?_
          refine J.goto (tgt := 51) dX3_toTurn_47 (by decide) ?_
          refine J.iast (N := 32) hp1 (by decide) (by decide) (by omega) dX3_toTurn_51 ?_
          refine J.ii3 (z := 1) dX3_toTurn_52 (by decide) (by decide) rfl ?_
          refine J.goto (tgt := 2) dX3_toTurn_55 (by decide) ?_
          exact J.subL ⟨rfl, ⟨rfl, ⟨rfl, ⟨rfl, trivial⟩⟩⟩⟩ (ih2 (i + 1) _ (by omega) (by omega) (row_step hI (by show _ = nI (turnF r b i); unfold turnF; first | rw [if_pos (by omega)] | rw [if_neg (by omega)])) (Off.wr hO))
  exact lp2_1 (33) 0 _ (by omega) (by omega) (fun k hk => absurd hk (by omega)) Off.rf

set_option maxRecDepth 100000 in
set_option maxHeartbeats 4000000 in
theorem c_toShift {g : GP} {adr : Nat → Nat} (μ : Mem) {p c b : Nat} (hp : kt p = 1) (hr : c < 8) (hb : b < 4) : CT g yX3_toShift mX3_toShift (RM 0 0 0) (WM g adr μ) [.ref (adr p), .int (nI c), .int (nI b)] (PM g adr (.inl none) (fun μ' => PermR μ' (p + 1) (shiftF c b) ∧ Off μ' μ (p + 1))) := by
  refine CT.of (l0 := [some (.ref (adr p)), some (.int (nI c)), some (.int (nI b)), none, none]) (by decide +kernel) rfl (Nat.le_of_ble_eq_true rfl) rfl ?_
  have hp1 := kt_p hp
  refine J.iconst dX3_toShift_0 kI_0 ?_
  refine J.is3 dX3_toShift_1 (by decide) rfl ?_
  have lp2_1 : ∀ (n : Nat) (i : Nat) (μ1 : Mem), 32 < i + n → i ≤ 32 → (∀ k, k < i → μ1 (p + 1) k = nI (shiftF c b k)) → Off μ1 μ (p + 1) → J g mX3_toShift (RM 0 0 0) (MQx g (RM 0 0 0) (PM g adr (.inl none) (fun μ' => PermR μ' (p + 1) (shiftF c b) ∧ Off μ' μ (p + 1)))) 0 0 (WM g adr μ1) 2 [some (.ref (adr p)), some (.int (nI c)), some (.int (nI b)), some (.int (nI i)), none] [] := by
    intro n
    induction n with
    | zero => intro i μ1 h9 hi hI hO; exact absurd h9 (by omega)
    | succ n ih2 =>
      intro i μ1 h9 hi hI hO
      refine J.il3 dX3_toShift_2 ?_
      refine J.bipush dX3_toShift_3 kb_32 ?_
      refine J.icmp_geN (tgt := 53) dX3_toShift_5 (by decide) (by omega) (by omega) (fun c5 => ?_) (fun c5 => ?_)
      · refine J.vret rfl (by decide) (by decide) dX3_toShift_53 ⟨_, rfl, ?_, ?_⟩
        · rfl
        · exact ⟨fun k hk => ⟨hI k (by omega), shiftF_lt hk⟩, hO⟩
      · refine J.il3 dX3_toShift_8 ?_
        refine J.bipush dX3_toShift_9 kb_8 ?_
        refine J.irem dX3_toShift_11 (by omega) (by omega) (by omega) ?_
        refine J.il1 dX3_toShift_12 ?_
        refine J.icmp_neN (tgt := 20) dX3_toShift_13 (by decide) (by omega) (by omega) (fun c13 => ?_) (fun c13 => ?_)
        · refine J.iconst dX3_toShift_20 kI_0 ?_
          refine J.is4 dX3_toShift_21 (by decide) rfl ?_
          refine J.al0 dX3_toShift_23 ?_
          refine gf_X3_9 rfl (o2 := p + 1) hp rfl dX3_toShift_24 ?_
          refine J.il3 dX3_toShift_27 ?_
          refine J.il4 dX3_toShift_28 ?_
          refine J.if_eqN (tgt := 45) dX3_toShift_30 (by decide) (by omega) (fun c30 => ?_) (fun c30 => absurd c30 (by first | omega | (simp only [not_true_eq_false, not_false_eq_true]; done) | (simp; done)))
          refine J.il3 dX3_toShift_45 ?_
          refine J.iast (N := 32) hp1 (by decide) (by decide) (by omega) dX3_toShift_46 ?_
          refine J.ii3 (z := 1) dX3_toShift_47 (by decide) (by decide) rfl ?_
          refine J.goto (tgt := 2) dX3_toShift_50 (by decide) ?_
          exact J.subL ⟨rfl, ⟨rfl, ⟨rfl, ⟨rfl, trivial⟩⟩⟩⟩ (ih2 (i + 1) _ (by omega) (by omega) (row_step hI (by show _ = nI (shiftF c b i); unfold shiftF; first | rw [if_pos (by omega)] | rw [if_neg (by omega)])) (Off.wr hO))
        · refine J.iconst dX3_toShift_16 kI_1 ?_
          refine J.goto (tgt := 21) dX3_toShift_17 (by decide) ?_
          refine J.is4 dX3_toShift_21 (by decide) rfl ?_
          refine J.al0 dX3_toShift_23 ?_
          refine gf_X3_9 rfl (o2 := p + 1) hp rfl dX3_toShift_24 ?_
          refine J.il3 dX3_toShift_27 ?_
          refine J.il4 dX3_toShift_28 ?_
          refine J.if_eqN (tgt := 45) dX3_toShift_30 (by decide) (by omega) (fun c30 => absurd c30 (by first | omega | (simp only [not_true_eq_false, not_false_eq_true]; done) | (simp; done))) (fun c30 => ?_)
          refine J.il3 dX3_toShift_33 ?_
          refine J.il2 dX3_toShift_34 ?_
          refine J.bipush dX3_toShift_35 kb_8 ?_
          refine J.imulN dX3_toShift_37 ?_
          refine J.iaddN dX3_toShift_38 ?_
          refine J.bipush dX3_toShift_39 kb_32 ?_
          refine J.irem dX3_toShift_41 (by omega) (by omega) (by omega) ?_
          refine J.goto (tgt := 46) dX3_toShift_42 (by decide) ?_
          refine J.iast (N := 32) hp1 (by decide) (by decide) (by omega) dX3_toShift_46 ?_
          refine J.ii3 (z := 1) dX3_toShift_47 (by decide) (by decide) rfl ?_
          refine J.goto (tgt := 2) dX3_toShift_50 (by decide) ?_
          exact J.subL ⟨rfl, ⟨rfl, ⟨rfl, ⟨rfl, trivial⟩⟩⟩⟩ (ih2 (i + 1) _ (by omega) (by omega) (row_step hI (by show _ = nI (shiftF c b i); unfold shiftF; first | rw [if_pos (by omega)] | rw [if_neg (by omega)])) (Off.wr hO))
  exact lp2_1 (33) 0 _ (by omega) (by omega) (fun k hk => absurd hk (by omega)) Off.rf

set_option maxRecDepth 100000 in
set_option maxHeartbeats 4000000 in
theorem c_toMove {g : GP} {adr : Nat → Nat} (μ : Mem) {p a r b : Nat} (hp : kt p = 1) (hm : (a = 0 ∧ r < 4 ∧ b < 8) ∨ (a = 1 ∧ r < 8 ∧ b < 4)) : CT g yX3_toMove mX3_toMove (RM 1 0 0) (WM g adr μ) [.ref (adr p), .int (nI a), .int (nI r), .int (nI b)] (PM g adr (.inl none) (fun μ' => PermR μ' (p + 1) (moveF a r b) ∧ Off μ' μ (p + 1))) := by
  refine CT.of (l0 := [some (.ref (adr p)), some (.int (nI a)), some (.int (nI r)), some (.int (nI b))]) (by decide +kernel) rfl (Nat.le_of_ble_eq_true rfl) rfl ?_
  have hp1 := kt_p hp
  refine J.il1 dX3_toMove_0 ?_
  refine J.if_neN (tgt := 13) dX3_toMove_1 (by decide) (by omega) (fun c1 => ?_) (fun c1 => ?_)
  · refine J.al0 dX3_toMove_13 ?_
    refine J.il2 dX3_toMove_14 ?_
    refine J.il3 dX3_toMove_15 ?_
    refine cl_X3_23 rfl hp (k' := 0) (n' := 0) (c_toShift _ hp (by omega) (by omega)) ⟨⟨by decide, by decide⟩, ⟨rfl, rfl⟩, by decide, by decide⟩ rfl dX3_toMove_16 (fun μ2 h2 => ?_)
    refine J.vret rfl (by decide) (by decide) dX3_toMove_19 ⟨_, rfl, ?_, ?_⟩
    · rfl
    · first | (rw [show moveF a r b = turnF r b from if_pos (by omega)]; exact h2) | (rw [show moveF a r b = shiftF r b from if_neg (by omega)]; exact h2)
  · refine J.al0 dX3_toMove_4 ?_
    refine J.il2 dX3_toMove_5 ?_
    refine J.il3 dX3_toMove_6 ?_
    refine cl_X3_19 rfl hp (k' := 0) (n' := 0) (c_toTurn _ hp (by omega) (by omega)) ⟨⟨by decide, by decide⟩, ⟨rfl, rfl⟩, by decide, by decide⟩ rfl dX3_toMove_7 (fun μ2 h2 => ?_)
    refine J.goto (tgt := 19) dX3_toMove_10 (by decide) ?_
    refine J.vret rfl (by decide) (by decide) dX3_toMove_19 ⟨_, rfl, ?_, ?_⟩
    · rfl
    · first | (rw [show moveF a r b = turnF r b from if_pos (by omega)]; exact h2) | (rw [show moveF a r b = shiftF r b from if_neg (by omega)]; exact h2)

set_option maxRecDepth 100000 in
set_option maxHeartbeats 4000000 in
theorem c_toInverse {g : GP} {adr : Nat → Nat} (μ : Mem) {p q : Nat} {f : Nat → Nat} (hp : kt p = 1) (hq : kt q = 1) (hn : p ≠ q) (hf : PermR μ (q + 1) f) (hB : Bij f) : CT g yX3_toInverse mX3_toInverse (RM 0 0 0) (WM g adr μ) [.ref (adr p), .ref (adr q)] (PM g adr (.inl none) (fun μ' => PermR μ' (p + 1) (pinv f) ∧ Off μ' μ (p + 1))) := by
  refine CT.of (l0 := [some (.ref (adr p)), some (.ref (adr q)), none, none]) (by decide +kernel) rfl (Nat.le_of_ble_eq_true rfl) rfl ?_
  have hp1 := kt_p hp
  have hq1 := kt_p hq
  refine J.iconst dX3_toInverse_0 kI_0 ?_
  refine J.is2 dX3_toInverse_1 (by decide) rfl ?_
  have lp2_1 : ∀ (n : Nat) (i : Nat) (μ1 : Mem), 32 < i + n → i ≤ 32 → (∀ k, k < i → μ1 (p + 1) (f k) = nI k) → Off μ1 μ (p + 1) → J g mX3_toInverse (RM 0 0 0) (MQx g (RM 0 0 0) (PM g adr (.inl none) (fun μ' => PermR μ' (p + 1) (pinv f) ∧ Off μ' μ (p + 1)))) 0 0 (WM g adr μ1) 2 [some (.ref (adr p)), some (.ref (adr q)), some (.int (nI i)), none] [] := by
    intro n
    induction n with
    | zero => intro i μ1 h9 hi hI hO; exact absurd h9 (by omega)
    | succ n ih2 =>
      intro i μ1 h9 hi hI hO
      have hQ := hf.off hO (by omega)
      refine J.il2 dX3_toInverse_2 ?_
      refine J.bipush dX3_toInverse_3 kb_32 ?_
      refine J.icmp_geN (tgt := 38) dX3_toInverse_5 (by decide) (by omega) (by omega) (fun c5 => ?_) (fun c5 => ?_)
      · refine J.vret rfl (by decide) (by decide) dX3_toInverse_38 ⟨_, rfl, ?_, ?_⟩
        · rfl
        · exact ⟨fun k hk => ⟨by have h9 := hI (pinv f k) (by have := (hB.inv1 hk).1; omega); rw [(hB.inv1 hk).2] at h9; exact h9, (hB.inv1 hk).1⟩, hO⟩
      · refine J.al1 dX3_toInverse_8 ?_
        refine gf_X3_9 rfl (o2 := q + 1) hq rfl dX3_toInverse_9 ?_
        refine J.il2 dX3_toInverse_12 ?_
        have hb2 := (hf i (by omega)).2
        refine J.iald (N := 32) (x := nI (f i)) hq1 (by decide) (by decide) (by omega) ((hQ i (by omega)).1) dX3_toInverse_13 ?_
        refine J.is3 dX3_toInverse_14 (by decide) rfl ?_
        refine J.il3 dX3_toInverse_15 ?_
        refine J.if_ltN (tgt := 32) dX3_toInverse_16 (by decide) (by omega) (fun c16 => absurd c16 (by first | omega | (simp only [not_true_eq_false, not_false_eq_true]; done) | (simp; done))) (fun c16 => ?_)
        refine J.il3 dX3_toInverse_19 ?_
        refine J.bipush dX3_toInverse_20 kb_32 ?_
        refine J.icmp_geN (tgt := 32) dX3_toInverse_22 (by decide) (by omega) (by omega) (fun c22 => absurd c22 (by first | omega | (simp only [not_true_eq_false, not_false_eq_true]; done) | (simp; done))) (fun c22 => ?_)
        refine J.al0 dX3_toInverse_25 ?_
        refine gf_X3_9 rfl (o2 := p + 1) hp rfl dX3_toInverse_26 ?_
        refine J.il3 dX3_toInverse_29 ?_
        refine J.il2 dX3_toInverse_30 ?_
        refine J.iast (N := 32) hp1 (by decide) (by decide) (by omega) dX3_toInverse_31 ?_
        refine J.ii2 (z := 1) dX3_toInverse_32 (by decide) (by decide) rfl ?_
        refine J.goto (tgt := 2) dX3_toInverse_35 (by decide) ?_
        exact J.subL ⟨rfl, ⟨rfl, ⟨rfl, trivial⟩⟩⟩ (ih2 (i + 1) _ (by omega) (by omega) (inv_step hB (by omega) hI) (Off.wr hO))
  exact lp2_1 (33) 0 _ (by omega) (by omega) (fun k hk => absurd hk (by omega)) Off.rf

set_option maxRecDepth 100000 in
set_option maxHeartbeats 4000000 in
theorem c_then {g : GP} {adr : Nat → Nat} (μ : Mem) {p q : Nat} {f h : Nat → Nat} (hp : kt p = 1) (hq : kt q = 1) (hn : p ≠ q) (hf : PermR μ (p + 1) f) (hh : PermR μ (q + 1) h) : CT g yX3_then mX3_then (RM 0 0 0) (WM g adr μ) [.ref (adr p), .ref (adr q)] (PM g adr (.inl none) (fun μ' => PermR μ' (p + 1) (fun k => h (f k)) ∧ Off μ' μ (p + 1))) := by
  refine CT.of (l0 := [some (.ref (adr p)), some (.ref (adr q)), none, none]) (by decide +kernel) rfl (Nat.le_of_ble_eq_true rfl) rfl ?_
  have hp1 := kt_p hp
  have hq1 := kt_p hq
  refine J.iconst dX3_then_0 kI_0 ?_
  refine J.is2 dX3_then_1 (by decide) rfl ?_
  have lp2_1 : ∀ (n : Nat) (i : Nat) (μ1 : Mem), 32 < i + n → i ≤ 32 → (∀ k, k < i → μ1 (p + 1) k = nI (h (f k))) → (∀ k, i ≤ k → k < 32 → μ1 (p + 1) k = nI (f k)) → Off μ1 μ (p + 1) → J g mX3_then (RM 0 0 0) (MQx g (RM 0 0 0) (PM g adr (.inl none) (fun μ' => PermR μ' (p + 1) (fun k => h (f k)) ∧ Off μ' μ (p + 1)))) 0 0 (WM g adr μ1) 2 [some (.ref (adr p)), some (.ref (adr q)), some (.int (nI i)), none] [] := by
    intro n
    induction n with
    | zero => intro i μ1 h9 hi hI hU hO; exact absurd h9 (by omega)
    | succ n ih2 =>
      intro i μ1 h9 hi hI hU hO
      have hQ := hh.off hO (by omega)
      refine J.il2 dX3_then_2 ?_
      refine J.bipush dX3_then_3 kb_32 ?_
      refine J.icmp_geN (tgt := 43) dX3_then_5 (by decide) (by omega) (by omega) (fun c5 => ?_) (fun c5 => ?_)
      · refine J.vret rfl (by decide) (by decide) dX3_then_43 ⟨_, rfl, ?_, ?_⟩
        · rfl
        · exact ⟨fun k hk => ⟨hI k (by omega), (hh _ (hf k hk).2).2⟩, hO⟩
      · refine J.al0 dX3_then_8 ?_
        refine gf_X3_9 rfl (o2 := p + 1) hp rfl dX3_then_9 ?_
        refine J.il2 dX3_then_12 ?_
        have hb2 := (hf i (by omega)).2
        refine J.iald (N := 32) (x := nI (f i)) hp1 (by decide) (by decide) (by omega) ((hU i (by omega) (by omega))) dX3_then_13 ?_
        refine J.is3 dX3_then_14 (by decide) rfl ?_
        refine J.il3 dX3_then_15 ?_
        refine J.if_ltN (tgt := 37) dX3_then_16 (by decide) (by omega) (fun c16 => absurd c16 (by first | omega | (simp only [not_true_eq_false, not_false_eq_true]; done) | (simp; done))) (fun c16 => ?_)
        refine J.il3 dX3_then_19 ?_
        refine J.bipush dX3_then_20 kb_32 ?_
        refine J.icmp_geN (tgt := 37) dX3_then_22 (by decide) (by omega) (by omega) (fun c22 => absurd c22 (by first | omega | (simp only [not_true_eq_false, not_false_eq_true]; done) | (simp; done))) (fun c22 => ?_)
        refine J.al0 dX3_then_25 ?_
        refine gf_X3_9 rfl (o2 := p + 1) hp rfl dX3_then_26 ?_
        refine J.il2 dX3_then_29 ?_
        refine J.al1 dX3_then_30 ?_
        refine gf_X3_9 rfl (o2 := q + 1) hq rfl dX3_then_31 ?_
        refine J.il3 dX3_then_34 ?_
        refine J.iald (N := 32) (x := nI (h (f i))) hq1 (by decide) (by decide) (by omega) ((hQ (f i) (by omega)).1) dX3_then_35 ?_
        refine J.iast (N := 32) hp1 (by decide) (by decide) (by omega) dX3_then_36 ?_
        refine J.ii2 (z := 1) dX3_then_37 (by decide) (by decide) rfl ?_
        refine J.goto (tgt := 2) dX3_then_40 (by decide) ?_
        exact J.subL ⟨rfl, ⟨rfl, ⟨rfl, trivial⟩⟩⟩ (ih2 (i + 1) _ (by omega) (by omega) (row_step hI rfl) (row_keep hU) (Off.wr hO))
  exact lp2_1 (33) 0 _ (by omega) (by omega) (fun k hk => absurd hk (by omega)) (fun k _ hk => (hf k hk).1) Off.rf

set_option maxRecDepth 100000 in
set_option maxHeartbeats 4000000 in
theorem c_toPower {g : GP} {adr : Nat → Nat} (μ : Mem) {p q t : Nat} {f : Nat → Nat} (hp : kt p = 1) (hq : kt q = 1) (hn : p ≠ q) (hf : PermR μ (q + 1) f) (ht : t < 2147483648) : CT g yX3_toPower mX3_toPower (RM 1 0 0) (WM g adr μ) [.ref (adr p), .ref (adr q), .int (nI t)] (PM g adr (.inl none) (fun μ' => PermR μ' (p + 1) (iter f t) ∧ Off μ' μ (p + 1))) := by
  refine CT.of (l0 := [some (.ref (adr p)), some (.ref (adr q)), some (.int (nI t)), none]) (by decide +kernel) rfl (Nat.le_of_ble_eq_true rfl) rfl ?_
  have hp1 := kt_p hp
  have hq1 := kt_p hq
  refine J.al0 dX3_toPower_0 ?_
  refine cl_X3_26 rfl hp (k' := 0) (n' := 0) (c_toNothing _ hp) ⟨⟨by decide, by decide⟩, ⟨rfl, rfl⟩, by decide, by decide⟩ rfl dX3_toPower_1 (fun μ2 ⟨h2, hO2⟩ => ?_)
  refine J.iconst dX3_toPower_4 kI_0 ?_
  refine J.is3 dX3_toPower_5 (by decide) rfl ?_
  have lp6_1 : ∀ (n : Nat) (i : Nat) (μ1 : Mem), t < i + n → i ≤ t → PermR μ1 (p + 1) (iter f i) → Off μ1 μ (p + 1) → J g mX3_toPower (RM 1 0 0) (MQx g (RM 1 0 0) (PM g adr (.inl none) (fun μ' => PermR μ' (p + 1) (iter f t) ∧ Off μ' μ (p + 1)))) 0 0 (WM g adr μ1) 6 [some (.ref (adr p)), some (.ref (adr q)), some (.int (nI t)), some (.int (nI i))] [] := by
    intro n
    induction n with
    | zero => intro i μ1 h9 hi hI hO; exact absurd h9 (by omega)
    | succ n ih6 =>
      intro i μ1 h9 hi hI hO
      refine J.il3 dX3_toPower_6 ?_
      refine J.il2 dX3_toPower_7 ?_
      refine J.icmp_geN (tgt := 22) dX3_toPower_8 (by decide) (by omega) (by omega) (fun c8 => ?_) (fun c8 => ?_)
      · refine J.vret rfl (by decide) (by decide) dX3_toPower_22 ⟨_, rfl, ?_, ?_⟩
        · rfl
        · rw [show t = i by omega]; exact ⟨hI, hO⟩
      · refine J.al0 dX3_toPower_11 ?_
        refine J.al1 dX3_toPower_12 ?_
        refine cl_X3_29 rfl hp (k' := 0) (n' := 0) (c_then _ hp hq hn hI (hf.off hO (by omega))) ⟨⟨by decide, by decide⟩, ⟨rfl, rfl⟩, by decide, by decide⟩ rfl dX3_toPower_13 (fun μ3 ⟨h3, hO3⟩ => ?_)
        refine J.ii3 (z := 1) dX3_toPower_16 (by decide) (by decide) rfl ?_
        refine J.goto (tgt := 6) dX3_toPower_19 (by decide) ?_
        exact ih6 (i + 1) _ (by omega) (by omega) h3 (hO3.trans hO)
  exact lp6_1 (t + 1) 0 _ (by omega) (by omega) h2 hO2

set_option maxRecDepth 100000 in
set_option maxHeartbeats 4000000 in
theorem c_toCommuted {g : GP} {adr : Nat → Nat} (μ : Mem) {p a b v : Nat} {f h : Nat → Nat} (hp : kt p = 1) (ha : kt a = 1) (hb : kt b = 1) (hv : kt v = 1) (h1n : p ≠ a) (h2n : p ≠ b) (h3n : p ≠ v) (h4n : v ≠ a) (h5n : v ≠ b) (hf : PermR μ (a + 1) f) (hh : PermR μ (b + 1) h) (hBf : Bij f) (hBh : Bij h) : CT g yX3_toCommuted mX3_toCommuted (RM 1 0 0) (WM g adr μ) [.ref (adr p), .ref (adr a), .ref (adr b), .ref (adr v)] (PM g adr (.inl none) (fun μ' => PermR μ' (p + 1) (fun k => pinv h (pinv f (h (f k)))) ∧ ∀ q, q ≠ p + 1 → q ≠ v + 1 → μ' q = μ q)) := by
  refine CT.of (l0 := [some (.ref (adr p)), some (.ref (adr a)), some (.ref (adr b)), some (.ref (adr v))]) (by decide +kernel) rfl (Nat.le_of_ble_eq_true rfl) rfl ?_
  have hp1 := kt_p hp
  refine J.al0 dX3_toCommuted_0 ?_
  refine J.al1 dX3_toCommuted_1 ?_
  refine cl_X3_33 rfl hp (k' := 0) (n' := 0) (c_toCopy _ hp ha h1n hf) ⟨⟨by decide, by decide⟩, ⟨rfl, rfl⟩, by decide, by decide⟩ rfl dX3_toCommuted_2 (fun μ1 ⟨k1, o1⟩ => ?_)
  refine J.al0 dX3_toCommuted_5 ?_
  refine J.al2 dX3_toCommuted_6 ?_
  refine cl_X3_29 rfl hp (k' := 0) (n' := 0) (c_then _ hp hb h2n k1 (hh.off o1 (by omega))) ⟨⟨by decide, by decide⟩, ⟨rfl, rfl⟩, by decide, by decide⟩ rfl dX3_toCommuted_7 (fun μ2 ⟨k2, o2⟩ => ?_)
  refine J.al3 dX3_toCommuted_10 ?_
  refine J.al1 dX3_toCommuted_11 ?_
  refine cl_X3_36 rfl hv (k' := 0) (n' := 0) (c_toInverse _ hv ha h4n ((hf.off o1 (by omega)).off o2 (by omega)) hBf) ⟨⟨by decide, by decide⟩, ⟨rfl, rfl⟩, by decide, by decide⟩ rfl dX3_toCommuted_12 (fun μ3 ⟨k3, o3⟩ => ?_)
  refine J.al0 dX3_toCommuted_15 ?_
  refine J.al3 dX3_toCommuted_16 ?_
  refine cl_X3_29 rfl hp (k' := 0) (n' := 0) (c_then _ hp hv h3n (k2.off o3 (by omega)) k3) ⟨⟨by decide, by decide⟩, ⟨rfl, rfl⟩, by decide, by decide⟩ rfl dX3_toCommuted_17 (fun μ4 ⟨k4, o4⟩ => ?_)
  refine J.al3 dX3_toCommuted_20 ?_
  refine J.al2 dX3_toCommuted_21 ?_
  refine cl_X3_36 rfl hv (k' := 0) (n' := 0) (c_toInverse _ hv hb h5n ((((hh.off o1 (by omega)).off o2 (by omega)).off o3 (by omega)).off o4 (by omega)) hBh) ⟨⟨by decide, by decide⟩, ⟨rfl, rfl⟩, by decide, by decide⟩ rfl dX3_toCommuted_22 (fun μ5 ⟨k5, o5⟩ => ?_)
  refine J.al0 dX3_toCommuted_25 ?_
  refine J.al3 dX3_toCommuted_26 ?_
  refine cl_X3_29 rfl hp (k' := 0) (n' := 0) (c_then _ hp hv h3n (k4.off o5 (by omega)) k5) ⟨⟨by decide, by decide⟩, ⟨rfl, rfl⟩, by decide, by decide⟩ rfl dX3_toCommuted_27 (fun μ6 ⟨k6, o6⟩ => ?_)
  refine J.vret rfl (by decide) (by decide) dX3_toCommuted_30 ⟨_, rfl, ?_, ?_⟩
  · rfl
  · exact ⟨k6, fun q h1 h2 => (o6 q h1).trans ((o5 q h2).trans ((o4 q h1).trans ((o3 q h2).trans ((o2 q h1).trans (o1 q h1)))))⟩

set_option maxRecDepth 100000 in
set_option maxHeartbeats 4000000 in
theorem c_movesNothing {g : GP} {adr : Nat → Nat} (μ : Mem) {p : Nat} {f : Nat → Nat} (hp : kt p = 1) (hf : PermR μ (p + 1) f) : CT g yX3_movesNothing mX3_movesNothing (RM 0 0 0) (WM g adr μ) [.ref (adr p)] (PM g adr ((.inl (some (.int (if allU (fun k => decide (f k = k)) 32 = true then nI 1 else nI 0))))) (fun μ' => μ' = μ)) := by
  refine CT.of (l0 := [some (.ref (adr p)), none]) (by decide +kernel) rfl (Nat.le_of_ble_eq_true rfl) rfl ?_
  have hp1 := kt_p hp
  refine J.iconst dX3_movesNothing_0 kI_0 ?_
  refine J.is1 dX3_movesNothing_1 (by decide) rfl ?_
  have lp2_1 : ∀ (n : Nat) (i : Nat), 32 < i + n → i ≤ 32 → (∀ k, k < i → f k = k) → J g mX3_movesNothing (RM 0 0 0) (MQx g (RM 0 0 0) (PM g adr ((.inl (some (.int (if allU (fun k => decide (f k = k)) 32 = true then nI 1 else nI 0))))) (fun μ' => μ' = μ))) 0 0 (WM g adr μ) 2 [some (.ref (adr p)), some (.int (nI i))] [] := by
    intro n
    induction n with
    | zero => intro i h9 hi hI; exact absurd h9 (by omega)
    | succ n ih2 =>
      intro i h9 hi hI
      refine J.il1 dX3_movesNothing_2 ?_
      refine J.bipush dX3_movesNothing_3 kb_32 ?_
      refine J.icmp_geN (tgt := 26) dX3_movesNothing_5 (by decide) (by omega) (by omega) (fun c5 => ?_) (fun c5 => ?_)
      · refine J.iconst dX3_movesNothing_26 kI_1 ?_
        refine J.zret (ty := .boolean) rfl (by decide) (by decide) (by decide) dX3_movesNothing_27 ⟨_, rfl, ?_, ?_⟩
        · rw [if_pos (allU_iff.mpr (fun k hk => by simpa using hI k (by omega)))]
        · rfl
      · refine J.al0 dX3_movesNothing_8 ?_
        refine gf_X3_9 rfl (o2 := p + 1) hp rfl dX3_movesNothing_9 ?_
        refine J.il1 dX3_movesNothing_12 ?_
        have hb2 := (hf i (by omega)).2
        refine J.iald (N := 32) (x := nI (f i)) hp1 (by decide) (by decide) (by omega) ((hf i (by omega)).1) dX3_movesNothing_13 ?_
        refine J.il1 dX3_movesNothing_14 ?_
        refine J.icmp_eqN (tgt := 20) dX3_movesNothing_15 (by decide) (by omega) (by omega) (fun c15 => ?_) (fun c15 => ?_)
        · refine J.ii1 (z := 1) dX3_movesNothing_20 (by decide) (by decide) rfl ?_
          refine J.goto (tgt := 2) dX3_movesNothing_23 (by decide) ?_
          exact ih2 (i + 1) (by omega) (by omega) (lt_s hI c15)
        · refine J.iconst dX3_movesNothing_18 kI_0 ?_
          refine J.zret (ty := .boolean) rfl (by decide) (by decide) (by decide) dX3_movesNothing_19 ⟨_, rfl, ?_, ?_⟩
          · rw [if_neg (by rw [allU_no (k := i) (by omega) (by simpa using c15)]; decide)]
          · rfl
  exact lp2_1 (33) 0 (by omega) (by omega) (fun k hk => absurd hk (by omega))

set_option maxRecDepth 100000 in
set_option maxHeartbeats 4000000 in
theorem c_countMoved {g : GP} {adr : Nat → Nat} (μ : Mem) {p : Nat} {f : Nat → Nat} (hp : kt p = 1) (hf : PermR μ (p + 1) f) : CT g yX3_countMoved mX3_countMoved (RM 0 0 0) (WM g adr μ) [.ref (adr p)] (PM g adr ((.inl (some (.int nI (cnt (fun k => decide (f k ≠ k)) 32))))) (fun μ' => μ' = μ)) := by
  refine CT.of (l0 := [some (.ref (adr p)), none, none]) (by decide +kernel) rfl (Nat.le_of_ble_eq_true rfl) rfl ?_
  have hp1 := kt_p hp
  refine J.iconst dX3_countMoved_0 kI_0 ?_
  refine J.is1 dX3_countMoved_1 (by decide) rfl ?_
  refine J.iconst dX3_countMoved_2 kI_0 ?_
  refine J.is2 dX3_countMoved_3 (by decide) rfl ?_
  have lp4_1 : ∀ (n : Nat) (i c : Nat), 32 < i + n → i ≤ 32 → c = cnt (fun k => decide (f k ≠ k)) i → J g mX3_countMoved (RM 0 0 0) (MQx g (RM 0 0 0) (PM g adr ((.inl (some (.int nI (cnt (fun k => decide (f k ≠ k)) 32))))) (fun μ' => μ' = μ))) 0 0 (WM g adr μ) 4 [some (.ref (adr p)), some (.int (nI c)), some (.int (nI i))] [] := by
    intro n
    induction n with
    | zero => intro i c h9 hi hc; exact absurd h9 (by omega)
    | succ n ih4 =>
      intro i c h9 hi hc
      refine J.il2 dX3_countMoved_4 ?_
      refine J.bipush dX3_countMoved_5 kb_32 ?_
      refine J.icmp_geN (tgt := 29) dX3_countMoved_7 (by decide) (by omega) (by omega) (fun c7 => ?_) (fun c7 => ?_)
      · refine J.il1 dX3_countMoved_29 ?_
        refine J.iret rfl (by decide) (by decide) dX3_countMoved_30 ⟨_, rfl, ?_, ?_⟩
        · rw [show i = 32 by omega] at hc; rw [hc]
        · rfl
      · refine J.al0 dX3_countMoved_10 ?_
        refine gf_X3_9 rfl (o2 := p + 1) hp rfl dX3_countMoved_11 ?_
        refine J.il2 dX3_countMoved_14 ?_
        have hb2 := (hf i (by omega)).2
        refine J.iald (N := 32) (x := nI (f i)) hp1 (by decide) (by decide) (by omega) ((hf i (by omega)).1) dX3_countMoved_15 ?_
        refine J.il2 dX3_countMoved_16 ?_
        refine J.icmp_eqN (tgt := 23) dX3_countMoved_17 (by decide) (by omega) (by omega) (fun c17 => ?_) (fun c17 => ?_)
        · refine J.ii2 (z := 1) dX3_countMoved_23 (by decide) (by decide) rfl ?_
          refine J.goto (tgt := 4) dX3_countMoved_26 (by decide) ?_
          exact ih4 (i + 1) c (by omega) (by omega) (by rw [cnt_1, hc]; first | rw [if_pos (by simpa using c17)] | (rw [if_neg (by simpa using c17)]; rfl))
        · refine J.ii1 (z := 1) dX3_countMoved_20 (by decide) (by decide) rfl ?_
          refine J.ii2 (z := 1) dX3_countMoved_23 (by decide) (by decide) rfl ?_
          refine J.goto (tgt := 4) dX3_countMoved_26 (by decide) ?_
          exact ih4 (i + 1) (c + 1) (by omega) (by omega) (by rw [cnt_1, hc]; first | rw [if_pos (by simpa using c17)] | (rw [if_neg (by simpa using c17)]; rfl))
  exact lp4_1 (33) 0 0 (by omega) (by omega) rfl

set_option maxRecDepth 100000 in
set_option maxHeartbeats 4000000 in
theorem c_cycleLength {g : GP} {adr : Nat → Nat} (μ : Mem) {p i : Nat} {f : Nat → Nat} (hp : kt p = 1) (hf : PermR μ (p + 1) f) (hi : i < 32) : CT g yX3_cycleLength mX3_cycleLength (RM 2 0 0) (WM g adr μ) [.ref (adr p), .int (nI i)] (PM g adr ((.inl (some (.int nI (cyL f i))))) (fun μ' => μ' = μ)) := by
  refine CT.of (l0 := [some (.ref (adr p)), some (.int (nI i)), none, none]) (by decide +kernel) rfl (Nat.le_of_ble_eq_true rfl) rfl ?_
  have hp1 := kt_p hp
  have hlt : ∀ k, k < 32 → f k < 32 := fun k hk => (hf k hk).2
  refine J.iconst dX3_cycleLength_0 kI_1 ?_
  refine J.is2 dX3_cycleLength_1 (by decide) rfl ?_
  refine J.al0 dX3_cycleLength_2 ?_
  refine J.il1 dX3_cycleLength_3 ?_
  refine cl_X3_39 rfl hp (k' := 0) (n' := 0) (c_of _ hp hf (by omega)) ⟨⟨by decide, by decide⟩, ⟨rfl, rfl⟩, by decide, by decide⟩ rfl dX3_cycleLength_4 (fun μ9 h9 => ?_)
  subst h9
  have hb1 := (hf i (by omega)).2
  refine J.is3 dX3_cycleLength_7 (by decide) rfl ?_
  have lp8_2 : ∀ (n : Nat) (m r : Nat), 32 < m + n → 1 ≤ m → m ≤ 32 → r = iter f m i → (∀ z, 1 ≤ z → z < m → iter f z i ≠ i) → J g mX3_cycleLength (RM 2 0 0) (MQx g (RM 2 0 0) (PM g adr ((.inl (some (.int nI (cyL f i))))) (fun μ' => μ' = μ))) 0 0 (WM g adr μ) 8 [some (.ref (adr p)), some (.int (nI i)), some (.int (nI m)), some (.int (nI r))] [] := by
    intro n
    induction n with
    | zero => intro m r h9 h1 h2 hr hI; exact absurd h9 (by omega)
    | succ n ih8 =>
      intro m r h9 h1 h2 hr hI
      have hr9 : r < 32 := by rw [hr]; exact iter_lt hlt m hi
      refine J.il3 dX3_cycleLength_8 ?_
      refine J.il1 dX3_cycleLength_9 ?_
      refine J.icmp_eqN (tgt := 31) dX3_cycleLength_10 (by decide) (by omega) (by omega) (fun c10 => ?_) (fun c10 => ?_)
      · refine J.il2 dX3_cycleLength_31 ?_
        refine J.iret rfl (by decide) (by decide) dX3_cycleLength_32 ⟨_, rfl, ?_, ?_⟩
        · rw [cyL_eq h1 h2 hI (by first | exact Or.inl (by rw [← hr]; exact c10) | exact Or.inr (by omega))]
        · rfl
      · refine J.il2 dX3_cycleLength_13 ?_
        refine J.bipush dX3_cycleLength_14 kb_32 ?_
        refine J.icmp_geN (tgt := 31) dX3_cycleLength_16 (by decide) (by omega) (by omega) (fun c16 => ?_) (fun c16 => ?_)
        · refine J.il2 dX3_cycleLength_31 ?_
          refine J.iret rfl (by decide) (by decide) dX3_cycleLength_32 ⟨_, rfl, ?_, ?_⟩
          · rw [cyL_eq h1 h2 hI (by first | exact Or.inl (by rw [← hr]; exact c10) | exact Or.inr (by omega))]
          · rfl
        · refine J.al0 dX3_cycleLength_19 ?_
          refine J.il3 dX3_cycleLength_20 ?_
          refine cl_X3_39 rfl hp (k' := 0) (n' := 0) (c_of _ hp hf (by omega)) ⟨⟨by decide, by decide⟩, ⟨rfl, rfl⟩, by decide, by decide⟩ rfl dX3_cycleLength_21 (fun μ9 h9 => ?_)
          subst h9
          have hb3 := (hf r (by omega)).2
          refine J.is3 dX3_cycleLength_24 (by decide) rfl ?_
          refine J.ii2 (z := 1) dX3_cycleLength_25 (by decide) (by decide) rfl ?_
          refine J.goto (tgt := 8) dX3_cycleLength_28 (by decide) ?_
          exact ih8 (m + 1) (f r) (by omega) (by omega) (by omega) (by rw [hr]; rfl) (fun z q1 q2 => by by_cases e : z = m
; · rw [e, ← hr]; exact c10
; · exact hI z q1 (by omega))
  exact lp8_2 (33) 1 (f i) (by omega) (by omega) (by omega) rfl (fun z h1 h2 => absurd h2 (by omega))

set_option maxRecDepth 100000 in
set_option maxHeartbeats 4000000 in
theorem c_isLowestOfCycle {g : GP} {adr : Nat → Nat} (μ : Mem) {p i : Nat} {f : Nat → Nat} (hp : kt p = 1) (hf : PermR μ (p + 1) f) (hi : i < 32) : CT g yX3_isLowestOfCycle mX3_isLowestOfCycle (RM 2 0 0) (WM g adr μ) [.ref (adr p), .int (nI i)] (PM g adr ((.inl (some (.int (if lowB f i = true then nI 1 else nI 0))))) (fun μ' => μ' = μ)) := by
  refine CT.of (l0 := [some (.ref (adr p)), some (.int (nI i)), none, none]) (by decide +kernel) rfl (Nat.le_of_ble_eq_true rfl) rfl ?_
  have hp1 := kt_p hp
  have hlt : ∀ k, k < 32 → f k < 32 := fun k hk => (hf k hk).2
  refine J.al0 dX3_isLowestOfCycle_0 ?_
  refine J.il1 dX3_isLowestOfCycle_1 ?_
  refine cl_X3_39 rfl hp (k' := 0) (n' := 0) (c_of _ hp hf (by omega)) ⟨⟨by decide, by decide⟩, ⟨rfl, rfl⟩, by decide, by decide⟩ rfl dX3_isLowestOfCycle_2 (fun μ9 h9 => ?_)
  subst h9
  have hb1 := (hf i (by omega)).2
  refine J.is2 dX3_isLowestOfCycle_5 (by decide) rfl ?_
  refine J.iconst dX3_isLowestOfCycle_6 kI_0 ?_
  refine J.is3 dX3_isLowestOfCycle_7 (by decide) rfl ?_
  have lp8_2 : ∀ (n : Nat) (m r : Nat), 32 < m + n → m ≤ 32 → r = iter f (m + 1) i → (∀ z, z ≤ m → i ≤ iter f z i) → J g mX3_isLowestOfCycle (RM 2 0 0) (MQx g (RM 2 0 0) (PM g adr ((.inl (some (.int (if lowB f i = true then nI 1 else nI 0))))) (fun μ' => μ' = μ))) 0 0 (WM g adr μ) 8 [some (.ref (adr p)), some (.int (nI i)), some (.int (nI r)), some (.int (nI m))] [] := by
    intro n
    induction n with
    | zero => intro m r h9 h2 hr hI; exact absurd h9 (by omega)
    | succ n ih8 =>
      intro m r h9 h2 hr hI
      have hr9 : r < 32 := by rw [hr]; exact iter_lt hlt (m + 1) hi
      refine J.il3 dX3_isLowestOfCycle_8 ?_
      refine J.bipush dX3_isLowestOfCycle_9 kb_32 ?_
      refine J.icmp_geN (tgt := 38) dX3_isLowestOfCycle_11 (by decide) (by omega) (by omega) (fun c11 => ?_) (fun c11 => ?_)
      · refine J.iconst dX3_isLowestOfCycle_38 kI_1 ?_
        refine J.zret (ty := .boolean) rfl (by decide) (by decide) (by decide) dX3_isLowestOfCycle_39 ⟨_, rfl, ?_, ?_⟩
        · rw [if_pos (low_yes hI (by first | exact Or.inl (by rw [← hr]; exact c16) | exact Or.inr (by omega)))]
        · rfl
      · refine J.il2 dX3_isLowestOfCycle_14 ?_
        refine J.il1 dX3_isLowestOfCycle_15 ?_
        refine J.icmp_eqN (tgt := 38) dX3_isLowestOfCycle_16 (by decide) (by omega) (by omega) (fun c16 => ?_) (fun c16 => ?_)
        · refine J.iconst dX3_isLowestOfCycle_38 kI_1 ?_
          refine J.zret (ty := .boolean) rfl (by decide) (by decide) (by decide) dX3_isLowestOfCycle_39 ⟨_, rfl, ?_, ?_⟩
          · rw [if_pos (low_yes hI (by first | exact Or.inl (by rw [← hr]; exact c16) | exact Or.inr (by omega)))]
          · rfl
        · refine J.il2 dX3_isLowestOfCycle_19 ?_
          refine J.il1 dX3_isLowestOfCycle_20 ?_
          refine J.icmp_geN (tgt := 26) dX3_isLowestOfCycle_21 (by decide) (by omega) (by omega) (fun c21 => ?_) (fun c21 => ?_)
          · refine J.al0 dX3_isLowestOfCycle_26 ?_
            refine J.il2 dX3_isLowestOfCycle_27 ?_
            refine cl_X3_39 rfl hp (k' := 0) (n' := 0) (c_of _ hp hf (by omega)) ⟨⟨by decide, by decide⟩, ⟨rfl, rfl⟩, by decide, by decide⟩ rfl dX3_isLowestOfCycle_28 (fun μ9 h9 => ?_)
            subst h9
            have hb3 := (hf r (by omega)).2
            refine J.is2 dX3_isLowestOfCycle_31 (by decide) rfl ?_
            refine J.ii3 (z := 1) dX3_isLowestOfCycle_32 (by decide) (by decide) rfl ?_
            refine J.goto (tgt := 8) dX3_isLowestOfCycle_35 (by decide) ?_
            exact ih8 (m + 1) (f r) (by omega) (by omega) (by rw [hr]; rfl) (fun z q1 => by by_cases e : z = m + 1
; · rw [e, ← hr]; omega
; · exact hI z (by omega))
          · refine J.iconst dX3_isLowestOfCycle_24 kI_0 ?_
            refine J.zret (ty := .boolean) rfl (by decide) (by decide) (by decide) dX3_isLowestOfCycle_25 ⟨_, rfl, ?_, ?_⟩
            · rw [if_neg (by rw [low_no (m := m + 1) (by omega) (by rw [← hr]; omega)]; decide)]
            · rfl
  exact lp8_2 (33) 0 (f i) (by omega) (by omega) rfl (fun z h1 => by rw [show z = 0 by omega]; exact Nat.le_refl i)

set_option maxRecDepth 100000 in
set_option maxHeartbeats 4000000 in
theorem c_countCycles {g : GP} {adr : Nat → Nat} (μ : Mem) {p a : Nat} {f : Nat → Nat} (hp : kt p = 1) (hf : PermR μ (p + 1) f) (ha : a < 2147483648) : CT g yX3_countCycles mX3_countCycles (RM 3 0 0) (WM g adr μ) [.ref (adr p), .int (nI a)] (PM g adr ((.inl (some (.int nI (cnt (fun s => lowB f s && decide (a ≤ cyL f s)) 32))))) (fun μ' => μ' = μ)) := by
  refine CT.of (l0 := [some (.ref (adr p)), some (.int (nI a)), none, none]) (by decide +kernel) rfl (Nat.le_of_ble_eq_true rfl) rfl ?_
  have hp1 := kt_p hp
  refine J.iconst dX3_countCycles_0 kI_0 ?_
  refine J.is2 dX3_countCycles_1 (by decide) rfl ?_
  refine J.iconst dX3_countCycles_2 kI_0 ?_
  refine J.is3 dX3_countCycles_3 (by decide) rfl ?_
  have lp4_1 : ∀ (n : Nat) (i c : Nat), 32 < i + n → i ≤ 32 → c = cnt (fun s => lowB f s && decide (a ≤ cyL f s)) i → J g mX3_countCycles (RM 3 0 0) (MQx g (RM 3 0 0) (PM g adr ((.inl (some (.int nI (cnt (fun s => lowB f s && decide (a ≤ cyL f s)) 32))))) (fun μ' => μ' = μ))) 0 0 (WM g adr μ) 4 [some (.ref (adr p)), some (.int (nI a)), some (.int (nI c)), some (.int (nI i))] [] := by
    intro n
    induction n with
    | zero => intro i c h9 hi hc; exact absurd h9 (by omega)
    | succ n ih4 =>
      intro i c h9 hi hc
      refine J.il3 dX3_countCycles_4 ?_
      refine J.bipush dX3_countCycles_5 kb_32 ?_
      refine J.icmp_geN (tgt := 36) dX3_countCycles_7 (by decide) (by omega) (by omega) (fun c7 => ?_) (fun c7 => ?_)
      · refine J.il2 dX3_countCycles_36 ?_
        refine J.iret rfl (by decide) (by decide) dX3_countCycles_37 ⟨_, rfl, ?_, ?_⟩
        · rw [show i = 32 by omega] at hc; rw [hc]
        · rfl
      · refine J.al0 dX3_countCycles_10 ?_
        refine J.il3 dX3_countCycles_11 ?_
        refine cl_X3_43 rfl hp (k' := 0) (n' := 0) (c_isLowestOfCycle _ hp hf (by omega)) ⟨⟨by decide, by decide⟩, ⟨rfl, rfl⟩, by decide, by decide⟩ rfl dX3_countCycles_12 (fun μ9 h9 => ?_)
        subst h9
        refine J.if_eqB (tgt := 30) dX3_countCycles_15 (by decide) (fun c15 => ?_) (fun c15 => ?_)
        · refine J.ii3 (z := 1) dX3_countCycles_30 (by decide) (by decide) rfl ?_
          refine J.goto (tgt := 4) dX3_countCycles_33 (by decide) ?_
          exact ih4 (i + 1) c (by omega) (by omega) (by rw [cnt_1, hc]; first | rw [if_pos (by rw [c15, decide_eq_true (by omega)]; rfl)] | (rw [if_neg (by rw [decide_eq_false (by omega)]; simp)]; rfl) | (rw [if_neg (by simp [c15])]; rfl))
        · refine J.al0 dX3_countCycles_18 ?_
          refine J.il3 dX3_countCycles_19 ?_
          have hcy20 := cyL_le f i
          refine cl_X3_47 rfl hp (k' := 0) (n' := 0) (c_cycleLength _ hp hf (by omega)) ⟨⟨by decide, by decide⟩, ⟨rfl, rfl⟩, by decide, by decide⟩ rfl dX3_countCycles_20 (fun μ9 h9 => ?_)
          subst h9
          refine J.il1 dX3_countCycles_23 ?_
          refine J.icmp_ltN (tgt := 30) dX3_countCycles_24 (by decide) (by omega) (by omega) (fun c24 => ?_) (fun c24 => ?_)
          · refine J.ii3 (z := 1) dX3_countCycles_30 (by decide) (by decide) rfl ?_
            refine J.goto (tgt := 4) dX3_countCycles_33 (by decide) ?_
            exact ih4 (i + 1) c (by omega) (by omega) (by rw [cnt_1, hc]; first | rw [if_pos (by rw [c15, decide_eq_true (by omega)]; rfl)] | (rw [if_neg (by rw [decide_eq_false (by omega)]; simp)]; rfl) | (rw [if_neg (by simp [c15])]; rfl))
          · refine J.ii2 (z := 1) dX3_countCycles_27 (by decide) (by decide) rfl ?_
            refine J.ii3 (z := 1) dX3_countCycles_30 (by decide) (by decide) rfl ?_
            refine J.goto (tgt := 4) dX3_countCycles_33 (by decide) ?_
            exact ih4 (i + 1) (c + 1) (by omega) (by omega) (by rw [cnt_1, hc]; first | rw [if_pos (by rw [c15, decide_eq_true (by omega)]; rfl)] | (rw [if_neg (by rw [decide_eq_false (by omega)]; simp)]; rfl) | (rw [if_neg (by simp [c15])]; rfl))
  exact lp4_1 (33) 0 0 (by omega) (by omega) rfl

set_option maxRecDepth 100000 in
set_option maxHeartbeats 4000000 in
theorem c_longestCycle {g : GP} {adr : Nat → Nat} (μ : Mem) {p : Nat} {f : Nat → Nat} (hp : kt p = 1) (hf : PermR μ (p + 1) f) : CT g yX3_longestCycle mX3_longestCycle (RM 3 0 0) (WM g adr μ) [.ref (adr p)] (PM g adr ((.inl (some (.int nI (mxU (cyL f) 32))))) (fun μ' => μ' = μ)) := by
  refine CT.of (l0 := [some (.ref (adr p)), none, none]) (by decide +kernel) rfl (Nat.le_of_ble_eq_true rfl) rfl ?_
  have hp1 := kt_p hp
  refine J.iconst dX3_longestCycle_0 kI_1 ?_
  refine J.is1 dX3_longestCycle_1 (by decide) rfl ?_
  refine J.iconst dX3_longestCycle_2 kI_0 ?_
  refine J.is2 dX3_longestCycle_3 (by decide) rfl ?_
  have lp4_1 : ∀ (n : Nat) (i c : Nat), 32 < i + n → i ≤ 32 → c = mxU (cyL f) i → c ≤ 32 → J g mX3_longestCycle (RM 3 0 0) (MQx g (RM 3 0 0) (PM g adr ((.inl (some (.int nI (mxU (cyL f) 32))))) (fun μ' => μ' = μ))) 0 0 (WM g adr μ) 4 [some (.ref (adr p)), some (.int (nI c)), some (.int (nI i))] [] := by
    intro n
    induction n with
    | zero => intro i c h9 hi hc hc2; exact absurd h9 (by omega)
    | succ n ih4 =>
      intro i c h9 hi hc hc2
      refine J.il2 dX3_longestCycle_4 ?_
      refine J.bipush dX3_longestCycle_5 kb_32 ?_
      refine J.icmp_geN (tgt := 26) dX3_longestCycle_7 (by decide) (by omega) (by omega) (fun c7 => ?_) (fun c7 => ?_)
      · refine J.il1 dX3_longestCycle_26 ?_
        refine J.iret rfl (by decide) (by decide) dX3_longestCycle_27 ⟨_, rfl, ?_, ?_⟩
        · rw [show i = 32 by omega] at hc; rw [hc]
        · rfl
      · refine J.il1 dX3_longestCycle_10 ?_
        refine J.al0 dX3_longestCycle_11 ?_
        refine J.il2 dX3_longestCycle_12 ?_
        have hcy13 := cyL_le f i
        refine cl_X3_47 rfl hp (k' := 0) (n' := 0) (c_cycleLength _ hp hf (by omega)) ⟨⟨by decide, by decide⟩, ⟨rfl, rfl⟩, by decide, by decide⟩ rfl dX3_longestCycle_13 (fun μ9 h9 => ?_)
        subst h9
        refine J.maxN t_795 t_796 t_18 t_maxcode (by omega) (by omega) (by decide) (Nat.le_of_ble_eq_true rfl) (by decide) (by decide) dX3_longestCycle_16 ?_
        refine J.is1 dX3_longestCycle_19 (by decide) rfl ?_
        refine J.ii2 (z := 1) dX3_longestCycle_20 (by decide) (by decide) rfl ?_
        refine J.goto (tgt := 4) dX3_longestCycle_23 (by decide) ?_
        exact ih4 (i + 1) (max c (cyL f i)) (by omega) (by omega) (by rw [hc]; rfl) (by omega)
  exact lp4_1 (33) 0 1 (by omega) (by omega) rfl (by omega)

set_option maxRecDepth 100000 in
set_option maxHeartbeats 4000000 in
theorem c_lcm {g : GP} {adr : Nat → Nat} (μ : Mem) {a b : Nat} (ha : 0 < a) (ha2 : a < 2147483648) (hb : 0 < b) (hb2 : b ≤ 32) : CT g yX3_leastCommonMultiple mX3_leastCommonMultiple (RM 0 0 0) (WM g adr μ) [.int (nI a), .int (nI b)] (PM g adr ((.inl (some (.int nI (Nat.lcm a b))))) (fun μ' => μ' = μ)) := by
  refine CT.of (l0 := [some (.int (nI a)), some (.int (nI b)), none, none, none, none]) (by decide +kernel) rfl (Nat.le_of_ble_eq_true rfl) rfl ?_
  refine J.il0 dX3_leastCommonMultiple_0 ?_
  refine J.is2 dX3_leastCommonMultiple_1 (by decide) rfl ?_
  refine J.il1 dX3_leastCommonMultiple_2 ?_
  refine J.is3 dX3_leastCommonMultiple_3 (by decide) rfl ?_
  refine J.iconst dX3_leastCommonMultiple_4 kI_0 ?_
  refine J.is4 dX3_leastCommonMultiple_5 (by decide) rfl ?_
  have lp7_1 : ∀ (n : Nat) (m x y : Nat), 32 < m + n → m ≤ 32 → 0 < x → x < 2147483648 → y ≤ 32 - m → Nat.gcd x y = Nat.gcd a b → J g mX3_leastCommonMultiple (RM 0 0 0) (MQx g (RM 0 0 0) (PM g adr ((.inl (some (.int nI (Nat.lcm a b))))) (fun μ' => μ' = μ))) 0 0 (WM g adr μ) 7 [some (.int (nI a)), some (.int (nI b)), some (.int (nI x)), some (.int (nI y)), some (.int (nI m)), none] [] := by
    intro n
    induction n with
    | zero => intro m x y h9 h1 hx hx2 hy hg; exact absurd h9 (by omega)
    | succ n ih7 =>
      intro m x y h9 h1 hx hx2 hy hg
      refine J.il4 dX3_leastCommonMultiple_7 ?_
      refine J.bipush dX3_leastCommonMultiple_9 kb_32 ?_
      refine J.icmp_geN (tgt := 34) dX3_leastCommonMultiple_11 (by decide) (by omega) (by omega) (fun c11 => ?_) (fun c11 => ?_)
      · refine J.il2 dX3_leastCommonMultiple_34 ?_
        refine J.if_neN (tgt := 42) dX3_leastCommonMultiple_35 (by decide) (by omega) (fun c35 => ?_) (fun c35 => absurd c35 (by first | omega | (simp only [not_true_eq_false, not_false_eq_true]; done) | (simp; done)))
        refine J.il0 dX3_leastCommonMultiple_42 ?_
        refine J.il2 dX3_leastCommonMultiple_43 ?_
        refine J.idiv dX3_leastCommonMultiple_44 (by omega) (by omega) (by omega) ?_
        refine J.il1 dX3_leastCommonMultiple_45 ?_
        refine J.imulN dX3_leastCommonMultiple_46 ?_
        refine J.iret rfl (by decide) (by decide) dX3_leastCommonMultiple_47 ⟨_, rfl, ?_, ?_⟩
        · rw [lcm_by (by rw [← hg, show y = 0 by omega, Nat.gcd_zero_right]) hx]
        · rfl
      · refine J.il3 dX3_leastCommonMultiple_14 ?_
        refine J.if_eqN (tgt := 34) dX3_leastCommonMultiple_15 (by decide) (by omega) (fun c15 => ?_) (fun c15 => ?_)
        · refine J.il2 dX3_leastCommonMultiple_34 ?_
          refine J.if_neN (tgt := 42) dX3_leastCommonMultiple_35 (by decide) (by omega) (fun c35 => ?_) (fun c35 => absurd c35 (by first | omega | (simp only [not_true_eq_false, not_false_eq_true]; done) | (simp; done)))
          refine J.il0 dX3_leastCommonMultiple_42 ?_
          refine J.il2 dX3_leastCommonMultiple_43 ?_
          refine J.idiv dX3_leastCommonMultiple_44 (by omega) (by omega) (by omega) ?_
          refine J.il1 dX3_leastCommonMultiple_45 ?_
          refine J.imulN dX3_leastCommonMultiple_46 ?_
          refine J.iret rfl (by decide) (by decide) dX3_leastCommonMultiple_47 ⟨_, rfl, ?_, ?_⟩
          · rw [lcm_by (by rw [← hg, show y = 0 by omega, Nat.gcd_zero_right]) hx]
          · rfl
        · refine J.il2 dX3_leastCommonMultiple_18 ?_
          refine J.il3 dX3_leastCommonMultiple_19 ?_
          refine J.irem dX3_leastCommonMultiple_20 (by omega) (by omega) (by omega) ?_
          refine J.is5 dX3_leastCommonMultiple_21 (by decide) rfl ?_
          refine J.il3 dX3_leastCommonMultiple_23 ?_
          refine J.is2 dX3_leastCommonMultiple_24 (by decide) rfl ?_
          refine J.il5 dX3_leastCommonMultiple_25 ?_
          refine J.is3 dX3_leastCommonMultiple_27 (by decide) rfl ?_
          refine J.ii4 (z := 1) dX3_leastCommonMultiple_28 (by decide) (by decide) rfl ?_
          refine J.goto (tgt := 7) dX3_leastCommonMultiple_31 (by decide) ?_
          have hmod := Nat.mod_lt x (show 0 < y by omega)
          exact J.subL ⟨rfl, ⟨rfl, ⟨rfl, ⟨rfl, ⟨rfl, trivial⟩⟩⟩⟩⟩ (ih7 (m + 1) y (x % y) (by omega) (by omega) (by omega) (by omega) (by omega) (by rw [← hg, Nat.gcd_comm x y, Nat.gcd_rec y x, Nat.gcd_comm]))
  exact lp7_1 (33) 0 a b (by omega) (by omega) ha ha2 (by omega) rfl

set_option maxRecDepth 100000 in
set_option maxHeartbeats 4000000 in
theorem c_orderByCycles {g : GP} {adr : Nat → Nat} (μ : Mem) {p : Nat} {f : Nat → Nat} (hp : kt p = 1) (hf : PermR μ (p + 1) f) (hB : Bij f) : CT g yX3_orderByCycles mX3_orderByCycles (RM 3 0 0) (WM g adr μ) [.ref (adr p)] (PM g adr ((.inl (some (.int nI (ordL f 32))))) (fun μ' => μ' = μ)) := by
  refine CT.of (l0 := [some (.ref (adr p)), none, none]) (by decide +kernel) rfl (Nat.le_of_ble_eq_true rfl) rfl ?_
  have hp1 := kt_p hp
  refine J.iconst dX3_orderByCycles_0 kI_1 ?_
  refine J.is1 dX3_orderByCycles_1 (by decide) rfl ?_
  refine J.iconst dX3_orderByCycles_2 kI_0 ?_
  refine J.is2 dX3_orderByCycles_3 (by decide) rfl ?_
  have lp4_1 : ∀ (n : Nat) (i c : Nat), 32 < i + n → i ≤ 32 → c = ordL f i → J g mX3_orderByCycles (RM 3 0 0) (MQx g (RM 3 0 0) (PM g adr ((.inl (some (.int nI (ordL f 32))))) (fun μ' => μ' = μ))) 0 0 (WM g adr μ) 4 [some (.ref (adr p)), some (.int (nI c)), some (.int (nI i))] [] := by
    intro n
    induction n with
    | zero => intro i c h9 hi hc; exact absurd h9 (by omega)
    | succ n ih4 =>
      intro i c h9 hi hc
      have hc2 : c ≤ 1000000 := by rw [hc]; exact ordL_le hB hi
      have hc3 : 0 < c := by rw [hc]; exact ordL_pos f i
      refine J.il2 dX3_orderByCycles_4 ?_
      refine J.bipush dX3_orderByCycles_5 kb_32 ?_
      refine J.icmp_geN (tgt := 26) dX3_orderByCycles_7 (by decide) (by omega) (by omega) (fun c7 => ?_) (fun c7 => ?_)
      · refine J.il1 dX3_orderByCycles_26 ?_
        refine J.iret rfl (by decide) (by decide) dX3_orderByCycles_27 ⟨_, rfl, ?_, ?_⟩
        · rw [show i = 32 by omega] at hc; rw [hc]
        · rfl
      · refine J.il1 dX3_orderByCycles_10 ?_
        refine J.al0 dX3_orderByCycles_11 ?_
        refine J.il2 dX3_orderByCycles_12 ?_
        have hcy13 := cyL_le f i
        refine cl_X3_47 rfl hp (k' := 0) (n' := 0) (c_cycleLength _ hp hf (by omega)) ⟨⟨by decide, by decide⟩, ⟨rfl, rfl⟩, by decide, by decide⟩ rfl dX3_orderByCycles_13 (fun μ9 h9 => ?_)
        subst h9
        refine cl_X3_56 rfl (k' := 0) (n' := 0) (c_lcm _ (by omega) (by omega) (by omega) (by omega)) ⟨⟨by decide, by decide⟩, ⟨rfl, rfl⟩, by decide, by decide⟩ rfl dX3_orderByCycles_16 (fun μ9 h9 => ?_)
        subst h9
        refine J.is1 dX3_orderByCycles_19 (by decide) rfl ?_
        refine J.ii2 (z := 1) dX3_orderByCycles_20 (by decide) (by decide) rfl ?_
        refine J.goto (tgt := 4) dX3_orderByCycles_23 (by decide) ?_
        exact ih4 (i + 1) (Nat.lcm c (cyL f i)) (by omega) (by omega) (by rw [hc]; rfl)
  exact lp4_1 (33) 0 1 (by omega) (by omega) rfl

set_option maxRecDepth 100000 in
set_option maxHeartbeats 4000000 in
theorem c_orderByDoing {g : GP} {adr : Nat → Nat} (μ : Mem) {p q : Nat} {f : Nat → Nat} (hp : kt p = 1) (hq : kt q = 1) (hn : p ≠ q) (hf : PermR μ (p + 1) f) (hB : Bij f) : CT g yX3_orderByDoing mX3_orderByDoing (RM 1 0 0) (WM g adr μ) [.ref (adr p), .ref (adr q)] (PM g adr ((.inl (some (.int nI (ordL f 32))))) (fun μ' => Off μ' μ (q + 1))) := by
  refine CT.of (l0 := [some (.ref (adr p)), some (.ref (adr q)), none]) (by decide +kernel) rfl (Nat.le_of_ble_eq_true rfl) rfl ?_
  have hp1 := kt_p hp
  have hq1 := kt_p hq
  refine J.al1 dX3_orderByDoing_0 ?_
  refine J.al0 dX3_orderByDoing_1 ?_
  refine cl_X3_33 rfl hq (k' := 0) (n' := 0) (c_toCopy _ hq hp (Ne.symm hn) hf) ⟨⟨by decide, by decide⟩, ⟨rfl, rfl⟩, by decide, by decide⟩ rfl dX3_orderByDoing_2 (fun μ2 ⟨h2, hO2⟩ => ?_)
  refine J.iconst dX3_orderByDoing_5 kI_1 ?_
  refine J.is2 dX3_orderByDoing_6 (by decide) rfl ?_
  have lp7_1 : ∀ (n : Nat) (m : Nat) (μ1 : Mem), 1000000 < m + n → 1 ≤ m → m ≤ 1000000 → PermR μ1 (q + 1) (iter f m) → Off μ1 μ (q + 1) → (∀ z, 1 ≤ z → z < m → ¬ ∀ k, k < 32 → iter f z k = k) → J g mX3_orderByDoing (RM 1 0 0) (MQx g (RM 1 0 0) (PM g adr ((.inl (some (.int nI (ordL f 32))))) (fun μ' => Off μ' μ (q + 1)))) 0 0 (WM g adr μ1) 7 [some (.ref (adr p)), some (.ref (adr q)), some (.int (nI m))] [] := by
    intro n
    induction n with
    | zero => intro m μ1 h9 h1 h2 hI hO hL; exact absurd h9 (by omega)
    | succ n ih7 =>
      intro m μ1 h9 h1 h2 hI hO hL
      refine J.il2 dX3_orderByDoing_7 ?_
      refine J.ldcI dX3_orderByDoing_8 t_816 (show (_ : Int32) = nI 1000000 by decide) ?_
      refine J.icmp_geN (tgt := 31) dX3_orderByDoing_10 (by decide) (by omega) (by omega) (fun c10 => ?_) (fun c10 => ?_)
      · refine J.il2 dX3_orderByDoing_31 ?_
        refine J.iret rfl (by decide) (by decide) dX3_orderByDoing_32 ⟨_, rfl, ?_, ?_⟩
        · rw [ord_by hB h1 h2 hL (by first | exact Or.inl (fun k hk => of_decide_eq_true (allU_iff.mp c17 k hk)) | exact Or.inr (by omega))]
        · exact hO
      · refine J.al1 dX3_orderByDoing_13 ?_
        refine cl_X3_60 rfl hq (k' := 0) (n' := 0) (c_movesNothing _ hq hI) ⟨⟨by decide, by decide⟩, ⟨rfl, rfl⟩, by decide, by decide⟩ rfl dX3_orderByDoing_14 (fun μ9 h9 => ?_)
        subst h9
        refine J.if_neB (tgt := 31) dX3_orderByDoing_17 (by decide) (fun c17 => ?_) (fun c17 => ?_)
        · refine J.il2 dX3_orderByDoing_31 ?_
          refine J.iret rfl (by decide) (by decide) dX3_orderByDoing_32 ⟨_, rfl, ?_, ?_⟩
          · rw [ord_by hB h1 h2 hL (by first | exact Or.inl (fun k hk => of_decide_eq_true (allU_iff.mp c17 k hk)) | exact Or.inr (by omega))]
          · exact hO
        · refine J.al1 dX3_orderByDoing_20 ?_
          refine J.al0 dX3_orderByDoing_21 ?_
          refine cl_X3_29 rfl hq (k' := 0) (n' := 0) (c_then _ hq hp (Ne.symm hn) hI (hf.off hO (by omega))) ⟨⟨by decide, by decide⟩, ⟨rfl, rfl⟩, by decide, by decide⟩ rfl dX3_orderByDoing_22 (fun μ3 ⟨h3, hO3⟩ => ?_)
          refine J.ii2 (z := 1) dX3_orderByDoing_25 (by decide) (by decide) rfl ?_
          refine J.goto (tgt := 7) dX3_orderByDoing_28 (by decide) ?_
          exact ih7 (m + 1) _ (by omega) (by omega) (by omega) h3 (hO3.trans hO) (fun z q1 q2 => by by_cases e : z = m
; · rw [e]; exact fun q => c17 (allU_iff.mpr (fun k hk => decide_eq_true (q k hk)))
; · exact hL z q1 (by omega))
  exact lp7_1 (1000001) 1 _ (by omega) (by omega) (by omega) h2 hO2 (fun z q1 q2 => absurd q2 (by omega))

set_option maxRecDepth 100000 in
set_option maxHeartbeats 4000000 in
theorem c_isEvenByCycles {g : GP} {adr : Nat → Nat} (μ : Mem) {p : Nat} {f : Nat → Nat} (hp : kt p = 1) (hf : PermR μ (p + 1) f) : CT g yX3_isEvenByCycles mX3_isEvenByCycles (RM 4 0 0) (WM g adr μ) [.ref (adr p)] (PM g adr ((.inl (some (.int (if evC f = true then nI 1 else nI 0))))) (fun μ' => μ' = μ)) := by
  refine CT.of (l0 := [some (.ref (adr p))]) (by decide +kernel) rfl (Nat.le_of_ble_eq_true rfl) rfl ?_
  have hp1 := kt_p hp
  have hcl := cnt_le (fun s => lowB f s && decide (1 ≤ cyL f s)) 32
  refine J.bipush dX3_isEvenByCycles_0 kb_32 ?_
  refine J.al0 dX3_isEvenByCycles_2 ?_
  refine J.iconst dX3_isEvenByCycles_3 kI_1 ?_
  refine cl_X3_64 rfl hp (k' := 0) (n' := 0) (c_countCycles _ hp hf (by omega)) ⟨⟨by decide, by decide⟩, ⟨rfl, rfl⟩, by decide, by decide⟩ rfl dX3_isEvenByCycles_4 (fun μ9 h9 => ?_)
  subst h9
  refine J.isubN dX3_isEvenByCycles_7 (by omega) ?_
  refine J.iconst dX3_isEvenByCycles_8 kI_2 ?_
  refine J.irem dX3_isEvenByCycles_9 (by omega) (by omega) (by omega) ?_
  refine J.if_neN (tgt := 17) dX3_isEvenByCycles_10 (by decide) (by omega) (fun c10 => ?_) (fun c10 => ?_)
  · refine J.iconst dX3_isEvenByCycles_17 kI_0 ?_
    refine J.zret (ty := .boolean) rfl (by decide) (by decide) (by decide) dX3_isEvenByCycles_18 ⟨_, rfl, ?_, ?_⟩
    · first | rw [if_pos (evC_by.mpr (by omega))] | rw [if_neg (fun q => absurd (evC_by.mp q) (by omega))]
    · rfl
  · refine J.iconst dX3_isEvenByCycles_13 kI_1 ?_
    refine J.goto (tgt := 18) dX3_isEvenByCycles_14 (by decide) ?_
    refine J.zret (ty := .boolean) rfl (by decide) (by decide) (by decide) dX3_isEvenByCycles_18 ⟨_, rfl, ?_, ?_⟩
    · first | rw [if_pos (evC_by.mpr (by omega))] | rw [if_neg (fun q => absurd (evC_by.mp q) (by omega))]
    · rfl

set_option maxRecDepth 100000 in
set_option maxHeartbeats 4000000 in
theorem c_isEvenByPairs {g : GP} {adr : Nat → Nat} (μ : Mem) {p : Nat} {f : Nat → Nat} (hp : kt p = 1) (hf : PermR μ (p + 1) f) : CT g yX3_isEvenByPairs mX3_isEvenByPairs (RM 0 0 0) (WM g adr μ) [.ref (adr p)] (PM g adr ((.inl (some (.int (if (invN f 32) % 2 = 0 then nI 1 else nI 0))))) (fun μ' => μ' = μ)) := by
  refine CT.of (l0 := [some (.ref (adr p)), none, none, none]) (by decide +kernel) rfl (Nat.le_of_ble_eq_true rfl) rfl ?_
  have hp1 := kt_p hp
  refine J.iconst dX3_isEvenByPairs_0 kI_1 ?_
  refine J.is1 dX3_isEvenByPairs_1 (by decide) rfl ?_
  refine J.iconst dX3_isEvenByPairs_2 kI_0 ?_
  refine J.is2 dX3_isEvenByPairs_3 (by decide) rfl ?_
  have lp4_1 : ∀ (n : Nat) (i c : Nat), 32 < i + n → i ≤ 32 → c = invN f i → J g mX3_isEvenByPairs (RM 0 0 0) (MQx g (RM 0 0 0) (PM g adr ((.inl (some (.int (if (invN f 32) % 2 = 0 then nI 1 else nI 0))))) (fun μ' => μ' = μ))) 0 0 (WM g adr μ) 4 [some (.ref (adr p)), some (.int (if c % 2 = 0 then nI 1 else nI 0)), some (.int (nI i)), none] [] := by
    intro n
    induction n with
    | zero => intro i c h9 hi hc; exact absurd h9 (by omega)
    | succ n ih4 =>
      intro i c h9 hi hc
      refine J.il2 dX3_isEvenByPairs_4 ?_
      refine J.bipush dX3_isEvenByPairs_5 kb_32 ?_
      refine J.icmp_geN (tgt := 57) dX3_isEvenByPairs_7 (by decide) (by omega) (by omega) (fun c7 => ?_) (fun c7 => ?_)
      · refine J.il1 dX3_isEvenByPairs_57 ?_
        refine J.zret (ty := .boolean) rfl (by split <;> rfl) (by decide) (by decide) dX3_isEvenByPairs_58 ⟨_, rfl, ?_, ?_⟩
        · rw [show i = 32 by omega] at hc; rw [hc]
        · rfl
      · refine J.il2 dX3_isEvenByPairs_10 ?_
        refine J.iconst dX3_isEvenByPairs_11 kI_1 ?_
        refine J.iaddN dX3_isEvenByPairs_12 ?_
        refine J.is3 dX3_isEvenByPairs_13 (by decide) rfl ?_
        have lp14_2 : ∀ (n : Nat) (j d : Nat), 32 < j + n → j ≤ 32 → i < j → d = c + cnt (fun h => decide (i < h) && decide (f h < f i)) j → J g mX3_isEvenByPairs (RM 0 0 0) (MQx g (RM 0 0 0) (PM g adr ((.inl (some (.int (if (invN f 32) % 2 = 0 then nI 1 else nI 0))))) (fun μ' => μ' = μ))) 0 0 (WM g adr μ) 14 [some (.ref (adr p)), some (.int (if d % 2 = 0 then nI 1 else nI 0)), some (.int (nI i)), some (.int (nI j))] [] := by
          intro n
          induction n with
          | zero => intro j d h9 hj hij hd; exact absurd h9 (by omega)
          | succ n ih14 =>
            intro j d h9 hj hij hd
            refine J.il3 dX3_isEvenByPairs_14 ?_
            refine J.bipush dX3_isEvenByPairs_15 kb_32 ?_
            refine J.icmp_geN (tgt := 51) dX3_isEvenByPairs_17 (by decide) (by omega) (by omega) (fun c17 => ?_) (fun c17 => ?_)
            · refine J.ii2 (z := 1) dX3_isEvenByPairs_51 (by decide) (by decide) rfl ?_
              refine J.goto (tgt := 4) dX3_isEvenByPairs_54 (by decide) ?_
              exact J.subL ⟨rfl, ⟨rfl, ⟨rfl, trivial⟩⟩⟩ (ih4 (i + 1) d (by omega) (by omega) (by rw [hd, show j = 32 by omega, hc]; rfl))
            · refine J.al0 dX3_isEvenByPairs_20 ?_
              refine gf_X3_9 rfl (o2 := p + 1) hp rfl dX3_isEvenByPairs_21 ?_
              refine J.il2 dX3_isEvenByPairs_24 ?_
              have hb3 := (hf i (by omega)).2
              refine J.iald (N := 32) (x := nI (f i)) hp1 (by decide) (by decide) (by omega) ((hf i (by omega)).1) dX3_isEvenByPairs_25 ?_
              refine J.al0 dX3_isEvenByPairs_26 ?_
              refine gf_X3_9 rfl (o2 := p + 1) hp rfl dX3_isEvenByPairs_27 ?_
              refine J.il3 dX3_isEvenByPairs_30 ?_
              have hb4 := (hf j (by omega)).2
              refine J.iald (N := 32) (x := nI (f j)) hp1 (by decide) (by decide) (by omega) ((hf j (by omega)).1) dX3_isEvenByPairs_31 ?_
              refine J.icmp_leN (tgt := 45) dX3_isEvenByPairs_32 (by decide) (by omega) (by omega) (fun c32 => ?_) (fun c32 => ?_)
              · refine J.ii3 (z := 1) dX3_isEvenByPairs_45 (by decide) (by decide) rfl ?_
                refine J.goto (tgt := 14) dX3_isEvenByPairs_48 (by decide) ?_
                exact ih14 (j + 1) d (by omega) (by omega) (by omega) (by rw [cnt_1, hd]; first | (rw [if_pos (by rw [decide_eq_true hij, decide_eq_true c32]; rfl)]) | (rw [if_neg (by rw [decide_eq_false (show ¬ f j < f i by omega)]; simp)]))
              · refine J.il1 dX3_isEvenByPairs_35 ?_
                refine J.if_neB (tgt := 43) dX3_isEvenByPairs_36 (by decide) (fun c36 => ?_) (fun c36 => ?_)
                · refine J.iconst dX3_isEvenByPairs_43 kI_0 ?_
                  refine J.is1 dX3_isEvenByPairs_44 (by decide) rfl ?_
                  refine J.ii3 (z := 1) dX3_isEvenByPairs_45 (by decide) (by decide) rfl ?_
                  refine J.goto (tgt := 14) dX3_isEvenByPairs_48 (by decide) ?_
                  have z9 := ih14 (j + 1) (d + 1) (by omega) (by omega) (by omega) (by rw [cnt_1, hd]; first | (rw [if_pos (by rw [decide_eq_true hij, decide_eq_true c32]; rfl)]) | (rw [if_neg (by rw [decide_eq_false (show ¬ f j < f i by omega)]; simp)]))
                  rw [if_neg (show ¬ (d + 1) % 2 = 0 by omega)] at z9
                  exact z9
                · refine J.iconst dX3_isEvenByPairs_39 kI_1 ?_
                  refine J.goto (tgt := 44) dX3_isEvenByPairs_40 (by decide) ?_
                  refine J.is1 dX3_isEvenByPairs_44 (by decide) rfl ?_
                  refine J.ii3 (z := 1) dX3_isEvenByPairs_45 (by decide) (by decide) rfl ?_
                  refine J.goto (tgt := 14) dX3_isEvenByPairs_48 (by decide) ?_
                  have z9 := ih14 (j + 1) (d + 1) (by omega) (by omega) (by omega) (by rw [cnt_1, hd]; first | (rw [if_pos (by rw [decide_eq_true hij, decide_eq_true c32]; rfl)]) | (rw [if_neg (by rw [decide_eq_false (show ¬ f j < f i by omega)]; simp)]))
                  rw [if_pos (show (d + 1) % 2 = 0 by omega)] at z9
                  exact z9
        exact lp14_2 (33) (i + 1) c (by omega) (by omega) (by omega) (by rw [cnt_z (fun h hh => by rw [decide_eq_false (by omega)]; rfl)]; rfl)
  exact lp4_1 (33) 0 0 (by omega) (by omega) rfl

set_option maxRecDepth 100000 in
set_option maxHeartbeats 4000000 in
theorem c_isInEitherOrder {g : GP} {adr : Nat → Nat} (μ : Mem) {p q : Nat} {f h : Nat → Nat} (hp : kt p = 1) (hq : kt q = 1) (hf : PermR μ (p + 1) f) (hh : PermR μ (q + 1) h) : CT g yX3_isInEitherOrder mX3_isInEitherOrder (RM 2 0 0) (WM g adr μ) [.ref (adr p), .ref (adr q)] (PM g adr ((.inl (some (.int (if allU (fun k => decide (h (f k) = f (h k))) 32 = true then nI 1 else nI 0))))) (fun μ' => μ' = μ)) := by
  refine CT.of (l0 := [some (.ref (adr p)), some (.ref (adr q)), none]) (by decide +kernel) rfl (Nat.le_of_ble_eq_true rfl) rfl ?_
  have hp1 := kt_p hp
  have hq1 := kt_p hq
  refine J.iconst dX3_isInEitherOrder_0 kI_0 ?_
  refine J.is2 dX3_isInEitherOrder_1 (by decide) rfl ?_
  have lp2_1 : ∀ (n : Nat) (i : Nat), 32 < i + n → i ≤ 32 → (∀ k, k < i → h (f k) = f (h k)) → J g mX3_isInEitherOrder (RM 2 0 0) (MQx g (RM 2 0 0) (PM g adr ((.inl (some (.int (if allU (fun k => decide (h (f k) = f (h k))) 32 = true then nI 1 else nI 0))))) (fun μ' => μ' = μ))) 0 0 (WM g adr μ) 2 [some (.ref (adr p)), some (.ref (adr q)), some (.int (nI i))] [] := by
    intro n
    induction n with
    | zero => intro i h9 hi hI; exact absurd h9 (by omega)
    | succ n ih2 =>
      intro i h9 hi hI
      refine J.il2 dX3_isInEitherOrder_2 ?_
      refine J.bipush dX3_isInEitherOrder_3 kb_32 ?_
      refine J.icmp_geN (tgt := 38) dX3_isInEitherOrder_5 (by decide) (by omega) (by omega) (fun c5 => ?_) (fun c5 => ?_)
      · refine J.iconst dX3_isInEitherOrder_38 kI_1 ?_
        refine J.zret (ty := .boolean) rfl (by decide) (by decide) (by decide) dX3_isInEitherOrder_39 ⟨_, rfl, ?_, ?_⟩
        · rw [if_pos (allU_iff.mpr (fun k hk => by simpa using hI k (by omega)))]
        · rfl
      · refine J.al1 dX3_isInEitherOrder_8 ?_
        refine J.al0 dX3_isInEitherOrder_9 ?_
        refine gf_X3_9 rfl (o2 := p + 1) hp rfl dX3_isInEitherOrder_10 ?_
        refine J.il2 dX3_isInEitherOrder_13 ?_
        have hb2 := (hf i (by omega)).2
        refine J.iald (N := 32) (x := nI (f i)) hp1 (by decide) (by decide) (by omega) ((hf i (by omega)).1) dX3_isInEitherOrder_14 ?_
        refine cl_X3_39 rfl hq (k' := 0) (n' := 0) (c_of _ hq hh (by omega)) ⟨⟨by decide, by decide⟩, ⟨rfl, rfl⟩, by decide, by decide⟩ rfl dX3_isInEitherOrder_15 (fun μ9 h9 => ?_)
        subst h9
        have hb3 := (hh (f i) (by omega)).2
        refine J.al0 dX3_isInEitherOrder_18 ?_
        refine J.al1 dX3_isInEitherOrder_19 ?_
        refine J.il2 dX3_isInEitherOrder_20 ?_
        refine cl_X3_39 rfl hq (k' := 0) (n' := 0) (c_of _ hq hh (by omega)) ⟨⟨by decide, by decide⟩, ⟨rfl, rfl⟩, by decide, by decide⟩ rfl dX3_isInEitherOrder_21 (fun μ9 h9 => ?_)
        subst h9
        have hb4 := (hh i (by omega)).2
        refine cl_X3_39 rfl hp (k' := 0) (n' := 0) (c_of _ hp hf (by omega)) ⟨⟨by decide, by decide⟩, ⟨rfl, rfl⟩, by decide, by decide⟩ rfl dX3_isInEitherOrder_24 (fun μ9 h9 => ?_)
        subst h9
        have hb5 := (hf (h i) (by omega)).2
        refine J.icmp_eqN (tgt := 32) dX3_isInEitherOrder_27 (by decide) (by omega) (by omega) (fun c27 => ?_) (fun c27 => ?_)
        · refine J.ii2 (z := 1) dX3_isInEitherOrder_32 (by decide) (by decide) rfl ?_
          refine J.goto (tgt := 2) dX3_isInEitherOrder_35 (by decide) ?_
          exact ih2 (i + 1) (by omega) (by omega) (lt_s hI c27)
        · refine J.iconst dX3_isInEitherOrder_30 kI_0 ?_
          refine J.zret (ty := .boolean) rfl (by decide) (by decide) (by decide) dX3_isInEitherOrder_31 ⟨_, rfl, ?_, ?_⟩
          · rw [if_neg (by rw [allU_no (k := i) (by omega) (by simpa using c27)]; decide)]
          · rfl
  exact lp2_1 (33) 0 (by omega) (by omega) (fun k hk => absurd hk (by omega))
