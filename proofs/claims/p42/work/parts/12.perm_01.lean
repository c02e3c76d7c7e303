/-! ===== printed: the rows of permutations ===== -/
theorem t_maxcode : Cond.code yJ9_max_7cf53 cJ9_max_7cf53 2 (some .int) ∈ BIG := big_t 501 (by decide +kernel) (by decide +kernel)
set_option maxRecDepth 100000 in
set_option maxHeartbeats 4000000 in
theorem c_isIndex {g : GP} {adr : Nat → Nat} (μ : Mem) {a b : Nat} (ha₉ : a < 2147483648) (hb₉ : b < 2147483648) : CT g yX7_isIndex mX7_isIndex (RM 0 0 0) (WM g adr μ) [.int (nI a), .int (nI b)] (PM g adr ((.inl (some (.int (if a < b then nI 1 else nI 0))))) (fun μ' => μ' = μ)) := by
  refine CT.of (l0 := [some (.int (nI a)), some (.int (nI b))]) (by decide +kernel) rfl (Nat.le_of_ble_eq_true rfl) rfl ?_
  refine J.il0 dX7_isIndex_0 ?_
  refine J.if_ltN (tgt := 13) dX7_isIndex_1 (by decide) (by omega) (fun c1₉ => absurd c1₉ (by first | omega | (simp only [not_true_eq_false, not_false_eq_true]; done) | (simp; done))) (fun c1₉ => ?_)
  refine J.il0 dX7_isIndex_4 ?_
  refine J.il1 dX7_isIndex_5 ?_
  refine J.icmp_geN (tgt := 13) dX7_isIndex_6 (by decide) (by omega) (by omega) (fun c6₉ => ?_) (fun c6₉ => ?_)
  · refine J.iconst dX7_isIndex_13 kI_0 ?_
    refine J.zret (ty := .boolean) rfl (by decide) (by decide) (by decide) dX7_isIndex_14 ⟨_, rfl, ?_, ?_⟩
    · rw [if_neg (by omega)]
    · rfl
  · refine J.iconst dX7_isIndex_9 kI_1 ?_
    refine J.goto (tgt := 14) dX7_isIndex_10 (by decide) ?_
    refine J.zret (ty := .boolean) rfl (by decide) (by decide) (by decide) dX7_isIndex_14 ⟨_, rfl, ?_, ?_⟩
    · rw [if_pos c6₉]
    · rfl

set_option maxRecDepth 100000 in
set_option maxHeartbeats 4000000 in
theorem c_isIndexI {g : GP} {adr : Nat → Nat} (μ : Mem) {x : Int32} {b : Nat} (hb₉ : b < 2147483648) : CT g yX7_isIndex mX7_isIndex (RM 0 0 0) (WM g adr μ) [.int x, .int (nI b)] (PM g adr ((.inl (some (.int (if (0 ≤ x ∧ x < nI b) then nI 1 else nI 0))))) (fun μ' => μ' = μ)) := by
  refine CT.of (l0 := [some (.int x), some (.int (nI b))]) (by decide +kernel) rfl (Nat.le_of_ble_eq_true rfl) rfl ?_
  refine J.il0 dX7_isIndex_0 ?_
  refine J.if_lt (tgt := 13) dX7_isIndex_1 (by decide) (fun c1₉ => ?_) (fun c1₉ => ?_)
  · refine J.iconst dX7_isIndex_13 kI_0 ?_
    refine J.zret (ty := .boolean) rfl (by decide) (by decide) (by decide) dX7_isIndex_14 ⟨_, rfl, ?_, ?_⟩
    · first | rw [if_neg (fun q => absurd q.1 (Int32.not_le.mpr c1₉))] | rw [if_neg (fun q => absurd q.2 (Int32.not_lt.mpr c6₉))]
    · rfl
  · refine J.il0 dX7_isIndex_4 ?_
    refine J.il1 dX7_isIndex_5 ?_
    refine J.icmp_ge (tgt := 13) dX7_isIndex_6 (by decide) (fun c6₉ => ?_) (fun c6₉ => ?_)
    · refine J.iconst dX7_isIndex_13 kI_0 ?_
      refine J.zret (ty := .boolean) rfl (by decide) (by decide) (by decide) dX7_isIndex_14 ⟨_, rfl, ?_, ?_⟩
      · first | rw [if_neg (fun q => absurd q.1 (Int32.not_le.mpr c1₉))] | rw [if_neg (fun q => absurd q.2 (Int32.not_lt.mpr c6₉))]
      · rfl
    · refine J.iconst dX7_isIndex_9 kI_1 ?_
      refine J.goto (tgt := 14) dX7_isIndex_10 (by decide) ?_
      refine J.zret (ty := .boolean) rfl (by decide) (by decide) (by decide) dX7_isIndex_14 ⟨_, rfl, ?_, ?_⟩
      · rw [if_pos ⟨Int32.not_lt.mp c1₉, Int32.not_le.mp c6₉⟩]
      · rfl

theorem isIndexT {g : GP} {adr : Nat → Nat} {μ : Mem} {a b : Nat} (h : a < b) (hb₉ : b < 2147483648) : CT g yX7_isIndex mX7_isIndex (RM 0 0 0) (WM g adr μ) [.int (nI a), .int (nI b)] (PM g adr (.inl (some (.int (nI 1)))) (fun μ' => μ' = μ)) := by
  have h9₉ := c_isIndex (g := g) (adr := adr) μ (a := a) (b := b) (by omega) hb₉
  rw [if_pos h] at h9₉
  exact h9₉
theorem isIndexF {g : GP} {adr : Nat → Nat} {μ : Mem} {a b : Nat} (h : b ≤ a) (ha₉ : a < 2147483648) (hb₉ : b < 2147483648) : CT g yX7_isIndex mX7_isIndex (RM 0 0 0) (WM g adr μ) [.int (nI a), .int (nI b)] (PM g adr (.inl (some (.int (nI 0)))) (fun μ' => μ' = μ)) := by
  have h9₉ := c_isIndex (g := g) (adr := adr) μ (a := a) (b := b) ha₉ hb₉
  rw [if_neg (Nat.not_lt.mpr h)] at h9₉
  exact h9₉

set_option maxRecDepth 100000 in
set_option maxHeartbeats 4000000 in
theorem c_of {g : GP} {adr : Nat → Nat} (μ : Mem) {p i : Nat} {f : Nat → Nat} (hp₉ : kt p = 1) (hf₉ : PermR μ (p + 1) f) (hi₉ : i < 32) : CT g yX3_of mX3_of (RM 1 0 0) (WM g adr μ) [.ref (adr p), .int (nI i)] (PM g adr ((.inl (some (.int (nI (f i)))))) (fun μ' => μ' = μ)) := by
  refine CT.of (l0 := [some (.ref (adr p)), some (.int (nI i))]) (by decide +kernel) rfl (Nat.le_of_ble_eq_true rfl) rfl ?_
  have hp1₉ := kt_p hp₉
  refine J.il1 dX3_of_0 ?_
  refine J.bipush dX3_of_1 kb_32 ?_
  refine cl_X3_15 rfl (k' := 0) (n' := 0) (isIndexT (by omega) (by omega)) ⟨⟨by decide, by decide⟩, ⟨rfl, rfl⟩, by decide, by decide⟩ rfl dX3_of_3 (fun μ9 h9₉ => ?_)
  rw [h9₉]; clear h9₉
  refine J.if_eqN (tgt := 18) dX3_of_6 (by decide) (by omega) (fun c6₉ => absurd c6₉ (by first | omega | (simp only [not_true_eq_false, not_false_eq_true]; done) | (simp; done))) (fun c6₉ => ?_)
  refine J.al0 dX3_of_9 ?_
  refine gf_X3_9 rfl (o2 := p + 1) hp₉ rfl dX3_of_10 ?_
  refine J.il1 dX3_of_13 ?_
  refine J.iald (N := 32) (x := nI (f i)) hp1₉ (by decide) (by decide) (by omega) ((hf₉ i (by omega)).1) dX3_of_14 ?_
  refine J.goto (tgt := 19) dX3_of_15 (by decide) ?_
  refine J.iret rfl (by decide) (by decide) dX3_of_19 ⟨_, rfl, ?_, ?_⟩
  · rfl
  · rfl

set_option maxRecDepth 100000 in
set_option maxHeartbeats 4000000 in
theorem c_toNothing {g : GP} {adr : Nat → Nat} (μ : Mem) {p : Nat} (hp₉ : kt p = 1) : CT g yX3_toNothing mX3_toNothing (RM 0 0 0) (WM g adr μ) [.ref (adr p)] (PM g adr (.inl none) (fun μ' => PermR μ' (p + 1) (fun k => k) ∧ Off μ' μ (p + 1))) := by
  refine CT.of (l0 := [some (.ref (adr p)), none]) (by decide +kernel) rfl (Nat.le_of_ble_eq_true rfl) rfl ?_
  have hp1₉ := kt_p hp₉
  refine J.iconst dX3_toNothing_0 kI_0 ?_
  refine J.is1 dX3_toNothing_1 (by decide) rfl ?_
  have lp2_1 : ∀ (fu : Nat) (i : Nat) (μ1 : Mem), 32 < i + fu → i ≤ 32 → (∀ k, k < i → μ1 (p + 1) k = nI k) → Off μ1 μ (p + 1) → J g mX3_toNothing (RM 0 0 0) (MQx g (RM 0 0 0) (PM g adr (.inl none) (fun μ' => PermR μ' (p + 1) (fun k => k) ∧ Off μ' μ (p + 1)))) 0 0 (WM g adr μ1) 2 [some (.ref (adr p)), some (.int (nI i))] [] := by
    intro fu
    induction fu with
    | zero => intro i μ1 h9₉ hi₉ hI₉ hO₉; exact absurd h9₉ (by omega)
    | succ fu ih2 =>
      intro i μ1 h9₉ hi₉ hI₉ hO₉
      refine J.il1 dX3_toNothing_2 ?_
      refine J.bipush dX3_toNothing_3 kb_32 ?_
      refine J.icmp_geN (tgt := 21) dX3_toNothing_5 (by decide) (by omega) (by omega) (fun c5₉ => ?_) (fun c5₉ => ?_)
      · refine J.vret rfl (by decide) (by decide) dX3_toNothing_21 ⟨_, rfl, ?_, ?_⟩
        · rfl
        · exact ⟨fun k hk₉ => ⟨hI₉ k (by omega), hk₉⟩, hO₉⟩
      · refine J.al0 dX3_toNothing_8 ?_
        refine gf_X3_9 rfl (o2 := p + 1) hp₉ rfl dX3_toNothing_9 ?_
        refine J.il1 dX3_toNothing_12 ?_
        refine J.il1 dX3_toNothing_13 ?_
        refine J.iast (N := 32) hp1₉ (by decide) (by decide) (by omega) dX3_toNothing_14 ?_
        refine J.ii1 (z := 1) dX3_toNothing_15 (by decide) (by decide) rfl ?_
        refine J.goto (tgt := 2) dX3_toNothing_18 (by decide) ?_
        exact ih2 (i + 1) _ (by omega) (by omega) (row_step hI₉ rfl) (Off.wr hO₉)
  exact lp2_1 (33) 0 _ (by omega) (by omega) (fun k hk₉ => absurd hk₉ (by omega)) Off.rf
