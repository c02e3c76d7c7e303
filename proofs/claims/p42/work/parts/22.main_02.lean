/-! ===== printed: the class: its helpers ===== -/
set_option maxRecDepth 100000 in
set_option maxHeartbeats 4000000 in
theorem c_needFromToOk {g : GP} {adr : Nat → Nat} (μ : Mem) {a lo hi₉ : Nat} (h1₉ : lo ≤ a) (h2₉ : a ≤ hi₉) (h3₉ : hi₉ < 2147483648) : CT g yX7_needFromTo mX7_needFromTo (RM 0 0 0) (WM g adr μ) [.int (nI a), .int (nI lo), .int (nI hi₉)] (PM g adr (.inl none) (fun μ' => μ' = μ)) := by
  refine CT.of (l0 := [some (.int (nI a)), some (.int (nI lo)), some (.int (nI hi₉))]) (by decide +kernel) rfl (Nat.le_of_ble_eq_true rfl) rfl ?_
  refine J.il0 dX7_needFromTo_0 ?_
  refine J.il1 dX7_needFromTo_1 ?_
  refine J.icmp_ltN (tgt := 10) dX7_needFromTo_2 (by decide) (by omega) (by omega) (fun c2₉ => absurd c2₉ (by first | omega | (simp only [not_true_eq_false, not_false_eq_true]; done) | (simp; done))) (fun c2₉ => ?_)
  refine J.il0 dX7_needFromTo_5 ?_
  refine J.il2 dX7_needFromTo_6 ?_
  refine J.icmp_leN (tgt := 21) dX7_needFromTo_7 (by decide) (by omega) (by omega) (fun c7₉ => ?_) (fun c7₉ => absurd c7₉ (by first | omega | (simp only [not_true_eq_false, not_false_eq_true]; done) | (simp; done)))
  refine J.vret rfl (by decide) (by decide) dX7_needFromTo_21 ⟨_, rfl, ?_, ?_⟩
  · rfl
  · rfl

set_option maxRecDepth 100000 in
set_option maxHeartbeats 4000000 in
theorem c_needFromToX {g : GP} {adr : Nat → Nat} (μ : Mem) {x : Int32} {lo hi₉ : Nat} (hx₉ : x < nI lo ∨ nI hi₉ < x) : CT g yX7_needFromTo mX7_needFromTo (RM 0 1 6) (WM g adr μ) [.int x, .int (nI lo), .int (nI hi₉)] (PM g adr (.inr "java/lang/IllegalArgumentException") (fun μ' => μ' = μ)) := by
  refine CT.of (l0 := [some (.int x), some (.int (nI lo)), some (.int (nI hi₉))]) (by decide +kernel) rfl (Nat.le_of_ble_eq_true rfl) rfl ?_
  refine J.il0 dX7_needFromTo_0 ?_
  refine J.il1 dX7_needFromTo_1 ?_
  refine J.icmp_lt (tgt := 10) dX7_needFromTo_2 (by decide) (fun c2₉ => ?_) (fun c2₉ => ?_)
  · refine J.throwSW (E := "java/lang/IllegalArgumentException") (tx := "the number is out of range") (names := ["java/lang/RuntimeException", "java/lang/Exception"]) (by decide +kernel) (by decide +kernel) t_302 t_13 rfl (by decide +kernel) (fun p ln s m args meth c C9 => C9.at at_296) ao_296 dX7_needFromTo_10 dX7_needFromTo_13 dX7_needFromTo_14 dX7_needFromTo_17 dX7_needFromTo_20 rfl rfl (by decide) (by decide) (by decide) (by decide) ⟨_, rfl, rfl, ?_⟩
    exact rfl
  · refine J.il0 dX7_needFromTo_5 ?_
    refine J.il2 dX7_needFromTo_6 ?_
    refine J.icmp_le (tgt := 21) dX7_needFromTo_7 (by decide) (fun c7₉ => absurd c7₉ (Int32.not_le.mpr (hx₉.resolve_left c2₉))) (fun c7₉ => ?_)
    refine J.throwSW (E := "java/lang/IllegalArgumentException") (tx := "the number is out of range") (names := ["java/lang/RuntimeException", "java/lang/Exception"]) (by decide +kernel) (by decide +kernel) t_302 t_13 rfl (by decide +kernel) (fun p ln s m args meth c C9 => C9.at at_296) ao_296 dX7_needFromTo_10 dX7_needFromTo_13 dX7_needFromTo_14 dX7_needFromTo_17 dX7_needFromTo_20 rfl rfl (by decide) (by decide) (by decide) (by decide) ⟨_, rfl, rfl, ?_⟩
    exact rfl

set_option maxRecDepth 100000 in
set_option maxHeartbeats 4000000 in
theorem c_refuse {g : GP} {adr : Nat → Nat} (μ : Mem) {a d : Nat} : CT g yX7_refuse mX7_refuse (RM 0 1 6) (WM g adr μ) [.ref (adr 0), .int (nI a), .int (nI d)] (PM g adr (.inr "java/lang/UnsupportedOperationException") (fun μ' => μ' = wr (wr μ 0 9 (nI a)) 0 10 (nI d))) := by
  refine CT.of (l0 := [some (.ref (adr 0)), some (.int (nI a)), some (.int (nI d))]) (by decide +kernel) rfl (Nat.le_of_ble_eq_true rfl) rfl ?_
  refine J.al0 dX7_refuse_0 ?_
  refine J.il1 dX7_refuse_1 ?_
  refine pf_X7_58 rfl (by decide) dX7_refuse_2 ?_
  refine J.al0 dX7_refuse_5 ?_
  refine J.il2 dX7_refuse_6 ?_
  refine pf_X7_61 rfl (by decide) dX7_refuse_7 ?_
  refine J.throwSW (E := "java/lang/UnsupportedOperationException") (tx := "it is refused") (names := ["java/lang/RuntimeException", "java/lang/Exception"]) (by decide +kernel) (by decide +kernel) t_416 t_15 rfl (by decide +kernel) (fun p ln s m args meth c C9 => C9.at at_333) ao_333 dX7_refuse_10 dX7_refuse_13 dX7_refuse_14 dX7_refuse_17 dX7_refuse_20 rfl rfl (by decide) (by decide) (by decide) (by decide) ⟨_, rfl, rfl, ?_⟩
  exact rfl

set_option maxRecDepth 100000 in
set_option maxHeartbeats 4000000 in
theorem c_needFilledOk {g : GP} {adr : Nat → Nat} (μ : Mem) {i : Nat} {σ : AS} (hi₉ : i < 5) (hC₉ : CS μ 1 σ) (hf₉ : aFl σ i = true) : CT g yX7_needFilled mX7_needFilled (RM 2 0 0) (WM g adr μ) [.ref (adr 0), .int (nI i)] (PM g adr (.inl none) (fun μ' => μ' = μ)) := by
  refine CT.of (l0 := [some (.ref (adr 0)), some (.int (nI i))]) (by decide +kernel) rfl (Nat.le_of_ble_eq_true rfl) rfl ?_
  refine J.al0 dX7_needFilled_0 ?_
  refine gf_X7_10 rfl (o2 := 1) (by decide) rfl dX7_needFilled_1 ?_
  refine J.il1 dX7_needFilled_4 ?_
  have hfl₉ := c_isFilled (g := g) (adr := adr) μ (t := 1) (i := i) (by decide) hi₉ hC₉
  rw [if_pos hf₉] at hfl₉
  refine cl_X7_300 rfl (by decide) (k' := 0) (n' := 0) (hfl₉) ⟨⟨by decide, by decide⟩, ⟨rfl, rfl⟩, by decide, by decide⟩ rfl dX7_needFilled_5 (fun μ9 h9₉ => ?_)
  rw [h9₉]; clear h9₉
  refine J.if_neN (tgt := 17) dX7_needFilled_8 (by decide) (by omega) (fun c8₉ => ?_) (fun c8₉ => absurd c8₉ (by first | omega | (simp only [not_true_eq_false, not_false_eq_true]; done) | (simp; done)))
  refine J.vret rfl (by decide) (by decide) dX7_needFilled_17 ⟨_, rfl, ?_, ?_⟩
  · rfl
  · rfl

set_option maxRecDepth 100000 in
set_option maxHeartbeats 4000000 in
theorem c_needFilledX {g : GP} {adr : Nat → Nat} (μ : Mem) {i : Nat} {σ : AS} (hi₉ : i < 5) (hC₉ : CS μ 1 σ) (hf₉ : ¬ aFl σ i = true) : CT g yX7_needFilled mX7_needFilled (RM 2 1 6) (WM g adr μ) [.ref (adr 0), .int (nI i)] (PM g adr (.inr "java/lang/UnsupportedOperationException") (fun μ' => μ' = wr (wr μ 0 9 (nI 3)) 0 10 (nI i))) := by
  refine CT.of (l0 := [some (.ref (adr 0)), some (.int (nI i))]) (by decide +kernel) rfl (Nat.le_of_ble_eq_true rfl) rfl ?_
  refine J.al0 dX7_needFilled_0 ?_
  refine gf_X7_10 rfl (o2 := 1) (by decide) rfl dX7_needFilled_1 ?_
  refine J.il1 dX7_needFilled_4 ?_
  have hfl₉ := c_isFilled (g := g) (adr := adr) μ (t := 1) (i := i) (by decide) hi₉ hC₉
  rw [if_neg hf₉] at hfl₉
  refine cl_X7_300 rfl (by decide) (k' := 0) (n' := 0) (hfl₉) ⟨⟨by decide, by decide⟩, ⟨rfl, rfl⟩, by decide, by decide⟩ rfl dX7_needFilled_5 (fun μ9 h9₉ => ?_)
  rw [h9₉]; clear h9₉
  refine J.if_neN (tgt := 17) dX7_needFilled_8 (by decide) (by omega) (fun c8₉ => absurd c8₉ (by first | omega | (simp only [not_true_eq_false, not_false_eq_true]; done) | (simp; done))) (fun c8₉ => ?_)
  refine J.al0 dX7_needFilled_11 ?_
  refine J.iconst dX7_needFilled_12 kI_3 ?_
  refine J.il1 dX7_needFilled_13 ?_
  refine cx_X7_102 rfl (by decide) (k' := 1) (n' := 6) (c_refuse _) ⟨⟨by decide, by decide⟩, ⟨rfl, rfl⟩, by decide, by decide⟩ rfl dX7_needFilled_14 (fun μ9 h9₉ => ?_)
  exact JX.out ⟨_, rfl, rfl, h9₉⟩ rfl rfl (by decide) (by decide)

set_option maxRecDepth 100000 in
set_option maxHeartbeats 4000000 in
theorem c_needLearntOk {g : GP} {adr : Nat → Nat} (μ : Mem) {i : Nat} {σ : AS} (hi₉ : i < 5) (hC₉ : CS μ 1 σ) (hf₉ : aFl σ i = true) : CT g yX7_needLearnt mX7_needLearnt (RM 2 0 0) (WM g adr μ) [.ref (adr 0), .int (nI i)] (PM g adr (.inl none) (fun μ' => μ' = μ)) := by
  refine CT.of (l0 := [some (.ref (adr 0)), some (.int (nI i))]) (by decide +kernel) rfl (Nat.le_of_ble_eq_true rfl) rfl ?_
  refine J.al0 dX7_needLearnt_0 ?_
  refine gf_X7_10 rfl (o2 := 1) (by decide) rfl dX7_needLearnt_1 ?_
  refine J.il1 dX7_needLearnt_4 ?_
  have hfl₉ := c_isFilled (g := g) (adr := adr) μ (t := 1) (i := i) (by decide) hi₉ hC₉
  rw [if_pos hf₉] at hfl₉
  refine cl_X7_300 rfl (by decide) (k' := 0) (n' := 0) (hfl₉) ⟨⟨by decide, by decide⟩, ⟨rfl, rfl⟩, by decide, by decide⟩ rfl dX7_needLearnt_5 (fun μ9 h9₉ => ?_)
  rw [h9₉]; clear h9₉
  refine J.if_neN (tgt := 22) dX7_needLearnt_8 (by decide) (by omega) (fun c8₉ => ?_) (fun c8₉ => absurd c8₉ (by first | omega | (simp only [not_true_eq_false, not_false_eq_true]; done) | (simp; done)))
  refine J.vret rfl (by decide) (by decide) dX7_needLearnt_22 ⟨_, rfl, ?_, ?_⟩
  · rfl
  · rfl

set_option maxRecDepth 100000 in
set_option maxHeartbeats 4000000 in
theorem c_needLearntX {g : GP} {adr : Nat → Nat} (μ : Mem) {i : Nat} {σ : AS} (hi₉ : i < 5) (hC₉ : CS μ 1 σ) (hf₉ : ¬ aFl σ i = true) : CT g yX7_needLearnt mX7_needLearnt (RM 2 1 6) (WM g adr μ) [.ref (adr 0), .int (nI i)] (PM g adr (.inr "java/util/NoSuchElementException") (fun μ' => μ' = μ)) := by
  refine CT.of (l0 := [some (.ref (adr 0)), some (.int (nI i))]) (by decide +kernel) rfl (Nat.le_of_ble_eq_true rfl) rfl ?_
  refine J.al0 dX7_needLearnt_0 ?_
  refine gf_X7_10 rfl (o2 := 1) (by decide) rfl dX7_needLearnt_1 ?_
  refine J.il1 dX7_needLearnt_4 ?_
  have hfl₉ := c_isFilled (g := g) (adr := adr) μ (t := 1) (i := i) (by decide) hi₉ hC₉
  rw [if_neg hf₉] at hfl₉
  refine cl_X7_300 rfl (by decide) (k' := 0) (n' := 0) (hfl₉) ⟨⟨by decide, by decide⟩, ⟨rfl, rfl⟩, by decide, by decide⟩ rfl dX7_needLearnt_5 (fun μ9 h9₉ => ?_)
  rw [h9₉]; clear h9₉
  refine J.if_neN (tgt := 22) dX7_needLearnt_8 (by decide) (by omega) (fun c8₉ => absurd c8₉ (by first | omega | (simp only [not_true_eq_false, not_false_eq_true]; done) | (simp; done))) (fun c8₉ => ?_)
  refine J.throwNS (tx := "there is nothing on the shelf") (wd := 1) rfl (by decide) dX7_needLearnt_11 dX7_needLearnt_14 (Or.inl ⟨dX7_needLearnt_15, rfl⟩) dX7_needLearnt_18 dX7_needLearnt_21 (by decide) (by decide) (by decide) (by decide) (JX.out ⟨_, rfl, rfl, ?_⟩ rfl rfl (by decide) (by decide))
  exact rfl

set_option maxRecDepth 100000 in
set_option maxHeartbeats 4000000 in
theorem c_doMove {g : GP} {adr : Nat → Nat} (μ : Mem) {a w b : Nat} {σ : AS} (hm₉ : mvOK a w b) (hC₉ : CS μ 1 σ) : CT g yX7_doMove mX7_doMove (RM 3 0 0) (WM g adr μ) [.ref (adr 0), .int (nI a), .int (nI w), .int (nI b)] (PM g adr (.inl none) (fun μ' => CS μ' 1 (sMv (sDo (moveF a w b) σ)) ∧ ∀ o, o ≠ 1 → o ≠ 3 → o ≠ 4 → o ≠ 234 → μ' o = μ o)) := by
  refine CT.of (l0 := [some (.ref (adr 0)), some (.int (nI a)), some (.int (nI w)), some (.int (nI b))]) (by decide +kernel) rfl (Nat.le_of_ble_eq_true rfl) rfl ?_
  have hBF₉ : Bij (moveF a w b) := moveF_bij (mv_lt hm₉)
  refine J.al0 dX7_doMove_0 ?_
  refine gf_X7_47 rfl (o2 := 233) (by decide) rfl dX7_doMove_1 ?_
  refine J.il1 dX7_doMove_4 ?_
  refine J.il2 dX7_doMove_5 ?_
  refine J.il3 dX7_doMove_6 ?_
  refine cl_X7_334 rfl (by decide) (k' := 0) (n' := 0) (c_toMove _ (by decide) (mv_wk hm₉)) ⟨⟨by decide, by decide⟩, ⟨rfl, rfl⟩, by decide, by decide⟩ rfl dX7_doMove_7 (fun μ2 ⟨h2₉, hO2₉⟩ => ?_)
  have hC2₉ : CS μ2 1 σ := hC₉.off (fun o q1₉ q2₉ => hO2₉ o (by omega))
  refine J.al0 dX7_doMove_10 ?_
  refine gf_X7_10 rfl (o2 := 1) (by decide) rfl dX7_doMove_11 ?_
  refine gf_X7_79 rfl (o2 := 2) (by decide) rfl dX7_doMove_14 ?_
  refine J.al0 dX7_doMove_17 ?_
  refine gf_X7_47 rfl (o2 := 233) (by decide) rfl dX7_doMove_18 ?_
  refine cl_X7_197 rfl (by decide) (k' := 0) (n' := 0) (c_follow _ (by decide) (by decide) hC2₉.1 hC2₉.2.1 h2₉ hC2₉.vs.1 hBF₉ (by decide)) ⟨⟨by decide, by decide⟩, ⟨rfl, rfl⟩, by decide, by decide⟩ rfl dX7_doMove_21 (fun μ3 ⟨h3₉, h4₉, hO3₉⟩ => ?_)
  have hC3₉ := hC2₉.sDo hBF₉ h3₉ h4₉ hO3₉
  have hmv₉ : μ3 1 2 = nI (aMv σ) := hC3₉.2.2.2.2.2.1
  refine J.al0 dX7_doMove_24 ?_
  refine gf_X7_10 rfl (o2 := 1) (by decide) rfl dX7_doMove_25 ?_
  refine J.dup dX7_doMove_28 rfl ?_
  refine gf_X7_288 rfl (x := nI (aMv σ)) (by decide) (hmv₉) dX7_doMove_29 ?_
  refine J.iconst dX7_doMove_32 kI_1 ?_
  refine J.iaddN dX7_doMove_33 ?_
  refine pf_X7_288 rfl (by decide) dX7_doMove_34 ?_
  refine J.vret rfl (by decide) (by decide) dX7_doMove_37 ⟨_, rfl, ?_, ?_⟩
  · rfl
  · exact ⟨hC3₉.sMv, fun o q1₉ q2₉ q3₉ q4₉ => by rw [wr_o q1₉, hO3₉ o q2₉ q3₉, hO2₉ o q4₉]⟩
